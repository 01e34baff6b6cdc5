/-! THE CLASS'S classes -/
/-- what classes says and leaves -/
def ClD (T : Int → Int) (n : Int) (S S' : St) (x : Int) : Prop := (∃ w, QW T n w ∧ iv 0 3000 w ∧ x = -1 - w ∧ S'.1 1 1 = 0 ∧ ∀ b, b ≠ 1 → (b < 33 ∨ 41 < b) → b < 200 → S'.1 b = S.1 b ∧ S'.2 b = S.2 b) ∨ (QG T n ∧ PV (qC T 6 e0 0).1 ∧ x = eC (qC T 6 e0 0).1 ∧ S'.1 1 1 = 0 ∧ S'.1 20 1 = 0 ∧ S'.1 0 9 = S.1 0 9 ∧ S'.1 42 3 = 0 ∧ S'.1 46 3 = 0 ∧ ∃ U, cP U (qC T 6 e0 0).1 ∧ S'.1 24 8 = U.1 33 8 ∧ ∀ b, 25 ≤ b → b ≤ 32 → S'.2 b = U.2 (b + 9))
def ClQ (G : xG) (B : Nat × Nat) (S : St) (cs : List va_E) (D : St → Int → Prop) : xP := fun r c1 => ∃ (x : Int) (v' : Nat → Nat) (S' : St), r = some (.int (Int32.ofInt x)) ∧ VV v' ∧ Wv G v' shC B c1 S' c1 ∧ QT G v' c1 ∧ D S' x ∧ ∀ k, 54 ≤ k → k < 107 → c1[k]? = cs[k]?
set_option maxRecDepth 100000 in
set_option maxHeartbeats 4000000 in
theorem c_classes {G : xG} {v : Nat → Nat} {B : Nat × Nat} {S : St} {cs : List va_E} {T : Int → Int} {n : Int} (d : Nat) (hd : 12 ≤ d) (hW0 : Wv G v shC B cs S cs) (hV : VV v) (hZ0 : QT G v cs) (hX : TX T n) (hTx : cTx S T n) (hB : B.1 + 6020 ≤ 600000 ∧ B.2 + 200000 ≤ 7302250) : X G yX10_classes cX10_classes 3 (some .int) d [.ref (G.1 + v 0)] cs (ClQ G (B.1 + 20, B.2 + 1200) S cs (ClD T n S)) := by
  have hTC : sb shC shC := fun _ _ h => h
  have hroom := hW0.room
  have i1 : isS 1 := by unfold isS; decide
  have i20 : isS 20 := by unfold isS; decide
  refine X.of false (by decide +kernel) (by decide) (Nat.le_of_ble_eq_true rfl) ?_
  show Z (RX10, cX10_classes, 3, some .int, false) G d _ 0 [(0, .ref (G.1 + v 0))] [] cs
  have g0 : cs[v 0]? = some (.inr (10, [.ref (G.1 + v 1), .ref (G.1 + v 3), .ref (G.1 + v 20), .ref (G.1 + v 22), .ref (G.1 + v 24), .ref (G.1 + v 33), .ref (G.1 + v 42), .ref (G.1 + v 46), .ref (G.1 + v 50), .int (Int32.ofInt (S.1 0 9))])) := hW0.at (hTC 0 _ rfl)
  refine z_new (fs := [.null, .null, .int 0]) kX0 nX10_63 aX0 bX0 dX10_classes_0 (by decide +kernel) (by omega) ?_
  have g1 : (cs ++ [.inr (0, [.null, .null, .int 0])])[v 0]? = some (.inr (10, [.ref (G.1 + v 1), .ref (G.1 + v 3), .ref (G.1 + v 20), .ref (G.1 + v 22), .ref (G.1 + v 24), .ref (G.1 + v 33), .ref (G.1 + v 42), .ref (G.1 + v 46), .ref (G.1 + v 50), .int (Int32.ofInt (S.1 0 9))])) := by
    rw [List.getElem?_append_left (at_lt g0)]
    exact g0
  refine z_dup dX10_classes_3 rfl ?_
  refine z_aload_n dX10_classes_4 rfl rfl ?_
  refine z_get kX10 fX10_12 dX10_classes_5 g1 rfl ?_
  refine z_aload_n dX10_classes_8 rfl rfl ?_
  refine z_get kX10 fX10_36 dX10_classes_9 g1 rfl ?_
  have hX0 := c_X0_init (G := G) (b1 := v 1) (b2 := v 33) 1 (Nat.le_refl _) (pre := cs) (by unfold Cp; omega) rfl
  refine z_callI (As := [_, _]) eX0_init sX0_init lX10_65 dX10_classes_12 hX0 (Nat.le_trans (by decide) hd) rfl (Nat.le_of_ble_eq_true rfl) (fun r c3 hp => ?_)
  obtain ⟨eR3, ec3⟩ := hp
  rw [eR3]
  have hW3 := hW0.ctext (by omega)
  rw [← ec3] at hW3
  obtain ⟨v2, hv2⟩ : ∃ v2, v2 = vT v cs.length := ⟨_, rfl⟩
  have e200 : cs.length = v2 200 := by rw [hv2]; exact (if_pos rfl).symm
  have ev : ∀ b : Nat, b ≠ 200 → v2 b = v b := fun b hb => by rw [hv2]; exact vT_lo hb
  have ez0 : v 0 = v2 0 := (ev 0 (by decide)).symm
  rw [← hv2] at hW3
  rw [e200, ez0]
  clear ec3 eR3 hX0 g1 g0 hv2 e200
  have fr3 : ∀ k, 54 ≤ k → k < 107 → c3[k]? = cs[k]? := fun k k1 k2 => hW3.fz ⟨k1, k2⟩
  have hV2 : VV v2 := by
    obtain ⟨a1, a2, a3, a4⟩ := hV
    refine ⟨?_, ?_, ?_, ?_⟩
    · rw [ev 0 (by decide)]; exact a1
    · rw [ev 1 (by decide)]; exact a2
    · rw [ev 3 (by decide)]; exact a3
    · rw [ev 4 (by decide)]; exact a4
  have hZ3 : QT G v2 c3 := hZ0.mv (hW3.f3 rfl) (fun a a0 a1 => ev a (by omega))
  have hW3 := hW3.base
  clear hW0 hZ0
  refine z_st (st' := [.ref (G.1 + v2 200)]) rfl ?_
  have hTx3 : cTx (sCt S) T n := hTx
  have hX0 := lX0_firstWrong (v := v2) (sh := shCT) (K := fun x S' => Cq (sCt S) S' ∧ ((QW T n x ∧ iv 0 3000 x) ∨ (QG T n ∧ x = -1 ∧ cP S' (qC T 6 e0 0).1 ∧ PV (qC T 6 e0 0).1))) 7 (Nat.le_refl _) sb_CT shCT_S sb_T hW3 (c_fw hX hTx3 rfl (fun x S' h1 h2 => ⟨h1, h2⟩))
  refine z_callV (As := []) eX0_firstWrong sX0_firstWrong lX10_68 rfl dX10_classes_15 (hW3.at (sb_T 200 _ rfl)) hX0 (Nat.le_trans (by decide) hd) rfl (Nat.le_of_ble_eq_true rfl) (fun r c4 hp => ?_)
  obtain ⟨w, S4, eR4, ⟨hq, hD⟩, hW4'⟩ := hp
  rw [eR4]
  clear eR4 hX0
  have fr4 : ∀ k, 54 ≤ k → k < 107 → c4[k]? = cs[k]? := fun k k1 k2 => (hW4'.fz ⟨k1, k2⟩).trans (fr3 k k1 k2)
  have hZ4 := hZ3.wv hW4' rfl
  have hW4 : Wv G v2 shC (B.1 + 20, B.2 + 1200) c4 S4 c4 := ((hW4'.sub sb_CT (fun _ => rfl)).base).up (by show B.1 + 1 ≤ B.1 + 20; omega) (by show B.2 + 3 ≤ B.2 + 1200; omega) (by show B.1 + 20 ≤ _; omega) (by show B.2 + 1200 ≤ _; omega)
  have lo4 : ∀ b, (b < 33 ∨ 41 < b) → b < 200 → S4.1 b = S.1 b ∧ S4.2 b = S.2 b := fun b h1 h2 => by
    refine ⟨funext fun j => ?_, ?_⟩
    · rw [hq.1 b j (by omega) (by omega)]
      exact if_neg (by omega)
    · exact hq.2 b (by omega)
  clear hW4' hW3 hZ3 fr3 hq hTx3
  have gw : rng w := by
    rcases hD with ⟨-, h⟩ | ⟨-, h, -⟩
    · exact ⟨by omega, by omega⟩
    · exact ⟨by omega, by omega⟩
  refine z_st (st' := [.int (Int32.ofInt w)]) rfl ?_
  refine z_istore_n dX10_classes_18 rfl (by decide) ?_
  refine z_loc (L' := [(0, .ref (G.1 + v2 0)), (1, .int (Int32.ofInt w))]) (List.forall_mem_cons.mpr ⟨rfl, (List.forall_mem_cons.mpr ⟨rfl, (fun _ h => nomatch h)⟩)⟩) ?_
  refine z_aload_n dX10_classes_19 rfl rfl ?_
  refine v_getR hW4 (hTC 0 _ rfl) rfl kX10 fX10_12 dX10_classes_20 ?_
  have hX0 := lX5_clear (K := fun _ S' => S' = sClr S4 1) 0 (Nat.le_refl _) hW4 i1 (fun b x h e => shC_nS b x h (e ▸ i1)) (fun _ h => h)
  refine z_callV (As := []) eX5_clear sX5_clear lX10_72 rfl dX10_classes_23 (hW4.sg i1 (fun b x h e => shC_nS b x h (e ▸ i1))).choose_spec.choose_spec.choose_spec.choose_spec.1.choose_spec.1 hX0 (Nat.le_trans (by decide) hd) rfl (Nat.le_of_ble_eq_true rfl) (fun r c5 hp => ?_)
  obtain ⟨-, S5, eR5, eS5, hW5'⟩ := hp
  rw [eR5]
  clear eR5 hX0
  have fr5 : ∀ k, 54 ≤ k → k < 107 → c5[k]? = cs[k]? := fun k k1 k2 => (hW5'.fz ⟨k1, k2⟩).trans (fr4 k k1 k2)
  have hZ5 := hZ4.wv hW5' rfl
  have hW5 := hW5'.base
  have ne5 : ∀ b, b ≠ 1 → S5.1 b = S4.1 b ∧ S5.2 b = S4.2 b := fun b h1 => by rw [eS5]; exact sClr_ne b h1
  have z5 : S5.1 1 1 = 0 := by rw [eS5]; rfl
  clear hW5' hW4 hZ4 fr4 eS5
  refine z_st (st' := []) rfl ?_
  refine z_iload_n dX10_classes_26 rfl rfl ?_
  refine z_iconst (v := Int32.ofInt (-1)) dX10_classes_27 rfl ?_
  refine i_icmp_eq (tgt := 35) dX10_classes_28 (by decide) gw (show rng (-1) from ⟨by decide, by decide⟩) (fun h17 => ?_) (fun h17 => ?_)
  · obtain ⟨hG, -, hP, hPV⟩ := hD.resolve_left (fun h => by have := h.2; omega)
    clear hD
    refine z_aload_n dX10_classes_35 rfl rfl ?_
    refine v_getR hW5 (hTC 0 _ rfl) rfl kX10 fX10_32 dX10_classes_36 ?_
    refine z_astore_n dX10_classes_39 rfl (by decide) ?_
    refine z_loc (L' := [(0, .ref (G.1 + v2 0)), (1, .int (Int32.ofInt w)), (2, .ref (G.1 + v2 24))]) (List.forall_mem_cons.mpr ⟨rfl, (List.forall_mem_cons.mpr ⟨rfl, (List.forall_mem_cons.mpr ⟨rfl, (fun _ h => nomatch h)⟩)⟩)⟩) ?_
    refine z_aload_n dX10_classes_40 rfl rfl ?_
    refine z_aload_n dX10_classes_41 rfl rfl ?_
    refine v_getR hW5 (hTC 0 _ rfl) rfl kX10 fX10_36 dX10_classes_42 ?_
    have g0 : c5[v2 0]? = some (.inr (10, [.ref (G.1 + v2 1), .ref (G.1 + v2 3), .ref (G.1 + v2 20), .ref (G.1 + v2 22), .ref (G.1 + v2 24), .ref (G.1 + v2 33), .ref (G.1 + v2 42), .ref (G.1 + v2 46), .ref (G.1 + v2 50), .int (Int32.ofInt (S5.1 0 9))])) := hW5.at (hTC 0 _ rfl)
    refine z_put kX10 fX10_32 dX10_classes_45 rfl g0 rfl rfl (Nat.le_of_ble_eq_true rfl) ?_
    refine z_aload_n dX10_classes_48 rfl rfl ?_
    refine z_aload_n dX10_classes_49 rfl rfl ?_
    refine z_put kX10 fX10_36 dX10_classes_50 rfl (set_at g0) rfl rfl (Nat.le_of_ble_eq_true rfl) ?_
    rw [List.set_set]
    have hW6 := hW5.swapS
    obtain ⟨c6, hc6⟩ : ∃ c6, c6 = c5.set (v2 0) (.inr (10, [.ref (G.1 + v2 1), .ref (G.1 + v2 3), .ref (G.1 + v2 20), .ref (G.1 + v2 22), .ref (G.1 + v2 33), .ref (G.1 + v2 24), .ref (G.1 + v2 42), .ref (G.1 + v2 46), .ref (G.1 + v2 50), .int (Int32.ofInt (S5.1 0 9))])) := ⟨_, rfl⟩
    rw [← hc6] at hW6
    show Z _ _ _ _ _ _ _ (c5.set (v2 0) (.inr (10, [.ref (G.1 + v2 1), .ref (G.1 + v2 3), .ref (G.1 + v2 20), .ref (G.1 + v2 22), .ref (G.1 + v2 33), .ref (G.1 + v2 24), .ref (G.1 + v2 42), .ref (G.1 + v2 46), .ref (G.1 + v2 50), .int (Int32.ofInt (S5.1 0 9))])))
    rw [← hc6]
    obtain ⟨v5, hv5⟩ : ∃ v5 : Nat → Nat, v5 = fun a => v2 (swS a) := ⟨_, rfl⟩
    rw [← hv5] at hW6
    have hV5 : VV v5 := by
      rw [hv5]
      exact hV2
    have hZ6 : QT G v5 c6 := hZ5.mv (hW6.f3 rfl) (fun a a0 a1 => by rw [hv5]; show v2 (swS a) = v2 a; rw [swS_ne (by omega)])
    have fr6 : ∀ k, 54 ≤ k → k < 107 → c6[k]? = cs[k]? := fun k k1 k2 => (hW6.fz ⟨k1, k2⟩).trans (fr5 k k1 k2)
    have hW6 := hW6.base
    have e5 : v2 0 = v5 0 := by rw [hv5]; rfl
    clear hZ5 hW5 g0 hc6 hv5 fr5 hV2
    refine z_aload_n dX10_classes_53 rfl rfl ?_
    rw [e5]
    refine v_getR (a := 0) hW6 (hTC 0 _ rfl) rfl kX10 fX10_42 dX10_classes_54 ?_
    have hX0 := lX1_clear (K := fun _ S' => S' = pI (sSwS S5) 42 3 0) 0 (Nat.le_refl _) hTC shC_nS hW6 (fun _ h => h)
    refine z_callV (As := []) eX1_clear sX1_clear lX10_75 rfl dX10_classes_57 (hW6.at (hTC 42 _ rfl)) hX0 (Nat.le_trans (by decide) hd) rfl (Nat.le_of_ble_eq_true rfl) (fun r c7 hp => ?_)
    obtain ⟨-, S7, eR7, eS7, hW7'⟩ := hp
    rw [eR7]
    clear eR7 hX0
    have fr7 : ∀ k, 54 ≤ k → k < 107 → c7[k]? = cs[k]? := fun k k1 k2 => (hW7'.fz ⟨k1, k2⟩).trans (fr6 k k1 k2)
    have hZ7 := hZ6.wv hW7' rfl
    have hW7 := hW7'.base
    clear hW7' hW6 hZ6 fr6
    refine z_st (st' := []) rfl ?_
    refine z_aload_n dX10_classes_60 rfl rfl ?_
    refine v_getR (a := 0) hW7 (hTC 0 _ rfl) rfl kX10 fX10_46 dX10_classes_61 ?_
    have hX0 := lX1_clear_c (K := fun _ S' => S' = pI S7 46 3 0) 0 (Nat.le_refl _) hTC shC_nS hW7 (fun _ h => h)
    refine z_callV (As := []) eX1_clear sX1_clear lX10_75 rfl dX10_classes_64 (hW7.at (hTC 46 _ rfl)) hX0 (Nat.le_trans (by decide) hd) rfl (Nat.le_of_ble_eq_true rfl) (fun r c8 hp => ?_)
    obtain ⟨-, S8, eR8, eS8, hW8'⟩ := hp
    rw [eR8]
    have fr8 : ∀ k, 54 ≤ k → k < 107 → c8[k]? = cs[k]? := fun k k1 k2 => (hW8'.fz ⟨k1, k2⟩).trans (fr7 k k1 k2)
    have hZ8 := hZ7.wv hW8' rfl
    have hW8 := hW8'.base
    have ne8 : ∀ b, b ≠ 46 → S8.1 b = S7.1 b ∧ S8.2 b = S7.2 b := fun b h1 => by rw [eS8]; exact pI_ne b h1
    have z8 : S8.1 46 3 = 0 := by rw [eS8]; rfl
    clear hW8' eS8
    clear eR8 hX0 hW7 hZ7 fr7
    refine z_st (st' := []) rfl ?_
    refine z_aload_n dX10_classes_67 rfl rfl ?_
    refine v_getR (a := 0) hW8 (hTC 0 _ rfl) rfl kX10 fX10_23 dX10_classes_68 ?_
    have hX0 := lX5_clear (K := fun _ S' => S' = sClr S8 20) 0 (Nat.le_refl _) hW8 i20 (fun b x h e => shC_nS b x h (e ▸ i20)) (fun _ h => h)
    refine z_callV (As := []) eX5_clear sX5_clear lX10_72 rfl dX10_classes_71 (hW8.sg i20 (fun b x h e => shC_nS b x h (e ▸ i20))).choose_spec.choose_spec.choose_spec.choose_spec.1.choose_spec.1 hX0 (Nat.le_trans (by decide) hd) rfl (Nat.le_of_ble_eq_true rfl) (fun r c9 hp => ?_)
    obtain ⟨-, S9, eR9, eS9, hW9'⟩ := hp
    rw [eR9]
    clear eR9 hX0
    have fr9 : ∀ k, 54 ≤ k → k < 107 → c9[k]? = cs[k]? := fun k k1 k2 => (hW9'.fz ⟨k1, k2⟩).trans (fr8 k k1 k2)
    have hZ9 := hZ8.wv hW9' rfl
    have hW9 := hW9'.base
    have ne98 : ∀ b, b ≠ 20 → S9.1 b = S8.1 b ∧ S9.2 b = S8.2 b := fun b h1 => by rw [eS9]; exact sClr_ne b h1
    have ne9 : ∀ b, b ≠ 20 → b ≠ 46 → S9.1 b = S7.1 b ∧ S9.2 b = S7.2 b := fun b h1 h2 => ⟨(ne98 b h1).1.trans (ne8 b h2).1, (ne98 b h1).2.trans (ne8 b h2).2⟩
    have z46 : S9.1 46 3 = 0 := (congrFun (ne98 46 (by decide)).1 3).trans z8
    have z9 : S9.1 20 1 = 0 := by rw [eS9]; rfl
    clear hW9' hW8 hZ8 fr8 eS9
    refine z_st (st' := []) rfl ?_
    refine z_aload_n dX10_classes_74 rfl rfl ?_
    refine v_getR (a := 0) hW9 (hTC 0 _ rfl) rfl kX10 fX10_32 dX10_classes_75 ?_
    have hX0 := lX4_size (K := fun r S' => S' = S9 ∧ r = S9.1 24 8) 0 (Nat.le_refl _) hTC shC_nS hW9 (fun _ => ⟨rfl, rfl⟩)
    refine z_callV (As := []) eX4_size sX4_size lX10_76 rfl dX10_classes_78 (hW9.at (hTC 24 _ rfl)) hX0 (Nat.le_trans (by decide) hd) rfl (Nat.le_of_ble_eq_true rfl) (fun r c10 hp => ?_)
    obtain ⟨r10, S10, eR10, ⟨eS10, h10⟩, hW10⟩ := hp
    rw [eS10] at hW10
    rw [eR10]
    have hZ10 := hZ9.wv hW10 rfl
    refine z_st (st' := [.int (Int32.ofInt r10)]) rfl ?_
    have a24 : S9.1 24 8 = S4.1 33 8 := by
      rw [(ne9 24 (by decide) (by decide)).1, eS7]
      show S5.1 33 8 = _
      rw [(ne5 33 (by decide)).1]
    refine z_ireturn dX10_classes_81 rfl rfl ⟨r10, v5, S9, rfl, hV5, hW10.base, hZ10, Or.inr ⟨hG, hPV, ?_, ?_, z9, ?_, ?_, z46, S4, hP, a24, fun b b1 b2 => ?_⟩, fun k k1 k2 => (hW10.fz ⟨k1, k2⟩).trans (fr9 k k1 k2)⟩
    · rw [h10, a24]
      exact hP.1
    · rw [(ne9 1 (by decide) (by decide)).1, eS7]
      exact z5
    · rw [(ne9 0 (by decide) (by decide)).1, eS7]
      show S5.1 0 9 = _
      rw [(ne5 0 (by decide)).1, (lo4 0 (by decide) (by decide)).1]
    · rw [(ne9 42 (by decide) (by decide)).1, eS7]
      rfl
    · rw [(ne9 b (by omega) (by omega)).2, eS7]
      show S5.2 (swS b) = _
      have e : swS b = b + 9 := if_pos ⟨by omega, by omega⟩
      rw [e, (ne5 (b + 9) (by omega)).2]
  · obtain ⟨hw1, hw2⟩ := hD.resolve_right (fun h => h17 h.2.1)
    refine z_iconst (v := Int32.ofInt (-1)) dX10_classes_31 rfl ?_
    refine z_iload_n dX10_classes_32 rfl rfl ?_
    refine i_isub dX10_classes_33 ?_
    exact z_ireturn dX10_classes_34 rfl rfl ⟨-1 - w, v2, S5, rfl, hV2, hW5, hZ5, Or.inl ⟨w, hw1, hw2, rfl, z5, fun b b1 b2 b3 => ⟨(ne5 b b1).1.trans (lo4 b b2 b3).1, (ne5 b b1).2.trans (lo4 b b2 b3).2⟩⟩, fr5⟩

