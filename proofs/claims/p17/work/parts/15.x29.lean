def wX3_isPlaced_18 (m : Nat)  (l1 : Int) (S : St) (K : Int → St → Prop) : Prop := (rng (l1) ∧ (wX6_nameFrom (l1) S (fun r2 S1 => (wX6_nameTo (l1) S1 (fun r5 S4 => (rng (r2) ∧ (rng (r5) ∧ (wX4_readableClass (r2) (r5) S4 (fun r7 S6 => (rng (r7) ∧ (wX3_begins m (l1) (r7) S6 (fun r11 S10 => (iv 0 1 (r11) ∧ K (r11) S10)))))))))))))
set_option maxRecDepth 100000 in
set_option maxHeartbeats 4000000 in
theorem ubX3_isPlaced_18 {G : xG} {v : Nat → Nat} {sh : Nat → Option Sh} {B : Nat × Nat} {c0 : List va_E} {m : Nat} {d : Nat} {Post : xP} {l1 : Int} {S : St} {cs : List va_E} {K : Int → St → Prop} (hd : 8 ≤ d) (hm : m ≤ 200) (hT : sb shC sh) (hS : ∀ b x, sh b = some x → ¬ isS b) (hU : sb (shMe m) sh) (hW : Wv G v sh B c0 S cs) (hP : ∀ (x : Int) (S : St) (cs : List va_E), K x S → Wv G v sh B c0 S cs → Post (some (.int (Int32.ofInt x))) cs)  (hw : wX3_isPlaced_18 m l1 S K ) : Z (RX3, cX3_isPlaced, 3, some .boolean, false) G d Post 18 [(0, .ref (G.1 + v 230)), (1, .int (Int32.ofInt (l1)))] [] cs := by
  unfold wX3_isPlaced_18 at hw
  refine z_aload_n dX3_isPlaced_18 rfl rfl ?_
  refine z_iload_n dX3_isPlaced_19 rfl rfl ?_
  refine z_aload_n dX3_isPlaced_20 rfl rfl ?_
  refine v_getR hW (hU 230 _ rfl) rfl kX3 fX3_15 dX3_isPlaced_21 ?_
  refine z_aload_n dX3_isPlaced_24 rfl rfl ?_
  refine v_getR hW (hU 230 _ rfl) rfl kX3 fX3_29 dX3_isPlaced_25 ?_
  refine z_aload_n dX3_isPlaced_28 rfl rfl ?_
  refine v_getR hW (hU 230 _ rfl) rfl kX3 fX3_19 dX3_isPlaced_29 ?_
  refine z_iload_n dX3_isPlaced_32 rfl rfl ?_
  obtain ⟨q3, hw⟩ := hw
  have hX := lX6_nameFrom 1 (Nat.le_refl _) hT hS (sbt sbX6_X3 hU) hW q3 hw
  refine z_callV (As := [_]) eX6_nameFrom sX6_nameFrom lX3_88 rfl dX3_isPlaced_33 (hW.at (hU 3 _ rfl)) hX (Nat.le_trans (by decide) hd) rfl (Nat.le_of_ble_eq_true rfl) (fun r cs hp => ?_)
  obtain ⟨r2, S1, rfl, hw, hW⟩ := hp
  refine z_st (st' := [.int (Int32.ofInt (r2)), .ref (G.1 + v 1), .ref (G.1 + v 24), .int (Int32.ofInt (l1)), .ref (G.1 + v 230)]) rfl ?_
  refine z_aload_n dX3_isPlaced_36 rfl rfl ?_
  refine v_getR hW (hU 230 _ rfl) rfl kX3 fX3_19 dX3_isPlaced_37 ?_
  refine z_iload_n dX3_isPlaced_40 rfl rfl ?_
  have hX := lX6_nameTo 1 (Nat.le_refl _) hT hS (sbt sbX6_X3 hU) hW q3 hw
  refine z_callV (As := [_]) eX6_nameTo sX6_nameTo lX3_91 rfl dX3_isPlaced_41 (hW.at (hU 3 _ rfl)) hX (Nat.le_trans (by decide) hd) rfl (Nat.le_of_ble_eq_true rfl) (fun r cs hp => ?_)
  obtain ⟨r5, S4, rfl, hw, hW⟩ := hp
  refine z_st (st' := [.int (Int32.ofInt (r5)), .int (Int32.ofInt (r2)), .ref (G.1 + v 1), .ref (G.1 + v 24), .int (Int32.ofInt (l1)), .ref (G.1 + v 230)]) rfl ?_
  obtain ⟨q8, hw⟩ := hw
  obtain ⟨q9, hw⟩ := hw
  have hX := lX4_readableClass 2 (Nat.le_refl _) hT hS hW q8 q9 hw
  refine z_callV (As := [_, _, _]) eX4_readableClass sX4_readableClass lX3_94 rfl dX3_isPlaced_44 (hW.at (hT 24 _ rfl)) hX (Nat.le_trans (by decide) hd) rfl (Nat.le_of_ble_eq_true rfl) (fun r cs hp => ?_)
  obtain ⟨r7, S6, rfl, hw, hW⟩ := hp
  refine z_st (st' := [.int (Int32.ofInt (r7)), .int (Int32.ofInt (l1)), .ref (G.1 + v 230)]) rfl ?_
  obtain ⟨q12, hw⟩ := hw
  have hX := lX3_begins 2 (Nat.le_refl _) hm hT hS hU hW q3 q12 hw
  refine z_callV (As := [_, _]) eX3_begins sX3_begins lX3_100 rfl dX3_isPlaced_47 (hW.at (hU 230 _ rfl)) hX (Nat.le_trans (by decide) hd) rfl (Nat.le_of_ble_eq_true rfl) (fun r cs hp => ?_)
  obtain ⟨r11, S10, rfl, hw, hW⟩ := hp
  refine z_st (st' := [.int (Int32.ofInt (r11))]) rfl ?_
  obtain ⟨q13, hw⟩ := hw
  exact z_ireturn dX3_isPlaced_50 rfl (nar01 (b01 q13)) (hP _ _ _ hw hW)
def wX3_isPlaced (m : Nat)  (a1 : Int) (S : St) (K : Int → St → Prop) : Prop := rng a1 → (wX6_parent (a1) S (fun r2 S1 => (rng (r2) ∧ ((r2 < 0 → wX3_isPlaced_18 m (a1) S1 K) ∧ ((¬ (r2 < 0)) → ((r2 < a1 → ((0 : Int) ≤ r2 ∧ r2 < (m : Int) ∧ (iv (-2147483648) 2147483647 (S1.2 231 (r2)) → ((¬ S1.2 231 (r2) = 1 → ((0 : Int) ≤ r2 ∧ r2 < (m : Int) ∧ (iv (-2147483648) 2147483647 (S1.2 231 (r2)) → ((¬ S1.2 231 (r2) = 2 → ((0 : Int) ≤ a1 ∧ a1 < (m : Int) ∧ (∀ S13, S13 = pA S1 231 (a1) (5) → K (1) S13))) ∧ ((¬ (¬ S1.2 231 (r2) = 2)) → ((0 : Int) ≤ r2 ∧ r2 < (m : Int) ∧ (iv 0 29 (S1.2 232 (r2)) → ((0 : Int) ≤ r2 ∧ r2 < (m : Int) ∧ (iv (-2147483648) 2147483647 (S1.2 233 (r2)) → (wX3_isPlacedInList m (a1) (S1.2 232 (r2)) (S1.2 233 (r2)) S1 (fun r19 S18 => (iv 0 1 (r19) ∧ K (r19) S18)))))))))))) ∧ ((¬ (¬ S1.2 231 (r2) = 1)) → ((0 : Int) ≤ r2 ∧ r2 < (m : Int) ∧ (iv 0 29 (S1.2 232 (r2)) → (wX3_isPlacedInObject m (a1) (S1.2 232 (r2)) S1 (fun r24 S23 => (iv 0 1 (r24) ∧ K (r24) S23)))))))))) ∧ ((¬ (r2 < a1)) → wX3_isPlaced_18 m (a1) S1 K)))))))
set_option maxRecDepth 100000 in
set_option maxHeartbeats 4000000 in
theorem lX3_isPlaced {G : xG} {v : Nat → Nat} {sh : Nat → Option Sh} {B : Nat × Nat} {c0 : List va_E} {m : Nat}  {a1 : Int} {S : St} {cs : List va_E} {K : Int → St → Prop} (d : Nat) (hd : 8 ≤ d) (hm : m ≤ 200) (hT : sb shC sh) (hS : ∀ b x, sh b = some x → ¬ isS b) (hU : sb (shMe m) sh) (hW : Wv G v sh B c0 S cs) (g1 : rng a1) (hw : wX3_isPlaced m a1 S K) : X G yX3_isPlaced cX3_isPlaced 3 (some .boolean) d [.ref (G.1 + v 230), .int (Int32.ofInt a1)] cs (vI G v sh B c0 K) := by
  refine X.of false (by decide +kernel) (by decide) (Nat.le_of_ble_eq_true rfl) ?_
  show Z (RX3, cX3_isPlaced, 3, some .boolean, false) G d _ 0 [(0, .ref (G.1 + v 230)), (1, .int (Int32.ofInt a1))] [] cs
  have hP : ∀ (x : Int) (S : St) (cs : List va_E), K x S → Wv G v sh B c0 S cs → vI G v sh B c0 K (some (.int (Int32.ofInt x))) cs := fun x S cs a b => ⟨x, S, rfl, a, b⟩
  unfold wX3_isPlaced at hw
  have hw := hw g1
  refine z_aload_n dX3_isPlaced_0 rfl rfl ?_
  refine v_getR hW (hU 230 _ rfl) rfl kX3 fX3_19 dX3_isPlaced_1 ?_
  refine z_iload_n dX3_isPlaced_4 rfl rfl ?_
  have hX := lX6_parent 1 (Nat.le_refl _) hT hS (sbt sbX6_X3 hU) hW g1 hw
  refine z_callV (As := [_]) eX6_parent sX6_parent lX3_84 rfl dX3_isPlaced_5 (hW.at (hU 3 _ rfl)) hX (Nat.le_trans (by decide) hd) rfl (Nat.le_of_ble_eq_true rfl) (fun r cs hp => ?_)
  obtain ⟨r2, S1, rfl, hw, hW⟩ := hp
  refine z_st (st' := [.int (Int32.ofInt (r2))]) rfl ?_
  refine z_istore_n dX3_isPlaced_8 rfl (by decide) ?_
  refine z_loc (L' := [(0, .ref (G.1 + v 230)), (1, .int (Int32.ofInt (a1))), (2, .int (Int32.ofInt (r2)))]) (List.forall_mem_cons.mpr ⟨rfl, (List.forall_mem_cons.mpr ⟨rfl, (List.forall_mem_cons.mpr ⟨rfl, (fun _ h => nomatch h)⟩)⟩)⟩) ?_
  refine z_iload_n dX3_isPlaced_9 rfl rfl ?_
  obtain ⟨q4, hw⟩ := hw
  refine i_if_lt (tgt := 18) dX3_isPlaced_10 (by decide) q4 (fun h3 => ?_) (fun h3 => ?_)
  · have hw := hw.1 h3
    refine z_loc (L' := [(0, .ref (G.1 + v 230)), (1, .int (Int32.ofInt (a1)))]) (List.forall_mem_cons.mpr ⟨rfl, (List.forall_mem_cons.mpr ⟨rfl, (fun _ h => nomatch h)⟩)⟩) ?_
    exact ubX3_isPlaced_18 hd hm hT hS hU hW hP  hw
  · have hw := hw.2 h3
    refine z_iload_n dX3_isPlaced_13 rfl rfl ?_
    refine z_iload_n dX3_isPlaced_14 rfl rfl ?_
    refine i_icmp_lt (tgt := 51) dX3_isPlaced_15 (by decide) q4 g1 (fun h5 => ?_) (fun h5 => ?_)
    · have hw := hw.1 h5
      refine z_aload_n dX3_isPlaced_51 rfl rfl ?_
      refine v_getR hW (hU 230 _ rfl) rfl kX3 fX3_54 dX3_isPlaced_52 ?_
      refine z_iload_n dX3_isPlaced_55 rfl rfl ?_
      obtain ⟨q6a, q6b, hw⟩ := hw
      have q7 : iv (-2147483648) 2147483647 (S1.2 231 (r2)) := hW.iA 231 _
      have hw := hw q7
      refine v_iald hW (hU 231 _ rfl) q6a q6b (m_lt hm) dX3_isPlaced_56 ?_
      refine z_iconst (v := Int32.ofInt 1) dX3_isPlaced_57 rfl ?_
      refine i_icmp_ne (tgt := 73) dX3_isPlaced_58 (by decide) (rngq q7 (by decide) (by decide)) ⟨by decide, by decide⟩ (fun h8 => ?_) (fun h8 => ?_)
      · have hw := hw.1 h8
        refine z_aload_n dX3_isPlaced_73 rfl rfl ?_
        refine v_getR hW (hU 230 _ rfl) rfl kX3 fX3_54 dX3_isPlaced_74 ?_
        refine z_iload_n dX3_isPlaced_77 rfl rfl ?_
        obtain ⟨q9a, q9b, hw⟩ := hw
        have q10 : iv (-2147483648) 2147483647 (S1.2 231 (r2)) := hW.iA 231 _
        have hw := hw q10
        refine v_iald hW (hU 231 _ rfl) q9a q9b (m_lt hm) dX3_isPlaced_78 ?_
        refine z_iconst (v := Int32.ofInt 2) dX3_isPlaced_79 rfl ?_
        refine i_icmp_ne (tgt := 101) dX3_isPlaced_80 (by decide) (rngq q10 (by decide) (by decide)) ⟨by decide, by decide⟩ (fun h11 => ?_) (fun h11 => ?_)
        · have hw := hw.1 h11
          refine z_aload_n dX3_isPlaced_101 rfl rfl ?_
          refine v_getR hW (hU 230 _ rfl) rfl kX3 fX3_54 dX3_isPlaced_102 ?_
          refine z_iload_n dX3_isPlaced_105 rfl rfl ?_
          refine z_iconst (v := Int32.ofInt 5) dX3_isPlaced_106 rfl ?_
          obtain ⟨q12a, q12b, hw⟩ := hw
          refine v_iast hW (hU 231 _ rfl) (by decide) (by unfold isS; decide) q12a q12b (m_lt hm) ⟨by decide, by decide⟩ dX3_isPlaced_107 (fun cs hW => ?_)
          obtain ⟨S13, hS13⟩ : ∃ x, x = pA S1 231 (a1) (5) := ⟨_, rfl⟩
          rw [← hS13] at hW
          have hw := hw S13 hS13
          refine z_iconst (v := Int32.ofInt 1) dX3_isPlaced_108 rfl ?_
          exact z_ireturn dX3_isPlaced_109 rfl (nar01 (by decide)) (hP _ _ _ hw hW)
        · have hw := hw.2 h11
          refine z_aload_n dX3_isPlaced_83 rfl rfl ?_
          refine z_iload_n dX3_isPlaced_84 rfl rfl ?_
          refine z_aload_n dX3_isPlaced_85 rfl rfl ?_
          refine v_getR hW (hU 230 _ rfl) rfl kX3 fX3_57 dX3_isPlaced_86 ?_
          refine z_iload_n dX3_isPlaced_89 rfl rfl ?_
          obtain ⟨q14a, q14b, hw⟩ := hw
          have q15 : iv 0 29 (S1.2 232 (r2)) := hW.iA 232 _
          have hw := hw q15
          refine v_iald hW (hU 232 _ rfl) q14a q14b (m_lt hm) dX3_isPlaced_90 ?_
          refine z_aload_n dX3_isPlaced_91 rfl rfl ?_
          refine v_getR hW (hU 230 _ rfl) rfl kX3 fX3_60 dX3_isPlaced_92 ?_
          refine z_iload_n dX3_isPlaced_95 rfl rfl ?_
          obtain ⟨q16a, q16b, hw⟩ := hw
          have q17 : iv (-2147483648) 2147483647 (S1.2 233 (r2)) := hW.iA 233 _
          have hw := hw q17
          refine v_iald hW (hU 233 _ rfl) q16a q16b (m_lt hm) dX3_isPlaced_96 ?_
          have hX := lX3_isPlacedInList 6 (Nat.le_refl _) hm hT hS hU hW g1 (rngq q15 (by decide) (by decide)) (rngq q17 (by decide) (by decide)) hw
          refine z_callV (As := [_, _, _]) eX3_isPlacedInList sX3_isPlacedInList lX3_107 rfl dX3_isPlaced_97 (hW.at (hU 230 _ rfl)) hX (Nat.le_trans (by decide) hd) rfl (Nat.le_of_ble_eq_true rfl) (fun r cs hp => ?_)
          obtain ⟨r19, S18, rfl, hw, hW⟩ := hp
          refine z_st (st' := [.int (Int32.ofInt (r19))]) rfl ?_
          obtain ⟨q20, hw⟩ := hw
          exact z_ireturn dX3_isPlaced_100 rfl (nar01 (b01 q20)) (hP _ _ _ hw hW)
      · have hw := hw.2 h8
        refine z_aload_n dX3_isPlaced_61 rfl rfl ?_
        refine z_iload_n dX3_isPlaced_62 rfl rfl ?_
        refine z_aload_n dX3_isPlaced_63 rfl rfl ?_
        refine v_getR hW (hU 230 _ rfl) rfl kX3 fX3_57 dX3_isPlaced_64 ?_
        refine z_iload_n dX3_isPlaced_67 rfl rfl ?_
        obtain ⟨q21a, q21b, hw⟩ := hw
        have q22 : iv 0 29 (S1.2 232 (r2)) := hW.iA 232 _
        have hw := hw q22
        refine v_iald hW (hU 232 _ rfl) q21a q21b (m_lt hm) dX3_isPlaced_68 ?_
        have hX := lX3_isPlacedInObject 7 (Nat.le_refl _) hm hT hS hU hW g1 (rngq q22 (by decide) (by decide)) hw
        refine z_callV (As := [_, _]) eX3_isPlacedInObject sX3_isPlacedInObject lX3_104 rfl dX3_isPlaced_69 (hW.at (hU 230 _ rfl)) hX (Nat.le_trans (by decide) hd) rfl (Nat.le_of_ble_eq_true rfl) (fun r cs hp => ?_)
        obtain ⟨r24, S23, rfl, hw, hW⟩ := hp
        refine z_st (st' := [.int (Int32.ofInt (r24))]) rfl ?_
        obtain ⟨q25, hw⟩ := hw
        exact z_ireturn dX3_isPlaced_72 rfl (nar01 (b01 q25)) (hP _ _ _ hw hW)
    · have hw := hw.2 h5
      refine z_loc (L' := [(0, .ref (G.1 + v 230)), (1, .int (Int32.ofInt (a1)))]) (List.forall_mem_cons.mpr ⟨rfl, (List.forall_mem_cons.mpr ⟨rfl, (fun _ h => nomatch h)⟩)⟩) ?_
      exact ubX3_isPlaced_18 hd hm hT hS hU hW hP  hw

def wX6_isSolid  (a1 : Int) (S : St) (K : Int → St → Prop) : Prop := rng a1 → (wX6_has (a1) S (fun r2 S1 => (rng (r2) ∧ ((r2 = 0 → K (0) S1) ∧ ((¬ (r2 = 0)) → ((0 : Int) ≤ a1 ∧ a1 < (200 : Int) ∧ (iv 0 1 (S1.2 15 (a1)) → ((S1.2 15 (a1) = 0 → K (0) S1) ∧ ((¬ (S1.2 15 (a1) = 0)) → K (1) S1)))))))))
set_option maxRecDepth 100000 in
set_option maxHeartbeats 4000000 in
theorem lX6_isSolid {G : xG} {v : Nat → Nat} {sh : Nat → Option Sh} {B : Nat × Nat} {c0 : List va_E}  {a1 : Int} {S : St} {cs : List va_E} {K : Int → St → Prop} (d : Nat) (hd : 1 ≤ d) (hT : sb shC sh) (hS : ∀ b x, sh b = some x → ¬ isS b) (hU : sb shTr sh) (hW : Wv G v sh B c0 S cs) (g1 : rng a1) (hw : wX6_isSolid a1 S K) : X G yX6_isSolid cX6_isSolid 2 (some .boolean) d [.ref (G.1 + v 3), .int (Int32.ofInt a1)] cs (vI G v sh B c0 K) := by
  refine X.of false (by decide +kernel) (by decide) (Nat.le_of_ble_eq_true rfl) ?_
  show Z (RX6, cX6_isSolid, 2, some .boolean, false) G d _ 0 [(0, .ref (G.1 + v 3)), (1, .int (Int32.ofInt a1))] [] cs
  have hP : ∀ (x : Int) (S : St) (cs : List va_E), K x S → Wv G v sh B c0 S cs → vI G v sh B c0 K (some (.int (Int32.ofInt x))) cs := fun x S cs a b => ⟨x, S, rfl, a, b⟩
  unfold wX6_isSolid at hw
  have hw := hw g1
  refine z_aload_n dX6_isSolid_0 rfl rfl ?_
  refine z_iload_n dX6_isSolid_1 rfl rfl ?_
  have hX := lX6_has 0 (Nat.le_refl _) hT hS hU hW g1 hw
  refine z_callV (As := [_]) eX6_has sX6_has lX6_75 rfl dX6_isSolid_2 (hW.at (hU 3 _ rfl)) hX (Nat.le_trans (by decide) hd) rfl (Nat.le_of_ble_eq_true rfl) (fun r cs hp => ?_)
  obtain ⟨r2, S1, rfl, hw, hW⟩ := hp
  refine z_st (st' := [.int (Int32.ofInt (r2))]) rfl ?_
  obtain ⟨q4, hw⟩ := hw
  refine i_if_eq (tgt := 21) dX6_isSolid_5 (by decide) q4 (fun h3 => ?_) (fun h3 => ?_)
  · have hw := hw.1 h3
    refine z_iconst (v := Int32.ofInt 0) dX6_isSolid_21 rfl ?_
    exact z_ireturn dX6_isSolid_22 rfl (nar01 (by decide)) (hP _ _ _ hw hW)
  · have hw := hw.2 h3
    refine z_aload_n dX6_isSolid_8 rfl rfl ?_
    refine v_getR hW (hU 3 _ rfl) rfl kX6 fX6_49 dX6_isSolid_9 ?_
    refine z_iload_n dX6_isSolid_12 rfl rfl ?_
    obtain ⟨q5a, q5b, hw⟩ := hw
    have q6 : iv 0 1 (S1.2 15 (a1)) := hW.iA 15 _
    have hw := hw q6
    refine v_zald hW (hT 15 _ rfl) q5a q5b (by decide) dX6_isSolid_13 ?_
    refine i_if_eq (tgt := 21) dX6_isSolid_14 (by decide) (rngq q6 (by decide) (by decide)) (fun h7 => ?_) (fun h7 => ?_)
    · have hw := hw.1 h7
      refine z_iconst (v := Int32.ofInt 0) dX6_isSolid_21 rfl ?_
      exact z_ireturn dX6_isSolid_22 rfl (nar01 (by decide)) (hP _ _ _ hw hW)
    · have hw := hw.2 h7
      refine z_iconst (v := Int32.ofInt 1) dX6_isSolid_17 rfl ?_
      refine z_goto (tgt := 22) dX6_isSolid_18 (by decide) ?_
      exact z_ireturn dX6_isSolid_22 rfl (nar01 (by decide)) (hP _ _ _ hw hW)

def wX6_keyFrom  (a1 : Int) (S : St) (K : Int → St → Prop) : Prop := rng a1 → (wX6_hasAttribute (a1) S (fun r2 S1 => (rng (r2) ∧ ((r2 = 0 → K (0) S1) ∧ ((¬ (r2 = 0)) → ((0 : Int) ≤ a1 ∧ a1 < (600 : Int) ∧ (iv (-2147483648) 2147483647 (S1.2 16 (a1)) → K (S1.2 16 (a1)) S1)))))))
set_option maxRecDepth 100000 in
set_option maxHeartbeats 4000000 in
theorem lX6_keyFrom {G : xG} {v : Nat → Nat} {sh : Nat → Option Sh} {B : Nat × Nat} {c0 : List va_E}  {a1 : Int} {S : St} {cs : List va_E} {K : Int → St → Prop} (d : Nat) (hd : 1 ≤ d) (hT : sb shC sh) (hS : ∀ b x, sh b = some x → ¬ isS b) (hU : sb shTr sh) (hW : Wv G v sh B c0 S cs) (g1 : rng a1) (hw : wX6_keyFrom a1 S K) : X G yX6_keyFrom cX6_keyFrom 2 (some .int) d [.ref (G.1 + v 3), .int (Int32.ofInt a1)] cs (vI G v sh B c0 K) := by
  refine X.of false (by decide +kernel) (by decide) (Nat.le_of_ble_eq_true rfl) ?_
  show Z (RX6, cX6_keyFrom, 2, some .int, false) G d _ 0 [(0, .ref (G.1 + v 3)), (1, .int (Int32.ofInt a1))] [] cs
  have hP : ∀ (x : Int) (S : St) (cs : List va_E), K x S → Wv G v sh B c0 S cs → vI G v sh B c0 K (some (.int (Int32.ofInt x))) cs := fun x S cs a b => ⟨x, S, rfl, a, b⟩
  unfold wX6_keyFrom at hw
  have hw := hw g1
  refine z_aload_n dX6_keyFrom_0 rfl rfl ?_
  refine z_iload_n dX6_keyFrom_1 rfl rfl ?_
  have hX := lX6_hasAttribute 0 (Nat.le_refl _) hT hS hU hW g1 hw
  refine z_callV (As := [_]) eX6_hasAttribute sX6_hasAttribute lX6_89 rfl dX6_keyFrom_2 (hW.at (hU 3 _ rfl)) hX (Nat.le_trans (by decide) hd) rfl (Nat.le_of_ble_eq_true rfl) (fun r cs hp => ?_)
  obtain ⟨r2, S1, rfl, hw, hW⟩ := hp
  refine z_st (st' := [.int (Int32.ofInt (r2))]) rfl ?_
  obtain ⟨q4, hw⟩ := hw
  refine i_if_eq (tgt := 17) dX6_keyFrom_5 (by decide) q4 (fun h3 => ?_) (fun h3 => ?_)
  · have hw := hw.1 h3
    refine z_iconst (v := Int32.ofInt 0) dX6_keyFrom_17 rfl ?_
    exact z_ireturn dX6_keyFrom_18 rfl rfl (hP _ _ _ hw hW)
  · have hw := hw.2 h3
    refine z_aload_n dX6_keyFrom_8 rfl rfl ?_
    refine v_getR hW (hU 3 _ rfl) rfl kX6 fX6_53 dX6_keyFrom_9 ?_
    refine z_iload_n dX6_keyFrom_12 rfl rfl ?_
    obtain ⟨q5a, q5b, hw⟩ := hw
    have q6 : iv (-2147483648) 2147483647 (S1.2 16 (a1)) := hW.iA 16 _
    have hw := hw q6
    refine v_iald hW (hT 16 _ rfl) q5a q5b (by decide) dX6_keyFrom_13 ?_
    refine z_goto (tgt := 18) dX6_keyFrom_14 (by decide) ?_
    exact z_ireturn dX6_keyFrom_18 rfl rfl (hP _ _ _ hw hW)

def wX6_keyTo  (a1 : Int) (S : St) (K : Int → St → Prop) : Prop := rng a1 → (wX6_hasAttribute (a1) S (fun r2 S1 => (rng (r2) ∧ ((r2 = 0 → K (0) S1) ∧ ((¬ (r2 = 0)) → ((0 : Int) ≤ a1 ∧ a1 < (600 : Int) ∧ (iv (-2147483648) 2147483647 (S1.2 17 (a1)) → K (S1.2 17 (a1)) S1)))))))
set_option maxRecDepth 100000 in
set_option maxHeartbeats 4000000 in
theorem lX6_keyTo {G : xG} {v : Nat → Nat} {sh : Nat → Option Sh} {B : Nat × Nat} {c0 : List va_E}  {a1 : Int} {S : St} {cs : List va_E} {K : Int → St → Prop} (d : Nat) (hd : 1 ≤ d) (hT : sb shC sh) (hS : ∀ b x, sh b = some x → ¬ isS b) (hU : sb shTr sh) (hW : Wv G v sh B c0 S cs) (g1 : rng a1) (hw : wX6_keyTo a1 S K) : X G yX6_keyTo cX6_keyTo 2 (some .int) d [.ref (G.1 + v 3), .int (Int32.ofInt a1)] cs (vI G v sh B c0 K) := by
  refine X.of false (by decide +kernel) (by decide) (Nat.le_of_ble_eq_true rfl) ?_
  show Z (RX6, cX6_keyTo, 2, some .int, false) G d _ 0 [(0, .ref (G.1 + v 3)), (1, .int (Int32.ofInt a1))] [] cs
  have hP : ∀ (x : Int) (S : St) (cs : List va_E), K x S → Wv G v sh B c0 S cs → vI G v sh B c0 K (some (.int (Int32.ofInt x))) cs := fun x S cs a b => ⟨x, S, rfl, a, b⟩
  unfold wX6_keyTo at hw
  have hw := hw g1
  refine z_aload_n dX6_keyTo_0 rfl rfl ?_
  refine z_iload_n dX6_keyTo_1 rfl rfl ?_
  have hX := lX6_hasAttribute 0 (Nat.le_refl _) hT hS hU hW g1 hw
  refine z_callV (As := [_]) eX6_hasAttribute sX6_hasAttribute lX6_89 rfl dX6_keyTo_2 (hW.at (hU 3 _ rfl)) hX (Nat.le_trans (by decide) hd) rfl (Nat.le_of_ble_eq_true rfl) (fun r cs hp => ?_)
  obtain ⟨r2, S1, rfl, hw, hW⟩ := hp
  refine z_st (st' := [.int (Int32.ofInt (r2))]) rfl ?_
  obtain ⟨q4, hw⟩ := hw
  refine i_if_eq (tgt := 17) dX6_keyTo_5 (by decide) q4 (fun h3 => ?_) (fun h3 => ?_)
  · have hw := hw.1 h3
    refine z_iconst (v := Int32.ofInt 0) dX6_keyTo_17 rfl ?_
    exact z_ireturn dX6_keyTo_18 rfl rfl (hP _ _ _ hw hW)
  · have hw := hw.2 h3
    refine z_aload_n dX6_keyTo_8 rfl rfl ?_
    refine v_getR hW (hU 3 _ rfl) rfl kX6 fX6_56 dX6_keyTo_9 ?_
    refine z_iload_n dX6_keyTo_12 rfl rfl ?_
    obtain ⟨q5a, q5b, hw⟩ := hw
    have q6 : iv (-2147483648) 2147483647 (S1.2 17 (a1)) := hW.iA 17 _
    have hw := hw q6
    refine v_iald hW (hT 17 _ rfl) q5a q5b (by decide) dX6_keyTo_13 ?_
    refine z_goto (tgt := 18) dX6_keyTo_14 (by decide) ?_
    exact z_ireturn dX6_keyTo_18 rfl rfl (hP _ _ _ hw hW)

def wX5_isAt_c_15'  (l1 l4 : Int) (S : St) (K : Int → St → Prop) (B15 : Int → Int → St → Prop) : Prop := (rng (l4) ∧ ((2 ≤ l4 → K (1) S) ∧ ((¬ (2 ≤ l4)) → (rng ((l1 + l4)) ∧ (wX5_at 1 ((l1 + l4)) S (fun r4 S3 => ((0 : Int) ≤ l4 ∧ l4 < (2 : Int) ∧ (rng (r4) ∧ ((r4 = (sch 26 (l4)) → B15 (l1) ((l4 + 1)) S3) ∧ ((¬ (r4 = (sch 26 (l4)))) → K (0) S3))))))))))
set_option maxRecDepth 100000 in
set_option maxHeartbeats 4000000 in
theorem ubX5_isAt_c_15' {G : xG} {v : Nat → Nat} {sh : Nat → Option Sh} {B : Nat × Nat} {c0 : List va_E} {d : Nat} {Post : xP} {l1 l4 : Int} {S : St} {cs : List va_E} {K : Int → St → Prop} {B15 : Int → Int → St → Prop} (hd : 4 ≤ d) (hT : sb shC sh) (hS : ∀ b x, sh b = some x → ¬ isS b) (hW : Wv G v sh B c0 S cs) (hP : ∀ (x : Int) (S : St) (cs : List va_E), K x S → Wv G v sh B c0 S cs → Post (some (.int (Int32.ofInt x))) cs) (hB15 : ∀ (l1 : Int) (l4 : Int) (S : St) (cs : List va_E), B15 l1 l4 S → Wv G v sh B c0 S cs → Z (RX5, cX5_isAt, 5, some .boolean, false) G d Post 15 [(0, .ref (G.1 + v 1)), (1, .int (Int32.ofInt (l1))), (3, .ref (G.2.2.2.1 26)), (4, .int (Int32.ofInt (l4)))] [] cs) (hw : wX5_isAt_c_15' l1 l4 S K B15) : Z (RX5, cX5_isAt, 5, some .boolean, false) G d Post 15 [(0, .ref (G.1 + v 1)), (1, .int (Int32.ofInt (l1))), (3, .ref (G.2.2.2.1 26)), (4, .int (Int32.ofInt (l4)))] [] cs := by
  unfold wX5_isAt_c_15' at hw
  refine z_iload dX5_isAt_15 rfl ?_
  refine z_aload_n dX5_isAt_17 rfl rfl ?_
  refine z_callVS (As := []) (show 26 < xN by decide) eJ0_length_8abf5 sJ0_length_8abf5 lX5_35 rfl dX5_isAt_18 (c_length 1 (Nat.le_refl _) (show 26 < xN by decide)) (Nat.le_trans (by decide) hd) rfl (Nat.le_of_ble_eq_true rfl) (fun r cs1 hp => ?_)
  obtain ⟨rfl, rfl⟩ := hp
  refine z_st (st' := [.int (Int32.ofInt (2)), .int (Int32.ofInt (l4))]) rfl ?_
  obtain ⟨q2, hw⟩ := hw
  refine i_icmp_ge (tgt := 49) dX5_isAt_21 (by decide) q2 ⟨by decide, by decide⟩ (fun h1 => ?_) (fun h1 => ?_)
  · have hw := hw.1 h1
    refine z_iconst (v := Int32.ofInt 1) dX5_isAt_49 rfl ?_
    exact z_ireturn dX5_isAt_50 rfl (nar01 (by decide)) (hP _ _ _ hw hW)
  · have hw := hw.2 h1
    refine z_aload_n dX5_isAt_24 rfl rfl ?_
    refine z_iload_n dX5_isAt_25 rfl rfl ?_
    refine z_iload dX5_isAt_26 rfl ?_
    refine i_iadd dX5_isAt_28 ?_
    obtain ⟨q5, hw⟩ := hw
    have hX := lX5_at 0 (Nat.le_refl _) hW (show isS 1 by unfold isS; decide) (fun b x h e => hS b x h (e ▸ (show isS 1 by unfold isS; decide))) q5 hw
    refine z_callV (As := [_]) eX5_at sX5_at lX5_52 rfl dX5_isAt_29 (hW.sg (show isS 1 by unfold isS; decide) (fun b x h e => hS b x h (e ▸ (show isS 1 by unfold isS; decide)))).choose_spec.choose_spec.choose_spec.choose_spec.1.choose_spec.1 hX (Nat.le_trans (by decide) hd) rfl (Nat.le_of_ble_eq_true rfl) (fun r cs hp => ?_)
    obtain ⟨r4, S3, rfl, hw, hW⟩ := hp
    refine z_st (st' := [.int (Int32.ofInt (r4))]) rfl ?_
    refine z_aload_n dX5_isAt_32 rfl rfl ?_
    refine z_iload dX5_isAt_33 rfl ?_
    obtain ⟨q6a, q6b, hw⟩ := hw
    refine z_callVS (As := [_]) (show 26 < xN by decide) eJ0_charAt_5068e sJ0_charAt_5068e lX5_40 rfl dX5_isAt_35 (c_charAt 3 (Nat.le_refl _) (show 26 < xN by decide) (oI_in (n := 2) q6a q6b (by decide))) (Nat.le_trans (by decide) hd) rfl (Nat.le_of_ble_eq_true rfl) (fun r cs1 hp => ?_)
    obtain ⟨rfl, rfl⟩ := hp
    refine z_st (st' := [.int (Int32.ofInt ((sch 26 (l4)))), .int (Int32.ofInt (r4))]) (by unfold sch; rw [Int32.ofInt_toInt]; rfl) ?_
    obtain ⟨q8, hw⟩ := hw
    refine i_icmp_eq (tgt := 43) dX5_isAt_38 (by decide) q8 (rng_of _) (fun h7 => ?_) (fun h7 => ?_)
    · have hw := hw.1 h7
      refine i_iinc (l := l4) dX5_isAt_43 rfl (by decide) ?_
      refine z_loc (L' := [(0, .ref (G.1 + v 1)), (1, .int (Int32.ofInt (l1))), (3, .ref (G.2.2.2.1 26)), (4, .int (Int32.ofInt ((l4 + 1))))]) (List.forall_mem_cons.mpr ⟨rfl, (List.forall_mem_cons.mpr ⟨rfl, (List.forall_mem_cons.mpr ⟨rfl, (List.forall_mem_cons.mpr ⟨rfl, (fun _ h => nomatch h)⟩)⟩)⟩)⟩) ?_
      refine z_goto (tgt := 15) dX5_isAt_46 (by decide) ?_
      refine z_loc (L' := [(0, .ref (G.1 + v 1)), (1, .int (Int32.ofInt (l1))), (3, .ref (G.2.2.2.1 26)), (4, .int (Int32.ofInt ((l4 + 1))))]) (List.forall_mem_cons.mpr ⟨rfl, (List.forall_mem_cons.mpr ⟨rfl, (List.forall_mem_cons.mpr ⟨rfl, (List.forall_mem_cons.mpr ⟨rfl, (fun _ h => nomatch h)⟩)⟩)⟩)⟩) ?_
      exact hB15 _ _ _ _ hw hW
    · have hw := hw.2 h7
      refine z_iconst (v := Int32.ofInt 0) dX5_isAt_41 rfl ?_
      exact z_ireturn dX5_isAt_42 rfl (nar01 (by decide)) (hP _ _ _ hw hW)
def wX5_isAt_c_15  (l1 l4 : Int) (S : St) (K : Int → St → Prop) : Prop := ∃ (Iv : Int → Int → St → Prop) (mu : Int → Int → St → Nat), Iv l1 l4 S ∧ ∀ (l1 l4 : Int) (S : St), Iv l1 l4 S → wX5_isAt_c_15' l1 l4 S K  (fun ml1 ml4 T => Iv ml1 ml4 T ∧ mu ml1 ml4 T < mu l1 l4 S)
set_option maxRecDepth 100000 in
set_option maxHeartbeats 4000000 in
theorem ubX5_isAt_c_15 {G : xG} {v : Nat → Nat} {sh : Nat → Option Sh} {B : Nat × Nat} {c0 : List va_E} {d : Nat} {Post : xP} {l1 l4 : Int} {S : St} {cs : List va_E} {K : Int → St → Prop} (hd : 4 ≤ d) (hT : sb shC sh) (hS : ∀ b x, sh b = some x → ¬ isS b) (hW : Wv G v sh B c0 S cs) (hP : ∀ (x : Int) (S : St) (cs : List va_E), K x S → Wv G v sh B c0 S cs → Post (some (.int (Int32.ofInt x))) cs)  (hw : wX5_isAt_c_15 l1 l4 S K ) : Z (RX5, cX5_isAt, 5, some .boolean, false) G d Post 15 [(0, .ref (G.1 + v 1)), (1, .int (Int32.ofInt (l1))), (3, .ref (G.2.2.2.1 26)), (4, .int (Int32.ofInt (l4)))] [] cs := by
  unfold wX5_isAt_c_15 at hw
  obtain ⟨Iv, mu, h0, hs⟩ := hw
  have key : ∀ (n : Nat) (l1 l4 : Int) (S : St) (cs : List va_E), mu l1 l4 S < n → Iv l1 l4 S → Wv G v sh B c0 S cs → Z (RX5, cX5_isAt, 5, some .boolean, false) G d Post 15 [(0, .ref (G.1 + v 1)), (1, .int (Int32.ofInt (l1))), (3, .ref (G.2.2.2.1 26)), (4, .int (Int32.ofInt (l4)))] [] cs := by
    intro n
    induction n with
    | zero => intro l1 l4 S cs hn; exact absurd hn (Nat.not_lt_zero _)
    | succ n ih =>
      intro l1 l4 S cs hn hI hW
      exact ubX5_isAt_c_15' hd hT hS hW hP  (fun l1 l4 S cs hb hW => ih l1 l4 S cs (Nat.lt_of_lt_of_le hb.2 (Nat.le_of_lt_succ hn)) hb.1 hW) (hs l1 l4 S hI)
  exact key _ _ _ _ _ (Nat.lt_succ_self _) h0 hW
def wX5_isAt_c  (a1 a2 : Int) (S : St) (K : Int → St → Prop) : Prop := rng a1 → rng a2 → (rng ((a2 - a1)) ∧ (((a2 - a1) = 2 → wX5_isAt_c_15 (a1) (0) S K) ∧ ((¬ ((a2 - a1) = 2)) → K (0) S)))
set_option maxRecDepth 100000 in
set_option maxHeartbeats 4000000 in
theorem lX5_isAt_c {G : xG} {v : Nat → Nat} {sh : Nat → Option Sh} {B : Nat × Nat} {c0 : List va_E}  {a1 a2 : Int} {S : St} {cs : List va_E} {K : Int → St → Prop} (d : Nat) (hd : 4 ≤ d) (hT : sb shC sh) (hS : ∀ b x, sh b = some x → ¬ isS b) (hW : Wv G v sh B c0 S cs) (g1 : rng a1) (g2 : rng a2) (hw : wX5_isAt_c a1 a2 S K) : X G yX5_isAt cX5_isAt 5 (some .boolean) d [.ref (G.1 + v 1), .int (Int32.ofInt a1), .int (Int32.ofInt a2), .ref (G.2.2.2.1 26)] cs (vI G v sh B c0 K) := by
  refine X.of false (by decide +kernel) (by decide) (Nat.le_of_ble_eq_true rfl) ?_
  show Z (RX5, cX5_isAt, 5, some .boolean, false) G d _ 0 [(0, .ref (G.1 + v 1)), (1, .int (Int32.ofInt a1)), (2, .int (Int32.ofInt a2)), (3, .ref (G.2.2.2.1 26))] [] cs
  have hP : ∀ (x : Int) (S : St) (cs : List va_E), K x S → Wv G v sh B c0 S cs → vI G v sh B c0 K (some (.int (Int32.ofInt x))) cs := fun x S cs a b => ⟨x, S, rfl, a, b⟩
  unfold wX5_isAt_c at hw
  have hw := hw g1 g2
  refine z_iload_n dX5_isAt_0 rfl rfl ?_
  refine z_iload_n dX5_isAt_1 rfl rfl ?_
  refine i_isub dX5_isAt_2 ?_
  refine z_aload_n dX5_isAt_3 rfl rfl ?_
  refine z_callVS (As := []) (show 26 < xN by decide) eJ0_length_8abf5 sJ0_length_8abf5 lX5_35 rfl dX5_isAt_4 (c_length 1 (Nat.le_refl _) (show 26 < xN by decide)) (Nat.le_trans (by decide) hd) rfl (Nat.le_of_ble_eq_true rfl) (fun r cs1 hp => ?_)
  obtain ⟨rfl, rfl⟩ := hp
  refine z_st (st' := [.int (Int32.ofInt (2)), .int (Int32.ofInt ((a2 - a1)))]) rfl ?_
  obtain ⟨q2, hw⟩ := hw
  refine i_icmp_eq (tgt := 12) dX5_isAt_7 (by decide) q2 ⟨by decide, by decide⟩ (fun h1 => ?_) (fun h1 => ?_)
  · have hw := hw.1 h1
    refine z_iconst (v := Int32.ofInt 0) dX5_isAt_12 rfl ?_
    refine z_istore dX5_isAt_13 (by decide) ?_
    refine z_loc (L' := [(0, .ref (G.1 + v 1)), (1, .int (Int32.ofInt (a1))), (2, .int (Int32.ofInt (a2))), (3, .ref (G.2.2.2.1 26)), (4, .int (Int32.ofInt (0)))]) (List.forall_mem_cons.mpr ⟨rfl, (List.forall_mem_cons.mpr ⟨rfl, (List.forall_mem_cons.mpr ⟨rfl, (List.forall_mem_cons.mpr ⟨rfl, (List.forall_mem_cons.mpr ⟨rfl, (fun _ h => nomatch h)⟩)⟩)⟩)⟩)⟩) ?_
    refine z_loc (L' := [(0, .ref (G.1 + v 1)), (1, .int (Int32.ofInt (a1))), (3, .ref (G.2.2.2.1 26)), (4, .int (Int32.ofInt (0)))]) (List.forall_mem_cons.mpr ⟨rfl, (List.forall_mem_cons.mpr ⟨rfl, (List.forall_mem_cons.mpr ⟨rfl, (List.forall_mem_cons.mpr ⟨rfl, (fun _ h => nomatch h)⟩)⟩)⟩)⟩) ?_
    exact ubX5_isAt_c_15 hd hT hS hW hP  hw
  · have hw := hw.2 h1
    refine z_iconst (v := Int32.ofInt 0) dX5_isAt_10 rfl ?_
    exact z_ireturn dX5_isAt_11 rfl (nar01 (by decide)) (hP _ _ _ hw hW)

def wX10_isFieldText_b_12'  (l2 l3 : Int) (S : St) (K : Int → St → Prop) (B12 : Int → Int → St → Prop) : Prop := (rng (l3) ∧ (rng (l2) ∧ ((l2 ≤ l3 → K (1) S) ∧ ((¬ (l2 ≤ l3)) → (wX5_at 4 (l3) S (fun r5 S4 => (rng (r5) ∧ ((32 ≤ r5 → B12 (l2) ((l3 + 1)) S4) ∧ ((¬ (32 ≤ r5)) → K (0) S4)))))))))
set_option maxRecDepth 100000 in
set_option maxHeartbeats 4000000 in
theorem ubX10_isFieldText_b_12' {G : xG} {v : Nat → Nat} {sh : Nat → Option Sh} {B : Nat × Nat} {c0 : List va_E} {d : Nat} {Post : xP} {l2 l3 : Int} {S : St} {cs : List va_E} {K : Int → St → Prop} {B12 : Int → Int → St → Prop} (hd : 1 ≤ d) (hT : sb shC sh) (hS : ∀ b x, sh b = some x → ¬ isS b) (hW : Wv G v sh B c0 S cs) (hP : ∀ (x : Int) (S : St) (cs : List va_E), K x S → Wv G v sh B c0 S cs → Post (some (.int (Int32.ofInt x))) cs) (hB12 : ∀ (l2 : Int) (l3 : Int) (S : St) (cs : List va_E), B12 l2 l3 S → Wv G v sh B c0 S cs → Z (RX10, cX10_isFieldText, 4, some .boolean, false) G d Post 12 [(0, .ref (G.1 + v 4)), (2, .int (Int32.ofInt (l2))), (3, .int (Int32.ofInt (l3)))] [] cs) (hw : wX10_isFieldText_b_12' l2 l3 S K B12) : Z (RX10, cX10_isFieldText, 4, some .boolean, false) G d Post 12 [(0, .ref (G.1 + v 4)), (2, .int (Int32.ofInt (l2))), (3, .int (Int32.ofInt (l3)))] [] cs := by
  unfold wX10_isFieldText_b_12' at hw
  refine z_iload_n dX10_isFieldText_12 rfl rfl ?_
  refine z_iload_n dX10_isFieldText_13 rfl rfl ?_
  obtain ⟨q2, hw⟩ := hw
  obtain ⟨q3, hw⟩ := hw
  refine i_icmp_ge (tgt := 35) dX10_isFieldText_14 (by decide) q2 q3 (fun h1 => ?_) (fun h1 => ?_)
  · have hw := hw.1 h1
    refine z_iconst (v := Int32.ofInt 1) dX10_isFieldText_35 rfl ?_
    exact z_ireturn dX10_isFieldText_36 rfl (nar01 (by decide)) (hP _ _ _ hw hW)
  · have hw := hw.2 h1
    refine z_aload_n dX10_isFieldText_17 rfl rfl ?_
    refine z_iload_n dX10_isFieldText_18 rfl rfl ?_
    have hX := lX5_at 0 (Nat.le_refl _) hW (show isS 4 by unfold isS; decide) (fun b x h e => hS b x h (e ▸ (show isS 4 by unfold isS; decide))) q2 hw
    refine z_callV (As := [_]) eX5_at sX5_at lX10_129 rfl dX10_isFieldText_19 (hW.sg (show isS 4 by unfold isS; decide) (fun b x h e => hS b x h (e ▸ (show isS 4 by unfold isS; decide)))).choose_spec.choose_spec.choose_spec.choose_spec.1.choose_spec.1 hX (Nat.le_trans (by decide) hd) rfl (Nat.le_of_ble_eq_true rfl) (fun r cs hp => ?_)
    obtain ⟨r5, S4, rfl, hw, hW⟩ := hp
    refine z_st (st' := [.int (Int32.ofInt (r5))]) rfl ?_
    refine z_bipush (v := Int32.ofInt 32) dX10_isFieldText_22 (by decide) ?_
    obtain ⟨q7, hw⟩ := hw
    refine i_icmp_ge (tgt := 29) dX10_isFieldText_24 (by decide) q7 ⟨by decide, by decide⟩ (fun h6 => ?_) (fun h6 => ?_)
    · have hw := hw.1 h6
      refine i_iinc (l := l3) dX10_isFieldText_29 rfl (by decide) ?_
      refine z_loc (L' := [(0, .ref (G.1 + v 4)), (2, .int (Int32.ofInt (l2))), (3, .int (Int32.ofInt ((l3 + 1))))]) (List.forall_mem_cons.mpr ⟨rfl, (List.forall_mem_cons.mpr ⟨rfl, (List.forall_mem_cons.mpr ⟨rfl, (fun _ h => nomatch h)⟩)⟩)⟩) ?_
      refine z_goto (tgt := 12) dX10_isFieldText_32 (by decide) ?_
      refine z_loc (L' := [(0, .ref (G.1 + v 4)), (2, .int (Int32.ofInt (l2))), (3, .int (Int32.ofInt ((l3 + 1))))]) (List.forall_mem_cons.mpr ⟨rfl, (List.forall_mem_cons.mpr ⟨rfl, (List.forall_mem_cons.mpr ⟨rfl, (fun _ h => nomatch h)⟩)⟩)⟩) ?_
      exact hB12 _ _ _ _ hw hW
    · have hw := hw.2 h6
      refine z_iconst (v := Int32.ofInt 0) dX10_isFieldText_27 rfl ?_
      exact z_ireturn dX10_isFieldText_28 rfl (nar01 (by decide)) (hP _ _ _ hw hW)
def wX10_isFieldText_b_12  (l2 l3 : Int) (S : St) (K : Int → St → Prop) : Prop := ∃ (Iv : Int → Int → St → Prop) (mu : Int → Int → St → Nat), Iv l2 l3 S ∧ ∀ (l2 l3 : Int) (S : St), Iv l2 l3 S → wX10_isFieldText_b_12' l2 l3 S K  (fun ml2 ml3 T => Iv ml2 ml3 T ∧ mu ml2 ml3 T < mu l2 l3 S)
set_option maxRecDepth 100000 in
set_option maxHeartbeats 4000000 in
theorem ubX10_isFieldText_b_12 {G : xG} {v : Nat → Nat} {sh : Nat → Option Sh} {B : Nat × Nat} {c0 : List va_E} {d : Nat} {Post : xP} {l2 l3 : Int} {S : St} {cs : List va_E} {K : Int → St → Prop} (hd : 1 ≤ d) (hT : sb shC sh) (hS : ∀ b x, sh b = some x → ¬ isS b) (hW : Wv G v sh B c0 S cs) (hP : ∀ (x : Int) (S : St) (cs : List va_E), K x S → Wv G v sh B c0 S cs → Post (some (.int (Int32.ofInt x))) cs)  (hw : wX10_isFieldText_b_12 l2 l3 S K ) : Z (RX10, cX10_isFieldText, 4, some .boolean, false) G d Post 12 [(0, .ref (G.1 + v 4)), (2, .int (Int32.ofInt (l2))), (3, .int (Int32.ofInt (l3)))] [] cs := by
  unfold wX10_isFieldText_b_12 at hw
  obtain ⟨Iv, mu, h0, hs⟩ := hw
  have key : ∀ (n : Nat) (l2 l3 : Int) (S : St) (cs : List va_E), mu l2 l3 S < n → Iv l2 l3 S → Wv G v sh B c0 S cs → Z (RX10, cX10_isFieldText, 4, some .boolean, false) G d Post 12 [(0, .ref (G.1 + v 4)), (2, .int (Int32.ofInt (l2))), (3, .int (Int32.ofInt (l3)))] [] cs := by
    intro n
    induction n with
    | zero => intro l2 l3 S cs hn; exact absurd hn (Nat.not_lt_zero _)
    | succ n ih =>
      intro l2 l3 S cs hn hI hW
      exact ubX10_isFieldText_b_12' hd hT hS hW hP  (fun l2 l3 S cs hb hW => ih l2 l3 S cs (Nat.lt_of_lt_of_le hb.2 (Nat.le_of_lt_succ hn)) hb.1 hW) (hs l2 l3 S hI)
  exact key _ _ _ _ _ (Nat.lt_succ_self _) h0 hW
def wX10_isFieldText_b  (a1 a2 : Int) (S : St) (K : Int → St → Prop) : Prop := rng a1 → rng a2 → (rng ((a2 - a1)) ∧ (((a2 - a1) ≤ 20 → wX10_isFieldText_b_12 (a2) (a1) S K) ∧ ((¬ ((a2 - a1) ≤ 20)) → K (0) S)))
set_option maxRecDepth 100000 in
set_option maxHeartbeats 4000000 in
theorem lX10_isFieldText_b {G : xG} {v : Nat → Nat} {sh : Nat → Option Sh} {B : Nat × Nat} {c0 : List va_E}  {a1 a2 : Int} {S : St} {cs : List va_E} {K : Int → St → Prop} (d : Nat) (hd : 1 ≤ d) (hT : sb shC sh) (hS : ∀ b x, sh b = some x → ¬ isS b) (hW : Wv G v sh B c0 S cs) (g1 : rng a1) (g2 : rng a2) (hw : wX10_isFieldText_b a1 a2 S K) : X G yX10_isFieldText cX10_isFieldText 4 (some .boolean) d [.ref (G.1 + v 4), .int (Int32.ofInt a1), .int (Int32.ofInt a2)] cs (vI G v sh B c0 K) := by
  refine X.of false (by decide +kernel) (by decide) (Nat.le_of_ble_eq_true rfl) ?_
  show Z (RX10, cX10_isFieldText, 4, some .boolean, false) G d _ 0 [(0, .ref (G.1 + v 4)), (1, .int (Int32.ofInt a1)), (2, .int (Int32.ofInt a2))] [] cs
  have hP : ∀ (x : Int) (S : St) (cs : List va_E), K x S → Wv G v sh B c0 S cs → vI G v sh B c0 K (some (.int (Int32.ofInt x))) cs := fun x S cs a b => ⟨x, S, rfl, a, b⟩
  unfold wX10_isFieldText_b at hw
  have hw := hw g1 g2
  refine z_iload_n dX10_isFieldText_0 rfl rfl ?_
  refine z_iload_n dX10_isFieldText_1 rfl rfl ?_
  refine i_isub dX10_isFieldText_2 ?_
  refine z_bipush (v := Int32.ofInt 20) dX10_isFieldText_3 (by decide) ?_
  obtain ⟨q2, hw⟩ := hw
  refine i_icmp_le (tgt := 10) dX10_isFieldText_5 (by decide) q2 ⟨by decide, by decide⟩ (fun h1 => ?_) (fun h1 => ?_)
  · have hw := hw.1 h1
    refine z_iload_n dX10_isFieldText_10 rfl rfl ?_
    refine z_istore_n dX10_isFieldText_11 rfl (by decide) ?_
    refine z_loc (L' := [(0, .ref (G.1 + v 4)), (1, .int (Int32.ofInt (a1))), (2, .int (Int32.ofInt (a2))), (3, .int (Int32.ofInt (a1)))]) (List.forall_mem_cons.mpr ⟨rfl, (List.forall_mem_cons.mpr ⟨rfl, (List.forall_mem_cons.mpr ⟨rfl, (List.forall_mem_cons.mpr ⟨rfl, (fun _ h => nomatch h)⟩)⟩)⟩)⟩) ?_
    refine z_loc (L' := [(0, .ref (G.1 + v 4)), (2, .int (Int32.ofInt (a2))), (3, .int (Int32.ofInt (a1)))]) (List.forall_mem_cons.mpr ⟨rfl, (List.forall_mem_cons.mpr ⟨rfl, (List.forall_mem_cons.mpr ⟨rfl, (fun _ h => nomatch h)⟩)⟩)⟩) ?_
    exact ubX10_isFieldText_b_12 hd hT hS hW hP  hw
  · have hw := hw.2 h1
    refine z_iconst (v := Int32.ofInt 0) dX10_isFieldText_8 rfl ?_
    exact z_ireturn dX10_isFieldText_9 rfl (nar01 (by decide)) (hP _ _ _ hw hW)

def wX1_putText_b_37'  (l4 l6 l7 : Int) (S : St) (K : Int → St → Prop) (B37 : Int → Int → Int → St → Prop) : Prop := (rng (l7) ∧ ((20 ≤ l7 → K 0 S) ∧ ((¬ (20 ≤ l7)) → ((0 : Int) ≤ l6 ∧ l6 < (120 : Int) ∧ (iv (-2147483648) 2147483647 (S.2 52 (l6)) → ((S.2 52 (l6) ≤ l7 → K 0 S) ∧ ((¬ (S.2 52 (l6) ≤ l7)) → (rng ((l4 + l7)) ∧ (wX5_at 4 ((l4 + l7)) S (fun r7 S6 => ((0 : Int) ≤ ((l6 * 20) + l7) ∧ ((l6 * 20) + l7) < (2400 : Int) ∧ (iv (-2147483648) 2147483647 (r7) ∧ (∀ S10, S10 = pA S6 53 (((l6 * 20) + l7)) (r7) → B37 (l4) (l6) ((l7 + 1)) S10)))))))))))))
set_option maxRecDepth 100000 in
set_option maxHeartbeats 4000000 in
theorem ubX1_putText_b_37' {G : xG} {v : Nat → Nat} {sh : Nat → Option Sh} {B : Nat × Nat} {c0 : List va_E} {d : Nat} {Post : xP} {l4 l6 l7 : Int} {S : St} {cs : List va_E} {K : Int → St → Prop} {B37 : Int → Int → Int → St → Prop} (hd : 1 ≤ d) (hT : sb shC sh) (hS : ∀ b x, sh b = some x → ¬ isS b) (hW : Wv G v sh B c0 S cs) (hP : ∀ (x : Int) (S : St) (cs : List va_E), K x S → Wv G v sh B c0 S cs → Post (none) cs) (hB37 : ∀ (l4 : Int) (l6 : Int) (l7 : Int) (S : St) (cs : List va_E), B37 l4 l6 l7 S → Wv G v sh B c0 S cs → Z (RX1, cX1_putText, 8, none, false) G d Post 37 [(0, .ref (G.1 + v 50)), (3, .ref (G.1 + v 4)), (4, .int (Int32.ofInt (l4))), (6, .int (Int32.ofInt (l6))), (7, .int (Int32.ofInt (l7)))] [] cs) (hw : wX1_putText_b_37' l4 l6 l7 S K B37) : Z (RX1, cX1_putText, 8, none, false) G d Post 37 [(0, .ref (G.1 + v 50)), (3, .ref (G.1 + v 4)), (4, .int (Int32.ofInt (l4))), (6, .int (Int32.ofInt (l6))), (7, .int (Int32.ofInt (l7)))] [] cs := by
  unfold wX1_putText_b_37' at hw
  refine z_iload dX1_putText_37 rfl ?_
  refine z_bipush (v := Int32.ofInt 20) dX1_putText_39 (by decide) ?_
  obtain ⟨q2, hw⟩ := hw
  refine i_icmp_ge (tgt := 84) dX1_putText_41 (by decide) q2 ⟨by decide, by decide⟩ (fun h1 => ?_) (fun h1 => ?_)
  · have hw := hw.1 h1
    exact z_return dX1_putText_84 rfl (hP 0 _ _ hw hW)
  · have hw := hw.2 h1
    refine z_iload dX1_putText_44 rfl ?_
    refine z_aload_n dX1_putText_46 rfl rfl ?_
    refine v_getR hW (hT 50 _ rfl) rfl kX1 fX1_15 dX1_putText_47 ?_
    refine z_iload dX1_putText_50 rfl ?_
    obtain ⟨q3a, q3b, hw⟩ := hw
    have q4 : iv (-2147483648) 2147483647 (S.2 52 (l6)) := hW.iA 52 _
    have hw := hw q4
    refine v_iald hW (hT 52 _ rfl) q3a q3b (by decide) dX1_putText_52 ?_
    refine i_icmp_ge (tgt := 84) dX1_putText_53 (by decide) q2 (rngq q4 (by decide) (by decide)) (fun h5 => ?_) (fun h5 => ?_)
    · have hw := hw.1 h5
      exact z_return dX1_putText_84 rfl (hP 0 _ _ hw hW)
    · have hw := hw.2 h5
      refine z_aload_n dX1_putText_56 rfl rfl ?_
      refine v_getR hW (hT 50 _ rfl) rfl kX1 fX1_18 dX1_putText_57 ?_
      refine z_iload dX1_putText_60 rfl ?_
      refine z_bipush (v := Int32.ofInt 20) dX1_putText_62 (by decide) ?_
      refine i_imul dX1_putText_64 ?_
      refine z_iload dX1_putText_65 rfl ?_
      refine i_iadd dX1_putText_67 ?_
      refine z_aload_n dX1_putText_68 rfl rfl ?_
      refine z_iload dX1_putText_69 rfl ?_
      refine z_iload dX1_putText_71 rfl ?_
      refine i_iadd dX1_putText_73 ?_
      obtain ⟨q8, hw⟩ := hw
      have hX := lX5_at 0 (Nat.le_refl _) hW (show isS 4 by unfold isS; decide) (fun b x h e => hS b x h (e ▸ (show isS 4 by unfold isS; decide))) q8 hw
      refine z_callV (As := [_]) eX5_at sX5_at lX1_54 rfl dX1_putText_74 (hW.sg (show isS 4 by unfold isS; decide) (fun b x h e => hS b x h (e ▸ (show isS 4 by unfold isS; decide)))).choose_spec.choose_spec.choose_spec.choose_spec.1.choose_spec.1 hX (Nat.le_trans (by decide) hd) rfl (Nat.le_of_ble_eq_true rfl) (fun r cs hp => ?_)
      obtain ⟨r7, S6, rfl, hw, hW⟩ := hp
      refine z_st (st' := [.int (Int32.ofInt (r7)), .int (Int32.ofInt (((l6 * 20) + l7))), .ref (G.1 + v 53)]) rfl ?_
      obtain ⟨q9a, q9b, hw⟩ := hw
      obtain ⟨q11, hw⟩ := hw
      refine v_iast hW (hT 53 _ rfl) (by decide) (by unfold isS; decide) q9a q9b (by decide) q11 dX1_putText_77 (fun cs hW => ?_)
      obtain ⟨S10, hS10⟩ : ∃ x, x = pA S6 53 (((l6 * 20) + l7)) (r7) := ⟨_, rfl⟩
      rw [← hS10] at hW
      have hw := hw S10 hS10
      refine i_iinc (l := l7) dX1_putText_78 rfl (by decide) ?_
      refine z_loc (L' := [(0, .ref (G.1 + v 50)), (3, .ref (G.1 + v 4)), (4, .int (Int32.ofInt (l4))), (6, .int (Int32.ofInt (l6))), (7, .int (Int32.ofInt ((l7 + 1))))]) (List.forall_mem_cons.mpr ⟨rfl, (List.forall_mem_cons.mpr ⟨rfl, (List.forall_mem_cons.mpr ⟨rfl, (List.forall_mem_cons.mpr ⟨rfl, (List.forall_mem_cons.mpr ⟨rfl, (fun _ h => nomatch h)⟩)⟩)⟩)⟩)⟩) ?_
      refine z_goto (tgt := 37) dX1_putText_81 (by decide) ?_
      refine z_loc (L' := [(0, .ref (G.1 + v 50)), (3, .ref (G.1 + v 4)), (4, .int (Int32.ofInt (l4))), (6, .int (Int32.ofInt (l6))), (7, .int (Int32.ofInt ((l7 + 1))))]) (List.forall_mem_cons.mpr ⟨rfl, (List.forall_mem_cons.mpr ⟨rfl, (List.forall_mem_cons.mpr ⟨rfl, (List.forall_mem_cons.mpr ⟨rfl, (List.forall_mem_cons.mpr ⟨rfl, (fun _ h => nomatch h)⟩)⟩)⟩)⟩)⟩) ?_
      exact hB37 _ _ _ _ _ hw hW
def wX1_putText_b_37  (l4 l6 l7 : Int) (S : St) (K : Int → St → Prop) : Prop := ∃ (Iv : Int → Int → Int → St → Prop) (mu : Int → Int → Int → St → Nat), Iv l4 l6 l7 S ∧ ∀ (l4 l6 l7 : Int) (S : St), Iv l4 l6 l7 S → wX1_putText_b_37' l4 l6 l7 S K  (fun ml4 ml6 ml7 T => Iv ml4 ml6 ml7 T ∧ mu ml4 ml6 ml7 T < mu l4 l6 l7 S)
set_option maxRecDepth 100000 in
set_option maxHeartbeats 4000000 in
theorem ubX1_putText_b_37 {G : xG} {v : Nat → Nat} {sh : Nat → Option Sh} {B : Nat × Nat} {c0 : List va_E} {d : Nat} {Post : xP} {l4 l6 l7 : Int} {S : St} {cs : List va_E} {K : Int → St → Prop} (hd : 1 ≤ d) (hT : sb shC sh) (hS : ∀ b x, sh b = some x → ¬ isS b) (hW : Wv G v sh B c0 S cs) (hP : ∀ (x : Int) (S : St) (cs : List va_E), K x S → Wv G v sh B c0 S cs → Post (none) cs)  (hw : wX1_putText_b_37 l4 l6 l7 S K ) : Z (RX1, cX1_putText, 8, none, false) G d Post 37 [(0, .ref (G.1 + v 50)), (3, .ref (G.1 + v 4)), (4, .int (Int32.ofInt (l4))), (6, .int (Int32.ofInt (l6))), (7, .int (Int32.ofInt (l7)))] [] cs := by
  unfold wX1_putText_b_37 at hw
  obtain ⟨Iv, mu, h0, hs⟩ := hw
  have key : ∀ (n : Nat) (l4 l6 l7 : Int) (S : St) (cs : List va_E), mu l4 l6 l7 S < n → Iv l4 l6 l7 S → Wv G v sh B c0 S cs → Z (RX1, cX1_putText, 8, none, false) G d Post 37 [(0, .ref (G.1 + v 50)), (3, .ref (G.1 + v 4)), (4, .int (Int32.ofInt (l4))), (6, .int (Int32.ofInt (l6))), (7, .int (Int32.ofInt (l7)))] [] cs := by
    intro n
    induction n with
    | zero => intro l4 l6 l7 S cs hn; exact absurd hn (Nat.not_lt_zero _)
    | succ n ih =>
      intro l4 l6 l7 S cs hn hI hW
      exact ubX1_putText_b_37' hd hT hS hW hP  (fun l4 l6 l7 S cs hb hW => ih l4 l6 l7 S cs (Nat.lt_of_lt_of_le hb.2 (Nat.le_of_lt_succ hn)) hb.1 hW) (hs l4 l6 l7 S hI)
  exact key _ _ _ _ _ _ (Nat.lt_succ_self _) h0 hW
def wX1_putText_b  (a1 a2 a3 a4 : Int) (S : St) (K : Int → St → Prop) : Prop := rng a1 → rng a2 → rng a3 → rng a4 → (wX1_hasField_b (a1) (a2) S (fun r2 S1 => (rng (r2) ∧ ((¬ r2 = 0 → (∀ x5 : Int, x5 = ((a1 * 4) + a2) → (rng ((a4 - a3)) ∧ ((0 : Int) ≤ x5 ∧ x5 < (120 : Int) ∧ (iv (-2147483648) 2147483647 ((if 20 < (a4 - a3) then 20 else (a4 - a3))) ∧ (∀ S8, S8 = pA S1 52 (x5) ((if 20 < (a4 - a3) then 20 else (a4 - a3))) → wX1_putText_b_37 (a3) (x5) (0) S8 K)))))) ∧ ((¬ (¬ r2 = 0)) → K 0 S1)))))
set_option maxRecDepth 100000 in
set_option maxHeartbeats 4000000 in
theorem lX1_putText_b {G : xG} {v : Nat → Nat} {sh : Nat → Option Sh} {B : Nat × Nat} {c0 : List va_E}  {a1 a2 a3 a4 : Int} {S : St} {cs : List va_E} {K : Int → St → Prop} (d : Nat) (hd : 1 ≤ d) (hT : sb shC sh) (hS : ∀ b x, sh b = some x → ¬ isS b) (hW : Wv G v sh B c0 S cs) (g1 : rng a1) (g2 : rng a2) (g3 : rng a3) (g4 : rng a4) (hw : wX1_putText_b a1 a2 a3 a4 S K) : X G yX1_putText cX1_putText 8 none d [.ref (G.1 + v 50), .int (Int32.ofInt a1), .int (Int32.ofInt a2), .ref (G.1 + v 4), .int (Int32.ofInt a3), .int (Int32.ofInt a4)] cs (vV G v sh B c0 K) := by
  refine X.of false (by decide +kernel) (by decide) (Nat.le_of_ble_eq_true rfl) ?_
  show Z (RX1, cX1_putText, 8, none, false) G d _ 0 [(0, .ref (G.1 + v 50)), (1, .int (Int32.ofInt a1)), (2, .int (Int32.ofInt a2)), (3, .ref (G.1 + v 4)), (4, .int (Int32.ofInt a3)), (5, .int (Int32.ofInt a4))] [] cs
  have hP : ∀ (x : Int) (S : St) (cs : List va_E), K x S → Wv G v sh B c0 S cs → vV G v sh B c0 K (none) cs := fun x S cs a b => ⟨x, S, rfl, a, b⟩
  unfold wX1_putText_b at hw
  have hw := hw g1 g2 g3 g4
  refine z_aload_n dX1_putText_0 rfl rfl ?_
  refine z_iload_n dX1_putText_1 rfl rfl ?_
  refine z_iload_n dX1_putText_2 rfl rfl ?_
  have hX := lX1_hasField_b 0 (Nat.le_refl _) hT hS hW g1 g2 hw
  refine z_callV (As := [_, _]) eX1_hasField sX1_hasField lX1_29 rfl dX1_putText_3 (hW.at (hT 50 _ rfl)) hX (Nat.le_trans (by decide) hd) rfl (Nat.le_of_ble_eq_true rfl) (fun r cs hp => ?_)
  obtain ⟨r2, S1, rfl, hw, hW⟩ := hp
  refine z_st (st' := [.int (Int32.ofInt (r2))]) rfl ?_
  obtain ⟨q4, hw⟩ := hw
  refine i_if_ne (tgt := 10) dX1_putText_6 (by decide) q4 (fun h3 => ?_) (fun h3 => ?_)
  · have hw := hw.1 h3
    refine z_iload_n dX1_putText_10 rfl rfl ?_
    refine z_iconst (v := Int32.ofInt 4) dX1_putText_11 rfl ?_
    refine i_imul dX1_putText_12 ?_
    refine z_iload_n dX1_putText_13 rfl rfl ?_
    refine i_iadd dX1_putText_14 ?_
    obtain ⟨x5, hx5⟩ : ∃ x : Int, x = ((a1 * 4) + a2) := ⟨_, rfl⟩
    have hw := hw x5 hx5
    refine z_st (st' := [.int (Int32.ofInt x5)]) (by rw [hx5]) ?_
    refine z_istore dX1_putText_15 (by decide) ?_
    refine z_loc (L' := [(0, .ref (G.1 + v 50)), (1, .int (Int32.ofInt (a1))), (2, .int (Int32.ofInt (a2))), (3, .ref (G.1 + v 4)), (4, .int (Int32.ofInt (a3))), (5, .int (Int32.ofInt (a4))), (6, .int (Int32.ofInt (x5)))]) (List.forall_mem_cons.mpr ⟨rfl, (List.forall_mem_cons.mpr ⟨rfl, (List.forall_mem_cons.mpr ⟨rfl, (List.forall_mem_cons.mpr ⟨rfl, (List.forall_mem_cons.mpr ⟨rfl, (List.forall_mem_cons.mpr ⟨rfl, (List.forall_mem_cons.mpr ⟨rfl, (fun _ h => nomatch h)⟩)⟩)⟩)⟩)⟩)⟩)⟩) ?_
    refine z_aload_n dX1_putText_17 rfl rfl ?_
    refine v_getR hW (hT 50 _ rfl) rfl kX1 fX1_15 dX1_putText_18 ?_
    refine z_iload dX1_putText_21 rfl ?_
    refine z_iload dX1_putText_23 rfl ?_
    refine z_iload dX1_putText_25 rfl ?_
    refine i_isub dX1_putText_27 ?_
    refine z_bipush (v := Int32.ofInt 20) dX1_putText_28 (by decide) ?_
    obtain ⟨q6, hw⟩ := hw
    refine v_mmin lX1_49 sJ9_min_7cf53 bJ9 dX1_putText_30 (Nat.le_trans (by decide) hd) (Nat.le_of_ble_eq_true rfl) q6 ⟨by decide, by decide⟩ ?_
    obtain ⟨q7a, q7b, hw⟩ := hw
    obtain ⟨q9, hw⟩ := hw
    refine v_iast hW (hT 52 _ rfl) (by decide) (by unfold isS; decide) q7a q7b (by decide) q9 dX1_putText_33 (fun cs hW => ?_)
    obtain ⟨S8, hS8⟩ : ∃ x, x = pA S1 52 (x5) ((if 20 < (a4 - a3) then 20 else (a4 - a3))) := ⟨_, rfl⟩
    rw [← hS8] at hW
    have hw := hw S8 hS8
    refine z_iconst (v := Int32.ofInt 0) dX1_putText_34 rfl ?_
    refine z_istore dX1_putText_35 (by decide) ?_
    refine z_loc (L' := [(0, .ref (G.1 + v 50)), (1, .int (Int32.ofInt (a1))), (2, .int (Int32.ofInt (a2))), (3, .ref (G.1 + v 4)), (4, .int (Int32.ofInt (a3))), (5, .int (Int32.ofInt (a4))), (6, .int (Int32.ofInt (x5))), (7, .int (Int32.ofInt (0)))]) (List.forall_mem_cons.mpr ⟨rfl, (List.forall_mem_cons.mpr ⟨rfl, (List.forall_mem_cons.mpr ⟨rfl, (List.forall_mem_cons.mpr ⟨rfl, (List.forall_mem_cons.mpr ⟨rfl, (List.forall_mem_cons.mpr ⟨rfl, (List.forall_mem_cons.mpr ⟨rfl, (List.forall_mem_cons.mpr ⟨rfl, (fun _ h => nomatch h)⟩)⟩)⟩)⟩)⟩)⟩)⟩)⟩) ?_
    refine z_loc (L' := [(0, .ref (G.1 + v 50)), (3, .ref (G.1 + v 4)), (4, .int (Int32.ofInt (a3))), (6, .int (Int32.ofInt (x5))), (7, .int (Int32.ofInt (0)))]) (List.forall_mem_cons.mpr ⟨rfl, (List.forall_mem_cons.mpr ⟨rfl, (List.forall_mem_cons.mpr ⟨rfl, (List.forall_mem_cons.mpr ⟨rfl, (List.forall_mem_cons.mpr ⟨rfl, (fun _ h => nomatch h)⟩)⟩)⟩)⟩)⟩) ?_
    exact ubX1_putText_b_37 hd hT hS hW hP  hw
  · have hw := hw.2 h3
    exact z_return dX1_putText_9 rfl (hP 0 _ _ hw hW)

