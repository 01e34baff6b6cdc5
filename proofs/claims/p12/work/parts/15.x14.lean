def wX10_take  (S : St) (K : Int → St → Prop) : Prop := (wX5_become 1 20 S (fun r2 S1 => (wX5_length 1 S1 (fun r4 S3 => K (r4) S3))))
set_option maxRecDepth 100000 in
set_option maxHeartbeats 4000000 in
theorem lX10_take {G : xG} {v : Nat → Nat} {sh : Nat → Option Sh} {B : Nat × Nat} {c0 : List va_E}  {S : St} {cs : List va_E} {K : Int → St → Prop} (d : Nat) (hd : 3 ≤ d) (hT : sb shC sh) (hS : ∀ b x, sh b = some x → ¬ isS b) (hW : Wv G v sh B c0 S cs)  (hw : wX10_take  S K) : X G yX10_take cX10_take 1 (some .int) d [.ref (G.1 + v 0)] cs (vI G v sh B c0 K) := by
  refine X.of false (by decide +kernel) (by decide) (Nat.le_of_ble_eq_true rfl) ?_
  show Z (RX10, cX10_take, 1, some .int, false) G d _ 0 [(0, .ref (G.1 + v 0))] [] cs
  have hP : ∀ (x : Int) (S : St) (cs : List va_E), K x S → Wv G v sh B c0 S cs → vI G v sh B c0 K (some (.int (Int32.ofInt x))) cs := fun x S cs a b => ⟨x, S, rfl, a, b⟩
  unfold wX10_take at hw
  refine z_aload_n dX10_take_0 rfl rfl ?_
  refine v_getR hW (hT 0 _ rfl) rfl kX10 fX10_12 dX10_take_1 ?_
  refine z_aload_n dX10_take_4 rfl rfl ?_
  refine v_getR hW (hT 0 _ rfl) rfl kX10 fX10_23 dX10_take_5 ?_
  have hX := lX5_become 2 (Nat.le_refl _) hW (show isS 1 by unfold isS; decide) (show isS 20 by unfold isS; decide) (by decide) hS  hw
  refine z_callV (As := [_]) eX5_become sX5_become lX10_132 rfl dX10_take_8 (hW.sg (show isS 1 by unfold isS; decide) (fun b x h e => hS b x h (e ▸ (show isS 1 by unfold isS; decide)))).choose_spec.choose_spec.choose_spec.choose_spec.1.choose_spec.1 hX (Nat.le_trans (by decide) hd) rfl (Nat.le_of_ble_eq_true rfl) (fun r cs hp => ?_)
  obtain ⟨r2, S1, rfl, hw, hW⟩ := hp
  refine z_st (st' := []) rfl ?_
  refine z_aload_n dX10_take_11 rfl rfl ?_
  refine v_getR hW (hT 0 _ rfl) rfl kX10 fX10_12 dX10_take_12 ?_
  have hX := lX5_length 0 (Nat.le_refl _) hW (show isS 1 by unfold isS; decide) (fun b x h e => hS b x h (e ▸ (show isS 1 by unfold isS; decide)))  hw
  refine z_callV (As := []) eX5_length sX5_length lX10_101 rfl dX10_take_15 (hW.sg (show isS 1 by unfold isS; decide) (fun b x h e => hS b x h (e ▸ (show isS 1 by unfold isS; decide)))).choose_spec.choose_spec.choose_spec.choose_spec.1.choose_spec.1 hX (Nat.le_trans (by decide) hd) rfl (Nat.le_of_ble_eq_true rfl) (fun r cs hp => ?_)
  obtain ⟨r4, S3, rfl, hw, hW⟩ := hp
  refine z_st (st' := [.int (Int32.ofInt (r4))]) rfl ?_
  exact z_ireturn dX10_take_18 rfl rfl (hP _ _ _ hw hW)

def wX10_forbid  (a1 a2 : Int) (S : St) (K : Int → St → Prop) : Prop := rng a1 → rng a2 → (wX4_isForbidden (a1) S (fun r2 S1 => (wX4_putForbidden (a1) (a2) S1 (fun r4 S3 => (iv 0 1 (r2) ∧ K (r2) S3)))))
set_option maxRecDepth 100000 in
set_option maxHeartbeats 4000000 in
theorem lX10_forbid {G : xG} {v : Nat → Nat} {sh : Nat → Option Sh} {B : Nat × Nat} {c0 : List va_E}  {a1 a2 : Int} {S : St} {cs : List va_E} {K : Int → St → Prop} (d : Nat) (hd : 2 ≤ d) (hT : sb shC sh) (hS : ∀ b x, sh b = some x → ¬ isS b) (hW : Wv G v sh B c0 S cs) (g1 : rng a1) (g2 : rng a2) (hw : wX10_forbid a1 a2 S K) : X G yX10_forbid cX10_forbid 4 (some .boolean) d [.ref (G.1 + v 0), .int (Int32.ofInt a1), .int (Int32.ofInt a2)] cs (vI G v sh B c0 K) := by
  refine X.of false (by decide +kernel) (by decide) (Nat.le_of_ble_eq_true rfl) ?_
  show Z (RX10, cX10_forbid, 4, some .boolean, false) G d _ 0 [(0, .ref (G.1 + v 0)), (1, .int (Int32.ofInt a1)), (2, .int (Int32.ofInt a2))] [] cs
  have hP : ∀ (x : Int) (S : St) (cs : List va_E), K x S → Wv G v sh B c0 S cs → vI G v sh B c0 K (some (.int (Int32.ofInt x))) cs := fun x S cs a b => ⟨x, S, rfl, a, b⟩
  unfold wX10_forbid at hw
  have hw := hw g1 g2
  refine z_aload_n dX10_forbid_0 rfl rfl ?_
  refine v_getR hW (hT 0 _ rfl) rfl kX10 fX10_32 dX10_forbid_1 ?_
  refine z_iload_n dX10_forbid_4 rfl rfl ?_
  have hX := lX4_isForbidden 1 (Nat.le_refl _) hT hS hW g1 hw
  refine z_callV (As := [_]) eX4_isForbidden sX4_isForbidden lX10_136 rfl dX10_forbid_5 (hW.at (hT 24 _ rfl)) hX (Nat.le_trans (by decide) hd) rfl (Nat.le_of_ble_eq_true rfl) (fun r cs hp => ?_)
  obtain ⟨r2, S1, rfl, hw, hW⟩ := hp
  refine z_st (st' := [.int (Int32.ofInt (r2))]) rfl ?_
  refine z_istore_n dX10_forbid_8 rfl (by decide) ?_
  refine z_loc (L' := [(0, .ref (G.1 + v 0)), (1, .int (Int32.ofInt (a1))), (2, .int (Int32.ofInt (a2))), (3, .int (Int32.ofInt (r2)))]) (List.forall_mem_cons.mpr ⟨rfl, (List.forall_mem_cons.mpr ⟨rfl, (List.forall_mem_cons.mpr ⟨rfl, (List.forall_mem_cons.mpr ⟨rfl, (fun _ h => nomatch h)⟩)⟩)⟩)⟩) ?_
  refine z_aload_n dX10_forbid_9 rfl rfl ?_
  refine v_getR hW (hT 0 _ rfl) rfl kX10 fX10_32 dX10_forbid_10 ?_
  refine z_iload_n dX10_forbid_13 rfl rfl ?_
  refine z_iload_n dX10_forbid_14 rfl rfl ?_
  have hX := lX4_putForbidden 1 (Nat.le_refl _) hT hS hW g1 g2 hw
  refine z_callV (As := [_, _]) eX4_putForbidden sX4_putForbidden lX10_139 rfl dX10_forbid_15 (hW.at (hT 24 _ rfl)) hX (Nat.le_trans (by decide) hd) rfl (Nat.le_of_ble_eq_true rfl) (fun r cs hp => ?_)
  obtain ⟨r4, S3, rfl, hw, hW⟩ := hp
  refine z_st (st' := []) rfl ?_
  refine z_iload_n dX10_forbid_18 rfl rfl ?_
  obtain ⟨q5, hw⟩ := hw
  exact z_ireturn dX10_forbid_19 rfl (nar01 (b01 q5)) (hP _ _ _ hw hW)

