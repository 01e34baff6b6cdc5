/-! THE CLASS'S same, kind, value, count -/
theorem c_heapAt {G : xG} {v : Nat → Nat} {sh : Nat → Option Sh} {B : Nat × Nat} {c0 : List va_E} {S : St} {cs : List va_E} {a : Int} {k : Nat} (d : Nat) (hT : sb shC sh) (hW : Wv G v sh B c0 S cs) (ga : rng a) (hk : k = if a = 0 then 42 else 46) : X G yX10_heapAt cX10_heapAt 2 (some (.object "GraphScribe$Heap")) d [.ref (G.1 + v 0), .int (Int32.ofInt a)] cs (fun r c1 => r = some (.ref (G.1 + v k)) ∧ c1 = cs) := by
  refine X.of false (by decide +kernel) (by decide) (Nat.le_of_ble_eq_true rfl) ?_
  show Z (RX10, cX10_heapAt, 2, some (.object "GraphScribe$Heap"), false) G d _ 0 [(0, .ref (G.1 + v 0)), (1, .int (Int32.ofInt a))] [] cs
  refine z_iload_n dX10_heapAt_0 rfl rfl ?_
  refine i_if_ne (tgt := 11) dX10_heapAt_1 (by decide) ga (fun h1 => ?_) (fun h1 => ?_)
  · rw [if_neg h1] at hk
    rw [hk]
    refine z_aload_n dX10_heapAt_11 rfl rfl ?_
    refine v_getR hW (hT 0 _ rfl) rfl kX10 fX10_46 dX10_heapAt_12 ?_
    exact z_areturn dX10_heapAt_15 rfl (Or.inl ⟨_, rfl⟩) ⟨rfl, rfl⟩
  · rw [if_pos (Classical.not_not.mp h1)] at hk
    rw [hk]
    refine z_aload_n dX10_heapAt_4 rfl rfl ?_
    refine v_getR hW (hT 0 _ rfl) rfl kX10 fX10_42 dX10_heapAt_5 ?_
    refine z_goto (tgt := 15) dX10_heapAt_8 (by decide) ?_
    exact z_areturn dX10_heapAt_15 rfl (Or.inl ⟨_, rfl⟩) ⟨rfl, rfl⟩
theorem k_isHeap {S : St} {K : Int → St → Prop} {a : Int} (hK : ∀ r, (r = 1 ∧ (a = 0 ∨ a = 1)) ∨ (r = 0 ∧ ¬ (a = 0 ∨ a = 1)) → K r S) : wX10_isHeap a S K := fun _ => ⟨fun w => hK 1 (Or.inl ⟨rfl, Or.inl w⟩), fun w => ⟨fun w2 => hK 0 (Or.inr ⟨rfl, fun z => z.elim w w2⟩), fun w2 => hK 1 (Or.inl ⟨rfl, Or.inr (Classical.not_not.mp w2)⟩)⟩⟩
theorem rr01 {r : Int} {P Q : Prop} (h : (r = 1 ∧ P) ∨ (r = 0 ∧ Q)) : rng r := by
  rcases h with ⟨w, -⟩ | ⟨w, -⟩
  · rw [w]
    exact ⟨by decide, by decide⟩
  · rw [w]
    exact ⟨by decide, by decide⟩
set_option maxRecDepth 100000 in
set_option maxHeartbeats 4000000 in
theorem c_kind {G : xG} {v : Nat → Nat} {B : Nat × Nat} {c0 : List va_E} {S : St} {cs : List va_E} {e : Env} {h : Hs} {a b : Int} (d : Nat) (hd : 3 ≤ d) (hW : Wv G v shC B c0 S cs) (hE : cE S e) (hV : EV e) (g : cH6 S e h) (hH : EH e h) (ga : rng a) (gb : rng b) : X G yX10_kind cX10_kind 3 (some .int) d [.ref (G.1 + v 0), .int (Int32.ofInt a), .int (Int32.ofInt b)] cs (fun r c1 => r = some (.int (Int32.ofInt (kdX e h a b))) ∧ Wv G v shC B c0 S c1) := by
  have hTC : sb shC shC := fun _ _ h => h
  refine X.of false (by decide +kernel) (by decide) (Nat.le_of_ble_eq_true rfl) ?_
  show Z (RX10, cX10_kind, 3, some .int, false) G d _ 0 [(0, .ref (G.1 + v 0)), (1, .int (Int32.ofInt a)), (2, .int (Int32.ofInt b))] [] cs
  have bad : ∀ cs, Wv G v shC B c0 S cs → kdX e h a b = -1 → Z (RX10, cX10_kind, 3, some .int, false) G d (fun r c1 => r = some (.int (Int32.ofInt (kdX e h a b))) ∧ Wv G v shC B c0 S c1) 31 [(0, .ref (G.1 + v 0)), (1, .int (Int32.ofInt a)), (2, .int (Int32.ofInt b))] [] cs := fun cs hW q => by
    refine z_iconst (v := Int32.ofInt (-1)) dX10_kind_31 rfl ?_
    exact z_ireturn dX10_kind_32 rfl rfl ⟨by rw [q], hW⟩
  refine z_iload_n dX10_kind_0 rfl rfl ?_
  have hX := lX10_isHeap (K := fun r S' => S' = S ∧ ((r = 1 ∧ (a = 0 ∨ a = 1)) ∨ (r = 0 ∧ ¬ (a = 0 ∨ a = 1)))) 0 (Nat.le_refl _) hTC shC_nS hW ga (k_isHeap (fun r hr => ⟨rfl, hr⟩))
  refine z_callS (As := [_]) eX10_isHeap sX10_isHeap lX10_168 dX10_kind_1 hX (Nat.le_trans (by decide) hd) rfl (Nat.le_of_ble_eq_true rfl) (fun r c1 hp => ?_)
  obtain ⟨r1, S1, eR1, ⟨eS, hr⟩, hW1⟩ := hp
  rw [eS] at hW1
  rw [eR1]
  clear eS eR1 hX hW
  refine z_st (st' := [.int (Int32.ofInt r1)]) rfl ?_
  refine i_if_eq (tgt := 31) dX10_kind_4 (by decide) (rr01 hr) (fun h4 => bad c1 hW1 ?_) (fun h4 => ?_)
  · have w := (hr.resolve_left (fun z => by omega)).2
    unfold kdX
    rw [if_neg (fun z => w (Or.inl z)), if_neg (fun z => w (Or.inr z))]
  have ha := (hr.resolve_right (fun z => by omega)).2
  clear hr
  refine z_aload_n dX10_kind_7 rfl rfl ?_
  refine z_iload_n dX10_kind_8 rfl rfl ?_
  by_cases a0 : a = 0
  · have hk : 42 = if a = 0 then 42 else 46 := by rw [if_pos a0]
    have hX := c_heapAt 0 hTC hW1 ga hk
    refine z_callV (As := [_]) eX10_heapAt sX10_heapAt lX10_171 rfl dX10_kind_9 (hW1.at (hTC 0 _ rfl)) hX (Nat.le_trans (by decide) hd) rfl (Nat.le_of_ble_eq_true rfl) (fun r c2 hp => ?_)
    obtain ⟨eR, eC⟩ := hp
    rw [eR, eC]
    clear eR eC hX
    refine z_st (st' := [.ref (G.1 + v 42)]) rfl ?_
    refine z_iload_n dX10_kind_12 rfl rfl ?_
    have hX := lX1_has (K := fun r S' => S' = S ∧ ((r = 1 ∧ 0 ≤ b ∧ b < eN e) ∨ (r = 0 ∧ ¬ (0 ≤ b ∧ b < eN e)))) 0 (Nat.le_refl _) hTC shC_nS hW1 gb (c_hasO hE (fun r hr => ⟨rfl, hr⟩))
    refine z_callV (As := [_]) eX1_has sX1_has lX10_94 rfl dX10_kind_13 (hW1.at (hTC 42 _ rfl)) hX (Nat.le_trans (by decide) hd) rfl (Nat.le_of_ble_eq_true rfl) (fun r c3 hp => ?_)
    obtain ⟨r3, S3, eR3, ⟨eS, hr⟩, hW3⟩ := hp
    rw [eS] at hW3
    rw [eR3]
    clear eS eR3 hX hW1
    refine z_st (st' := [.int (Int32.ofInt r3)]) rfl ?_
    refine i_if_eq (tgt := 31) dX10_kind_16 (by decide) (rr01 hr) (fun h5 => bad c3 hW3 ?_) (fun h5 => ?_)
    · have w := (hr.resolve_left (fun z => by omega)).2
      unfold kdX kdH
      rw [if_pos a0]
      exact if_neg w
    have ho := (hr.resolve_right (fun z => by omega)).2
    refine z_aload_n dX10_kind_19 rfl rfl ?_
    refine z_iload_n dX10_kind_20 rfl rfl ?_
    have hX := c_heapAt 0 hTC hW3 ga hk
    refine z_callV (As := [_]) eX10_heapAt sX10_heapAt lX10_171 rfl dX10_kind_21 (hW3.at (hTC 0 _ rfl)) hX (Nat.le_trans (by decide) hd) rfl (Nat.le_of_ble_eq_true rfl) (fun r c4 hp => ?_)
    obtain ⟨eR, eC⟩ := hp
    rw [eR, eC]
    clear eR eC hX
    refine z_st (st' := [.ref (G.1 + v 42)]) rfl ?_
    refine z_iload_n dX10_kind_24 rfl rfl ?_
    have hX := lX1_classOf (K := fun r S' => S' = S ∧ r = kdX e h a b) 1 (Nat.le_refl _) hTC shC_nS hW3 gb (r_cls hE hV ho ⟨rfl, by
      unfold kdX kdH
      rw [if_pos a0]
      exact (if_pos ho).symm⟩)
    refine z_callV (As := [_]) eX1_classOf sX1_classOf lX10_175 rfl dX10_kind_25 (hW3.at (hTC 42 _ rfl)) hX (Nat.le_trans (by decide) hd) rfl (Nat.le_of_ble_eq_true rfl) (fun r c5 hp => ?_)
    obtain ⟨r5, S5, eR5, ⟨eS, h6⟩, hW5⟩ := hp
    rw [eS] at hW5
    rw [eR5]
    refine z_st (st' := [.int (Int32.ofInt r5)]) rfl ?_
    refine z_goto (tgt := 32) dX10_kind_28 (by decide) ?_
    exact z_ireturn dX10_kind_32 rfl rfl ⟨by rw [h6], hW5⟩
  · have a1 := ha.resolve_left a0
    have hk : 46 = if a = 0 then 42 else 46 := by rw [if_neg a0]
    have hX := c_heapAt 0 hTC hW1 ga hk
    refine z_callV (As := [_]) eX10_heapAt sX10_heapAt lX10_171 rfl dX10_kind_9 (hW1.at (hTC 0 _ rfl)) hX (Nat.le_trans (by decide) hd) rfl (Nat.le_of_ble_eq_true rfl) (fun r c2 hp => ?_)
    obtain ⟨eR, eC⟩ := hp
    rw [eR, eC]
    clear eR eC hX
    refine z_st (st' := [.ref (G.1 + v 46)]) rfl ?_
    refine z_iload_n dX10_kind_12 rfl rfl ?_
    have hX := lX1_has_c (K := fun r S' => S' = S ∧ ((r = 1 ∧ 0 ≤ b ∧ b < h.1) ∨ (r = 0 ∧ ¬ (0 ≤ b ∧ b < h.1)))) 0 (Nat.le_refl _) hTC shC_nS hW1 gb (d_has g (fun r hr => ⟨rfl, hr⟩))
    refine z_callV (As := [_]) eX1_has sX1_has lX10_94 rfl dX10_kind_13 (hW1.at (hTC 46 _ rfl)) hX (Nat.le_trans (by decide) hd) rfl (Nat.le_of_ble_eq_true rfl) (fun r c3 hp => ?_)
    obtain ⟨r3, S3, eR3, ⟨eS, hr⟩, hW3⟩ := hp
    rw [eS] at hW3
    rw [eR3]
    clear eS eR3 hX hW1
    refine z_st (st' := [.int (Int32.ofInt r3)]) rfl ?_
    refine i_if_eq (tgt := 31) dX10_kind_16 (by decide) (rr01 hr) (fun h5 => bad c3 hW3 ?_) (fun h5 => ?_)
    · have w := (hr.resolve_left (fun z => by omega)).2
      unfold kdX kdH
      rw [if_neg a0, if_pos a1]
      exact if_neg w
    have ho := (hr.resolve_right (fun z => by omega)).2
    refine z_aload_n dX10_kind_19 rfl rfl ?_
    refine z_iload_n dX10_kind_20 rfl rfl ?_
    have hX := c_heapAt 0 hTC hW3 ga hk
    refine z_callV (As := [_]) eX10_heapAt sX10_heapAt lX10_171 rfl dX10_kind_21 (hW3.at (hTC 0 _ rfl)) hX (Nat.le_trans (by decide) hd) rfl (Nat.le_of_ble_eq_true rfl) (fun r c4 hp => ?_)
    obtain ⟨eR, eC⟩ := hp
    rw [eR, eC]
    clear eR eC hX
    refine z_st (st' := [.ref (G.1 + v 46)]) rfl ?_
    refine z_iload_n dX10_kind_24 rfl rfl ?_
    have hX := lX1_classOf_c (K := fun r S' => S' = S ∧ r = kdX e h a b) 1 (Nat.le_refl _) hTC shC_nS hW3 gb (d_cls g hH ho ⟨rfl, by
      unfold kdX kdH
      rw [if_neg a0, if_pos a1]
      exact (if_pos ho).symm⟩)
    refine z_callV (As := [_]) eX1_classOf sX1_classOf lX10_175 rfl dX10_kind_25 (hW3.at (hTC 46 _ rfl)) hX (Nat.le_trans (by decide) hd) rfl (Nat.le_of_ble_eq_true rfl) (fun r c5 hp => ?_)
    obtain ⟨r5, S5, eR5, ⟨eS, h6⟩, hW5⟩ := hp
    rw [eS] at hW5
    rw [eR5]
    refine z_st (st' := [.int (Int32.ofInt r5)]) rfl ?_
    refine z_goto (tgt := 32) dX10_kind_28 (by decide) ?_
    exact z_ireturn dX10_kind_32 rfl rfl ⟨by rw [h6], hW5⟩
set_option maxRecDepth 100000 in
set_option maxHeartbeats 4000000 in
theorem c_value {G : xG} {v : Nat → Nat} {B : Nat × Nat} {c0 : List va_E} {S : St} {cs : List va_E} {e : Env} {h : Hs} {a b f i : Int} (d : Nat) (hd : 4 ≤ d) (hW : Wv G v shC B c0 S cs) (hE : cE S e) (hV : EV e) (g : cH6 S e h) (hH : EH e h) (ga : rng a) (gb : rng b) (gf : rng f) (gi : rng i) : X G yX10_value cX10_value 7 (some .int) d [.ref (G.1 + v 0), .int (Int32.ofInt a), .int (Int32.ofInt b), .int (Int32.ofInt f), .int (Int32.ofInt i)] cs (fun r c1 => r = some (.int (Int32.ofInt (vlX e h a b f i))) ∧ Wv G v shC B c0 S c1) := by
  have hTC : sb shC shC := fun _ _ h => h
  refine X.of false (by decide +kernel) (by decide) (Nat.le_of_ble_eq_true rfl) ?_
  show Z (RX10, cX10_value, 7, some .int, false) G d _ 0 [(0, .ref (G.1 + v 0)), (1, .int (Int32.ofInt a)), (2, .int (Int32.ofInt b)), (3, .int (Int32.ofInt f)), (4, .int (Int32.ofInt i))] [] cs
  refine z_iload_n dX10_value_0 rfl rfl ?_
  have hX := lX10_isHeap (K := fun r S' => S' = S ∧ ((r = 1 ∧ (a = 0 ∨ a = 1)) ∨ (r = 0 ∧ ¬ (a = 0 ∨ a = 1)))) 0 (Nat.le_refl _) hTC shC_nS hW ga (k_isHeap (fun r hr => ⟨rfl, hr⟩))
  refine z_callS (As := [_]) eX10_isHeap sX10_isHeap lX10_168 dX10_value_1 hX (Nat.le_trans (by decide) hd) rfl (Nat.le_of_ble_eq_true rfl) (fun r c1 hp => ?_)
  obtain ⟨r1, S1, eR1, ⟨eS, hr⟩, hW1⟩ := hp
  rw [eS] at hW1
  rw [eR1]
  clear eS eR1 hX hW
  refine z_st (st' := [.int (Int32.ofInt r1)]) rfl ?_
  refine i_if_ne (tgt := 9) dX10_value_4 (by decide) (rr01 hr) (fun h4 => ?_) (fun h4 => ?_)
  rotate_left
  · have w := (hr.resolve_left (fun z => by omega)).2
    refine z_iconst (v := Int32.ofInt 0) dX10_value_7 rfl ?_
    refine z_ireturn dX10_value_8 rfl rfl ⟨?_, hW1⟩
    unfold vlX
    rw [if_neg (fun z => w (Or.inl z)), if_neg (fun z => w (Or.inr z))]
  have ha := (hr.resolve_right (fun z => by omega)).2
  clear hr
  refine z_aload_n dX10_value_9 rfl rfl ?_
  refine z_aload_n dX10_value_10 rfl rfl ?_
  refine z_iload_n dX10_value_11 rfl rfl ?_
  by_cases a0 : a = 0
  · have hk : 42 = if a = 0 then 42 else 46 := by rw [if_pos a0]
    have hX := c_heapAt 0 hTC hW1 ga hk
    refine z_callV (As := [_]) eX10_heapAt sX10_heapAt lX10_171 rfl dX10_value_12 (hW1.at (hTC 0 _ rfl)) hX (Nat.le_trans (by decide) hd) rfl (Nat.le_of_ble_eq_true rfl) (fun r c2 hp => ?_)
    obtain ⟨eR, eC⟩ := hp
    rw [eR, eC]
    clear eR eC hX
    refine z_st (st' := [.ref (G.1 + v 42), .ref (G.1 + v 0)]) rfl ?_
    refine z_iload_n dX10_value_15 rfl rfl ?_
    refine z_iload_n dX10_value_16 rfl rfl ?_
    have hX := lX10_shapeIn (K := fun r S' => S' = S ∧ ((r = eD e (eK e b) f + 1 ∧ (0 ≤ b ∧ b < eN e) ∧ okF e (eK e b) f) ∨ (r = 0 ∧ ¬ ((0 ≤ b ∧ b < eN e) ∧ okF e (eK e b) f)))) 2 (Nat.le_refl _) hTC shC_nS hW1 gb gf (c_shapeIn hE hV (fun r hr => ⟨rfl, hr⟩))
    refine z_callV (As := [_, _, _]) eX10_shapeIn sX10_shapeIn lX10_90 rfl dX10_value_17 (hW1.at (hTC 0 _ rfl)) hX (Nat.le_trans (by decide) hd) rfl (Nat.le_of_ble_eq_true rfl) (fun r c3 hp => ?_)
    obtain ⟨r3, S3, eR3, ⟨eS, hr⟩, hW3⟩ := hp
    rw [eS] at hW3
    rw [eR3]
    clear eS eR3 hX hW1
    have gr : rng r3 := by
      rcases hr with ⟨w, -, hf⟩ | ⟨w, -⟩
      · have := (hV.2.2.2.2.1 _ _ hf).1
        exact ⟨by omega, by omega⟩
      · exact ⟨by omega, by omega⟩
    refine z_st (st' := [.int (Int32.ofInt r3)]) rfl ?_
    refine z_istore dX10_value_20 (by decide) ?_
    refine z_loc (L' := [(0, .ref (G.1 + v 0)), (1, .int (Int32.ofInt a)), (2, .int (Int32.ofInt b)), (3, .int (Int32.ofInt f)), (4, .int (Int32.ofInt i)), (5, .int (Int32.ofInt r3))]) (List.forall_mem_cons.mpr ⟨rfl, (List.forall_mem_cons.mpr ⟨rfl, (List.forall_mem_cons.mpr ⟨rfl, (List.forall_mem_cons.mpr ⟨rfl, (List.forall_mem_cons.mpr ⟨rfl, (List.forall_mem_cons.mpr ⟨rfl, (fun _ h => nomatch h)⟩)⟩)⟩)⟩)⟩)⟩) ?_
    refine z_iload dX10_value_22 rfl ?_
    refine i_if_ne (tgt := 29) dX10_value_24 (by decide) gr (fun h5 => ?_) (fun h5 => ?_)
    rotate_left
    · refine z_iconst (v := Int32.ofInt 0) dX10_value_27 rfl ?_
      refine z_ireturn dX10_value_28 rfl rfl ⟨?_, hW3⟩
      have w : ¬ ((0 ≤ b ∧ b < eN e) ∧ okF e (eK e b) f) := by
        rcases hr with ⟨w, -, hf⟩ | ⟨-, w⟩
        · have := (hV.2.2.2.2.1 _ _ hf).1
          omega
        · exact w
      unfold vlX vlH
      rw [if_pos a0]
      refine congrArg (fun z => some (Value.int (Int32.ofInt z))) (if_pos ?_).symm
      by_cases w1 : 0 ≤ b ∧ b < eN e
      · exact Or.inr (fun w2 => w ⟨w1, hV.2.2.1 b w1, w2⟩)
      · exact Or.inl w1
    obtain ⟨w3, ho, hf⟩ := hr.resolve_right (fun z => h5 z.1)
    have hD := (hV.2.2.2.2.1 _ _ hf).1
    have hv : vlX e h a b f i = if eD e (eK e b) f = 0 ∨ eD e (eK e b) f = 2 then eV e b f else if 0 ≤ i ∧ i < eV e b f then eP e b f i else -2 := by
      unfold vlX vlH
      rw [if_pos a0]
      exact if_neg (fun z => z.elim (fun z => z ho) (fun z => z hf.2))
    have tail : ∀ s0 : Int, ((s0 = 1 ∧ (eD e (eK e b) f = 0 ∨ eD e (eK e b) f = 2)) ∨ (s0 = 0 ∧ ¬ (eD e (eK e b) f = 0 ∨ eD e (eK e b) f = 2))) → Z (RX10, cX10_value, 7, some .int, false) G d (fun r c1 => r = some (.int (Int32.ofInt (vlX e h a b f i))) ∧ Wv G v shC B c0 S c1) 46 [(0, .ref (G.1 + v 0)), (1, .int (Int32.ofInt a)), (2, .int (Int32.ofInt b)), (3, .int (Int32.ofInt f)), (4, .int (Int32.ofInt i)), (5, .int (Int32.ofInt r3))] [.int (Int32.ofInt s0)] c3 := fun s0 hs => by
      refine z_istore dX10_value_46 (by decide) ?_
      refine z_loc (L' := [(0, .ref (G.1 + v 0)), (1, .int (Int32.ofInt a)), (2, .int (Int32.ofInt b)), (3, .int (Int32.ofInt f)), (4, .int (Int32.ofInt i)), (5, .int (Int32.ofInt r3)), (6, .int (Int32.ofInt s0))]) (List.forall_mem_cons.mpr ⟨rfl, (List.forall_mem_cons.mpr ⟨rfl, (List.forall_mem_cons.mpr ⟨rfl, (List.forall_mem_cons.mpr ⟨rfl, (List.forall_mem_cons.mpr ⟨rfl, (List.forall_mem_cons.mpr ⟨rfl, (List.forall_mem_cons.mpr ⟨rfl, (fun _ h => nomatch h)⟩)⟩)⟩)⟩)⟩)⟩)⟩) ?_
      refine z_iload dX10_value_48 rfl ?_
      refine i_if_eq (tgt := 66) dX10_value_50 (by decide) (rr01 hs) (fun h8 => ?_) (fun h8 => ?_)
      · have hn := (hs.resolve_left (fun z => by omega)).2
        rw [if_neg hn] at hv
        refine z_aload_n dX10_value_66 rfl rfl ?_
        refine z_iload_n dX10_value_67 rfl rfl ?_
        have hX := c_heapAt 0 hTC hW3 ga hk
        refine z_callV (As := [_]) eX10_heapAt sX10_heapAt lX10_171 rfl dX10_value_68 (hW3.at (hTC 0 _ rfl)) hX (Nat.le_trans (by decide) hd) rfl (Nat.le_of_ble_eq_true rfl) (fun r c4 hp => ?_)
        obtain ⟨eR, eC⟩ := hp
        rw [eR, eC]
        clear eR eC hX
        refine z_st (st' := [.ref (G.1 + v 42)]) rfl ?_
        refine z_iload_n dX10_value_71 rfl rfl ?_
        refine z_iload_n dX10_value_72 rfl rfl ?_
        refine z_iload dX10_value_73 rfl ?_
        have hX := lX1_cell (K := fun r S' => S' = S ∧ r = vlX e h a b f i) 1 (Nat.le_refl _) hTC shC_nS hW3 gb gf gi (k_clA hE hV ho hf (by omega) ⟨rfl, hv.symm⟩)
        refine z_callV (As := [_, _, _]) eX1_cell sX1_cell lX10_181 rfl dX10_value_75 (hW3.at (hTC 42 _ rfl)) hX (Nat.le_trans (by decide) hd) rfl (Nat.le_of_ble_eq_true rfl) (fun r c5 hp => ?_)
        obtain ⟨r5, S5, eR5, ⟨eS, h6⟩, hW5⟩ := hp
        rw [eS] at hW5
        rw [eR5]
        refine z_st (st' := [.int (Int32.ofInt r5)]) rfl ?_
        exact z_ireturn dX10_value_78 rfl rfl ⟨by rw [h6], hW5⟩
      · have hy := (hs.resolve_right (fun z => by omega)).2
        rw [if_pos hy] at hv
        refine z_aload_n dX10_value_53 rfl rfl ?_
        refine z_iload_n dX10_value_54 rfl rfl ?_
        have hX := c_heapAt 0 hTC hW3 ga hk
        refine z_callV (As := [_]) eX10_heapAt sX10_heapAt lX10_171 rfl dX10_value_55 (hW3.at (hTC 0 _ rfl)) hX (Nat.le_trans (by decide) hd) rfl (Nat.le_of_ble_eq_true rfl) (fun r c4 hp => ?_)
        obtain ⟨eR, eC⟩ := hp
        rw [eR, eC]
        clear eR eC hX
        refine z_st (st' := [.ref (G.1 + v 42)]) rfl ?_
        refine z_iload_n dX10_value_58 rfl rfl ?_
        refine z_iload_n dX10_value_59 rfl rfl ?_
        have hX := lX1_head (K := fun r S' => S' = S ∧ r = vlX e h a b f i) 1 (Nat.le_refl _) hTC shC_nS hW3 gb gf (r_head hE hV ho hf ⟨rfl, hv.symm⟩)
        refine z_callV (As := [_, _]) eX1_head sX1_head lX10_178 rfl dX10_value_60 (hW3.at (hTC 42 _ rfl)) hX (Nat.le_trans (by decide) hd) rfl (Nat.le_of_ble_eq_true rfl) (fun r c5 hp => ?_)
        obtain ⟨r5, S5, eR5, ⟨eS, h6⟩, hW5⟩ := hp
        rw [eS] at hW5
        rw [eR5]
        refine z_st (st' := [.int (Int32.ofInt r5)]) rfl ?_
        refine z_goto (tgt := 78) dX10_value_63 (by decide) ?_
        exact z_ireturn dX10_value_78 rfl rfl ⟨by rw [h6], hW5⟩
    have one : (eD e (eK e b) f = 0 ∨ eD e (eK e b) f = 2) → Z (RX10, cX10_value, 7, some .int, false) G d (fun r c1 => r = some (.int (Int32.ofInt (vlX e h a b f i))) ∧ Wv G v shC B c0 S c1) 41 [(0, .ref (G.1 + v 0)), (1, .int (Int32.ofInt a)), (2, .int (Int32.ofInt b)), (3, .int (Int32.ofInt f)), (4, .int (Int32.ofInt i)), (5, .int (Int32.ofInt r3))] [] c3 := fun w => by
      refine z_iconst (v := Int32.ofInt 1) dX10_value_41 rfl ?_
      refine z_goto (tgt := 46) dX10_value_42 (by decide) ?_
      exact tail 1 (Or.inl ⟨rfl, w⟩)
    refine z_iload dX10_value_29 rfl ?_
    refine z_iconst (v := Int32.ofInt 1) dX10_value_31 rfl ?_
    refine i_icmp_eq (tgt := 41) dX10_value_32 (by decide) gr (show rng 1 from ⟨by decide, by decide⟩) (fun h6 => one (by omega)) (fun h6 => ?_)
    refine z_iload dX10_value_35 rfl ?_
    refine z_iconst (v := Int32.ofInt 3) dX10_value_37 rfl ?_
    refine i_icmp_ne (tgt := 45) dX10_value_38 (by decide) gr (show rng 3 from ⟨by decide, by decide⟩) (fun h7 => ?_) (fun h7 => one (by omega))
    refine z_iconst (v := Int32.ofInt 0) dX10_value_45 rfl ?_
    exact tail 0 (Or.inr ⟨rfl, by omega⟩)
  · have a1 := ha.resolve_left a0
    have hk : 46 = if a = 0 then 42 else 46 := by rw [if_neg a0]
    have hX := c_heapAt 0 hTC hW1 ga hk
    refine z_callV (As := [_]) eX10_heapAt sX10_heapAt lX10_171 rfl dX10_value_12 (hW1.at (hTC 0 _ rfl)) hX (Nat.le_trans (by decide) hd) rfl (Nat.le_of_ble_eq_true rfl) (fun r c2 hp => ?_)
    obtain ⟨eR, eC⟩ := hp
    rw [eR, eC]
    clear eR eC hX
    refine z_st (st' := [.ref (G.1 + v 46), .ref (G.1 + v 0)]) rfl ?_
    refine z_iload_n dX10_value_15 rfl rfl ?_
    refine z_iload_n dX10_value_16 rfl rfl ?_
    have hX := lX10_shapeIn_b (K := fun r S' => S' = S ∧ ((r = eD e (h.2.1 b) f + 1 ∧ (0 ≤ b ∧ b < h.1) ∧ okF e (h.2.1 b) f) ∨ (r = 0 ∧ ¬ ((0 ≤ b ∧ b < h.1) ∧ okF e (h.2.1 b) f)))) 2 (Nat.le_refl _) hTC shC_nS hW1 gb gf (k_shpB hE hV g hH (fun r hr => ⟨rfl, hr⟩))
    refine z_callV (As := [_, _, _]) eX10_shapeIn sX10_shapeIn lX10_90 rfl dX10_value_17 (hW1.at (hTC 0 _ rfl)) hX (Nat.le_trans (by decide) hd) rfl (Nat.le_of_ble_eq_true rfl) (fun r c3 hp => ?_)
    obtain ⟨r3, S3, eR3, ⟨eS, hr⟩, hW3⟩ := hp
    rw [eS] at hW3
    rw [eR3]
    clear eS eR3 hX hW1
    have gr : rng r3 := by
      rcases hr with ⟨w, -, hf⟩ | ⟨w, -⟩
      · have := (hV.2.2.2.2.1 _ _ hf).1
        exact ⟨by omega, by omega⟩
      · exact ⟨by omega, by omega⟩
    refine z_st (st' := [.int (Int32.ofInt r3)]) rfl ?_
    refine z_istore dX10_value_20 (by decide) ?_
    refine z_loc (L' := [(0, .ref (G.1 + v 0)), (1, .int (Int32.ofInt a)), (2, .int (Int32.ofInt b)), (3, .int (Int32.ofInt f)), (4, .int (Int32.ofInt i)), (5, .int (Int32.ofInt r3))]) (List.forall_mem_cons.mpr ⟨rfl, (List.forall_mem_cons.mpr ⟨rfl, (List.forall_mem_cons.mpr ⟨rfl, (List.forall_mem_cons.mpr ⟨rfl, (List.forall_mem_cons.mpr ⟨rfl, (List.forall_mem_cons.mpr ⟨rfl, (fun _ h => nomatch h)⟩)⟩)⟩)⟩)⟩)⟩) ?_
    refine z_iload dX10_value_22 rfl ?_
    refine i_if_ne (tgt := 29) dX10_value_24 (by decide) gr (fun h5 => ?_) (fun h5 => ?_)
    rotate_left
    · refine z_iconst (v := Int32.ofInt 0) dX10_value_27 rfl ?_
      refine z_ireturn dX10_value_28 rfl rfl ⟨?_, hW3⟩
      have w : ¬ ((0 ≤ b ∧ b < h.1) ∧ okF e (h.2.1 b) f) := by
        rcases hr with ⟨w, -, hf⟩ | ⟨-, w⟩
        · have := (hV.2.2.2.2.1 _ _ hf).1
          omega
        · exact w
      unfold vlX vlH
      rw [if_neg a0, if_pos a1]
      refine congrArg (fun z => some (Value.int (Int32.ofInt z))) (if_pos ?_).symm
      by_cases w1 : 0 ≤ b ∧ b < h.1
      · exact Or.inr (fun w2 => w ⟨w1, hH.2.1 b w1.1 w1.2, w2⟩)
      · exact Or.inl w1
    obtain ⟨w3, ho, hf⟩ := hr.resolve_right (fun z => h5 z.1)
    have hD := (hV.2.2.2.2.1 _ _ hf).1
    have hv : vlX e h a b f i = if eD e (h.2.1 b) f = 0 ∨ eD e (h.2.1 b) f = 2 then h.2.2.1 b f else if 0 ≤ i ∧ i < h.2.2.1 b f then h.2.2.2 b f i else -2 := by
      unfold vlX vlH
      rw [if_neg a0, if_pos a1]
      exact if_neg (fun z => z.elim (fun z => z ho) (fun z => z hf.2))
    have tail : ∀ s0 : Int, ((s0 = 1 ∧ (eD e (h.2.1 b) f = 0 ∨ eD e (h.2.1 b) f = 2)) ∨ (s0 = 0 ∧ ¬ (eD e (h.2.1 b) f = 0 ∨ eD e (h.2.1 b) f = 2))) → Z (RX10, cX10_value, 7, some .int, false) G d (fun r c1 => r = some (.int (Int32.ofInt (vlX e h a b f i))) ∧ Wv G v shC B c0 S c1) 46 [(0, .ref (G.1 + v 0)), (1, .int (Int32.ofInt a)), (2, .int (Int32.ofInt b)), (3, .int (Int32.ofInt f)), (4, .int (Int32.ofInt i)), (5, .int (Int32.ofInt r3))] [.int (Int32.ofInt s0)] c3 := fun s0 hs => by
      refine z_istore dX10_value_46 (by decide) ?_
      refine z_loc (L' := [(0, .ref (G.1 + v 0)), (1, .int (Int32.ofInt a)), (2, .int (Int32.ofInt b)), (3, .int (Int32.ofInt f)), (4, .int (Int32.ofInt i)), (5, .int (Int32.ofInt r3)), (6, .int (Int32.ofInt s0))]) (List.forall_mem_cons.mpr ⟨rfl, (List.forall_mem_cons.mpr ⟨rfl, (List.forall_mem_cons.mpr ⟨rfl, (List.forall_mem_cons.mpr ⟨rfl, (List.forall_mem_cons.mpr ⟨rfl, (List.forall_mem_cons.mpr ⟨rfl, (List.forall_mem_cons.mpr ⟨rfl, (fun _ h => nomatch h)⟩)⟩)⟩)⟩)⟩)⟩)⟩) ?_
      refine z_iload dX10_value_48 rfl ?_
      refine i_if_eq (tgt := 66) dX10_value_50 (by decide) (rr01 hs) (fun h8 => ?_) (fun h8 => ?_)
      · have hn := (hs.resolve_left (fun z => by omega)).2
        rw [if_neg hn] at hv
        refine z_aload_n dX10_value_66 rfl rfl ?_
        refine z_iload_n dX10_value_67 rfl rfl ?_
        have hX := c_heapAt 0 hTC hW3 ga hk
        refine z_callV (As := [_]) eX10_heapAt sX10_heapAt lX10_171 rfl dX10_value_68 (hW3.at (hTC 0 _ rfl)) hX (Nat.le_trans (by decide) hd) rfl (Nat.le_of_ble_eq_true rfl) (fun r c4 hp => ?_)
        obtain ⟨eR, eC⟩ := hp
        rw [eR, eC]
        clear eR eC hX
        refine z_st (st' := [.ref (G.1 + v 46)]) rfl ?_
        refine z_iload_n dX10_value_71 rfl rfl ?_
        refine z_iload_n dX10_value_72 rfl rfl ?_
        refine z_iload dX10_value_73 rfl ?_
        have hX := lX1_cell_b (K := fun r S' => S' = S ∧ r = vlX e h a b f i) 1 (Nat.le_refl _) hTC shC_nS hW3 gb gf gi (k_clB g hV hH ho hf (by omega) ⟨rfl, hv.symm⟩)
        refine z_callV (As := [_, _, _]) eX1_cell sX1_cell lX10_181 rfl dX10_value_75 (hW3.at (hTC 46 _ rfl)) hX (Nat.le_trans (by decide) hd) rfl (Nat.le_of_ble_eq_true rfl) (fun r c5 hp => ?_)
        obtain ⟨r5, S5, eR5, ⟨eS, h6⟩, hW5⟩ := hp
        rw [eS] at hW5
        rw [eR5]
        refine z_st (st' := [.int (Int32.ofInt r5)]) rfl ?_
        exact z_ireturn dX10_value_78 rfl rfl ⟨by rw [h6], hW5⟩
      · have hy := (hs.resolve_right (fun z => by omega)).2
        rw [if_pos hy] at hv
        refine z_aload_n dX10_value_53 rfl rfl ?_
        refine z_iload_n dX10_value_54 rfl rfl ?_
        have hX := c_heapAt 0 hTC hW3 ga hk
        refine z_callV (As := [_]) eX10_heapAt sX10_heapAt lX10_171 rfl dX10_value_55 (hW3.at (hTC 0 _ rfl)) hX (Nat.le_trans (by decide) hd) rfl (Nat.le_of_ble_eq_true rfl) (fun r c4 hp => ?_)
        obtain ⟨eR, eC⟩ := hp
        rw [eR, eC]
        clear eR eC hX
        refine z_st (st' := [.ref (G.1 + v 46)]) rfl ?_
        refine z_iload_n dX10_value_58 rfl rfl ?_
        refine z_iload_n dX10_value_59 rfl rfl ?_
        have hX := lX1_head_c (K := fun r S' => S' = S ∧ r = vlX e h a b f i) 1 (Nat.le_refl _) hTC shC_nS hW3 gb gf (d_head g hV hH ho hf ⟨rfl, hv.symm⟩)
        refine z_callV (As := [_, _]) eX1_head sX1_head lX10_178 rfl dX10_value_60 (hW3.at (hTC 46 _ rfl)) hX (Nat.le_trans (by decide) hd) rfl (Nat.le_of_ble_eq_true rfl) (fun r c5 hp => ?_)
        obtain ⟨r5, S5, eR5, ⟨eS, h6⟩, hW5⟩ := hp
        rw [eS] at hW5
        rw [eR5]
        refine z_st (st' := [.int (Int32.ofInt r5)]) rfl ?_
        refine z_goto (tgt := 78) dX10_value_63 (by decide) ?_
        exact z_ireturn dX10_value_78 rfl rfl ⟨by rw [h6], hW5⟩
    have one : (eD e (h.2.1 b) f = 0 ∨ eD e (h.2.1 b) f = 2) → Z (RX10, cX10_value, 7, some .int, false) G d (fun r c1 => r = some (.int (Int32.ofInt (vlX e h a b f i))) ∧ Wv G v shC B c0 S c1) 41 [(0, .ref (G.1 + v 0)), (1, .int (Int32.ofInt a)), (2, .int (Int32.ofInt b)), (3, .int (Int32.ofInt f)), (4, .int (Int32.ofInt i)), (5, .int (Int32.ofInt r3))] [] c3 := fun w => by
      refine z_iconst (v := Int32.ofInt 1) dX10_value_41 rfl ?_
      refine z_goto (tgt := 46) dX10_value_42 (by decide) ?_
      exact tail 1 (Or.inl ⟨rfl, w⟩)
    refine z_iload dX10_value_29 rfl ?_
    refine z_iconst (v := Int32.ofInt 1) dX10_value_31 rfl ?_
    refine i_icmp_eq (tgt := 41) dX10_value_32 (by decide) gr (show rng 1 from ⟨by decide, by decide⟩) (fun h6 => one (by omega)) (fun h6 => ?_)
    refine z_iload dX10_value_35 rfl ?_
    refine z_iconst (v := Int32.ofInt 3) dX10_value_37 rfl ?_
    refine i_icmp_ne (tgt := 45) dX10_value_38 (by decide) gr (show rng 3 from ⟨by decide, by decide⟩) (fun h7 => ?_) (fun h7 => one (by omega))
    refine z_iconst (v := Int32.ofInt 0) dX10_value_45 rfl ?_
    exact tail 0 (Or.inr ⟨rfl, by omega⟩)
theorem c_count {G : xG} {v : Nat → Nat} {B : Nat × Nat} {c0 : List va_E} {S : St} {cs : List va_E} {a : Int} (d : Nat) (hd : 1 ≤ d) (hW : Wv G v shC B c0 S cs) (ga : rng a) : X G yX10_count cX10_count 2 (some .int) d [.ref (G.1 + v 0), .int (Int32.ofInt a)] cs (fun r c1 => r = some (.int (Int32.ofInt (ctC S a))) ∧ Wv G v shC B c0 S c1) := by
  have hX := lX10_count (K := fun r S' => S' = S ∧ r = ctC S a) d hd (fun _ _ h => h) shC_nS hW ga (k_cnt (hW.iI 24 8) ⟨rfl, rfl⟩)
  refine hX.mono (fun r c1 hp => ?_)
  obtain ⟨x, S1, e1, ⟨e2, e3⟩, hW1⟩ := hp
  rw [e2] at hW1
  exact ⟨by rw [e1, e3], hW1⟩
set_option maxRecDepth 100000 in
set_option maxHeartbeats 4000000 in
theorem c_same {G : xG} {v : Nat → Nat} {B : Nat × Nat} {c0 : List va_E} {S : St} {cs : List va_E} {e : Env} {h : Hs} {a : Int} (d : Nat) (hd : 7 ≤ d) (hW : Wv G v shC B c0 S cs) (hE : cE S e) (hV : EV e) (g : cH6 S e h) (hH : EH e h) (hVL : VLq e h) (ga : rng a) (hB : B.1 + 300 ≤ 600000 ∧ B.2 + 100300 ≤ 7302250) : X G yX10_same cX10_same 2 (some .boolean) d [.ref (G.1 + v 0), .int (Int32.ofInt a)] cs (fun r c1 => ∃ (x : Int) (v' : Nat → Nat) (S' : St), r = some (.int (Int32.ofInt x)) ∧ (∀ b : Nat, b < 200 → v' b = v b) ∧ Wv G v' shC (B.1 + 4, B.2 + 97) c0 S' c1 ∧ (∀ b : Nat, b < 200 → S'.1 b = S.1 b ∧ S'.2 b = S.2 b) ∧ ((x = 1 ∧ okO e a ∧ 0 < h.1 ∧ smX true e h a = true) ∨ (x = 0 ∧ ¬ (okO e a ∧ 0 < h.1 ∧ smX true e h a = true)))) := by
  have hTC : sb shC shC := fun _ _ h => h
  have hroom := hW.room
  refine X.of false (by decide +kernel) (by decide) (Nat.le_of_ble_eq_true rfl) ?_
  show Z (RX10, cX10_same, 2, some .boolean, false) G d _ 0 [(0, .ref (G.1 + v 0)), (1, .int (Int32.ofInt a))] [] cs
  have bad : ∀ cs, Wv G v shC B c0 S cs → ¬ (okO e a ∧ 0 < h.1 ∧ smX true e h a = true) → Z (RX10, cX10_same, 2, some .boolean, false) G d (fun r c1 => ∃ (x : Int) (v' : Nat → Nat) (S' : St), r = some (.int (Int32.ofInt x)) ∧ (∀ b : Nat, b < 200 → v' b = v b) ∧ Wv G v' shC (B.1 + 4, B.2 + 97) c0 S' c1 ∧ (∀ b : Nat, b < 200 → S'.1 b = S.1 b ∧ S'.2 b = S.2 b) ∧ ((x = 1 ∧ okO e a ∧ 0 < h.1 ∧ smX true e h a = true) ∨ (x = 0 ∧ ¬ (okO e a ∧ 0 < h.1 ∧ smX true e h a = true)))) 53 [(0, .ref (G.1 + v 0)), (1, .int (Int32.ofInt a))] [] cs := fun cs hW q => by
    refine z_iconst (v := Int32.ofInt 0) dX10_same_53 rfl ?_
    exact z_ireturn dX10_same_54 rfl rfl ⟨0, v, S, rfl, fun _ _ => rfl, hW.up (by show B.1 ≤ B.1 + 4; omega) (by show B.2 ≤ B.2 + 97; omega) (by show B.1 + 4 ≤ _; omega) (by show B.2 + 97 ≤ _; omega), fun _ _ => ⟨rfl, rfl⟩, Or.inr ⟨rfl, q⟩⟩
  refine z_aload_n dX10_same_0 rfl rfl ?_
  refine v_getR hW (hTC 0 _ rfl) rfl kX10 fX10_42 dX10_same_1 ?_
  refine z_iload_n dX10_same_4 rfl rfl ?_
  have hX := lX1_has (K := fun r S' => S' = S ∧ ((r = 1 ∧ okO e a) ∨ (r = 0 ∧ ¬ okO e a))) 0 (Nat.le_refl _) hTC shC_nS hW ga (c_hasO hE (fun r hr => ⟨rfl, hr⟩))
  refine z_callV (As := [_]) eX1_has sX1_has lX10_94 rfl dX10_same_5 (hW.at (hTC 42 _ rfl)) hX (Nat.le_trans (by decide) hd) rfl (Nat.le_of_ble_eq_true rfl) (fun r c1 hp => ?_)
  obtain ⟨r1, S1, eR1, ⟨eS, hr⟩, hW1⟩ := hp
  rw [eS] at hW1
  rw [eR1]
  clear eS eR1 hX hW
  refine z_st (st' := [.int (Int32.ofInt r1)]) rfl ?_
  refine i_if_eq (tgt := 53) dX10_same_8 (by decide) (rr01 hr) (fun h4 => bad c1 hW1 (fun q => (hr.resolve_left (fun z => by omega)).2 q.1)) (fun h4 => ?_)
  have ho := (hr.resolve_right (fun z => by omega)).2
  clear hr
  refine z_aload_n dX10_same_11 rfl rfl ?_
  refine v_getR hW1 (hTC 0 _ rfl) rfl kX10 fX10_46 dX10_same_12 ?_
  refine z_iconst (v := Int32.ofInt 0) dX10_same_15 rfl ?_
  have hX := lX1_has_c (a1 := 0) (K := fun r S' => S' = S ∧ ((r = 1 ∧ (0 : Int) ≤ 0 ∧ (0 : Int) < h.1) ∨ (r = 0 ∧ ¬ ((0 : Int) ≤ 0 ∧ (0 : Int) < h.1)))) 0 (Nat.le_refl _) hTC shC_nS hW1 ⟨by decide, by decide⟩ (d_has g (fun r hr => ⟨rfl, hr⟩))
  refine z_callV (As := [_]) eX1_has sX1_has lX10_94 rfl dX10_same_16 (hW1.at (hTC 46 _ rfl)) hX (Nat.le_trans (by decide) hd) rfl (Nat.le_of_ble_eq_true rfl) (fun r c2 hp => ?_)
  obtain ⟨r2, S2, eR2, ⟨eS, hr⟩, hW2⟩ := hp
  rw [eS] at hW2
  rw [eR2]
  clear eS eR2 hX hW1
  refine z_st (st' := [.int (Int32.ofInt r2)]) rfl ?_
  refine i_if_eq (tgt := 53) dX10_same_19 (by decide) (rr01 hr) (fun h5 => bad c2 hW2 (fun q => (hr.resolve_left (fun z => by omega)).2 ⟨Int.le_refl _, q.2.1⟩)) (fun h5 => ?_)
  have hz := ((hr.resolve_right (fun z => by omega)).2).2
  clear hr
  have room2 := hW2.room
  refine z_new (fs := [.null, .null, .null, .null, .null, .null, .int 0]) kX2 nX10_159 aX2 bX2 dX10_same_22 (by decide +kernel) (by omega) ?_
  have g0 : c2[v 0]? = some (.inr (10, [.ref (G.1 + v 1), .ref (G.1 + v 3), .ref (G.1 + v 20), .ref (G.1 + v 22), .ref (G.1 + v 24), .ref (G.1 + v 33), .ref (G.1 + v 42), .ref (G.1 + v 46), .ref (G.1 + v 50), .int (Int32.ofInt (S.1 0 9))])) := hW2.at (hTC 0 _ rfl)
  have g1 : (c2 ++ [.inr (2, [.null, .null, .null, .null, .null, .null, .int 0])])[v 0]? = some (.inr (10, [.ref (G.1 + v 1), .ref (G.1 + v 3), .ref (G.1 + v 20), .ref (G.1 + v 22), .ref (G.1 + v 24), .ref (G.1 + v 33), .ref (G.1 + v 42), .ref (G.1 + v 46), .ref (G.1 + v 50), .int (Int32.ofInt (S.1 0 9))])) := by
    rw [List.getElem?_append_left (at_lt g0)]
    exact g0
  refine z_dup dX10_same_25 rfl ?_
  refine z_aload_n dX10_same_26 rfl rfl ?_
  refine z_get kX10 fX10_32 dX10_same_27 g1 rfl ?_
  refine z_aload_n dX10_same_30 rfl rfl ?_
  refine z_get kX10 fX10_42 dX10_same_31 g1 rfl ?_
  refine z_aload_n dX10_same_34 rfl rfl ?_
  refine z_get kX10 fX10_46 dX10_same_35 g1 rfl ?_
  have hX := c_X2_init (G := G) (b1 := v 24) (b2 := v 42) (b3 := v 46) 1 (Nat.le_refl _) (pre := c2) (by unfold Cp; omega) rfl
  refine z_callI (As := [_, _, _]) eX2_init sX2_init lX10_161 dX10_same_38 hX (Nat.le_trans (by decide) hd) rfl (Nat.le_of_ble_eq_true rfl) (fun r c3 hp => ?_)
  obtain ⟨eR3, ec3⟩ := hp
  rw [eR3]
  have hW3 := hW2.like (by omega)
  have ec4 : c3 = c2 ++ liC G c2.length (v 24) (v 42) (v 46) := ec3
  rw [← ec4] at hW3
  obtain ⟨v2, hv2⟩ : ∃ v2, v2 = vLi v c2.length := ⟨_, rfl⟩
  have e250 : c2.length = v2 250 := by rw [hv2]; exact upv_at.symm
  have ev : ∀ b : Nat, b < 200 → v2 b = v b := fun b hb => by
    rw [hv2]
    unfold vLi
    rw [upv_ne (by omega), upv_ne (by omega), upv_ne (by omega), upv_ne (by omega)]
  rw [← hv2] at hW3
  rw [e250, (ev 0 (by decide)).symm]
  clear ec3 ec4 eR3 hX g1 g0 hW2 hv2 e250
  obtain ⟨S3, hS3⟩ : ∃ S3, S3 = sLi S := ⟨_, rfl⟩
  have lo3 : ∀ b, b < 200 → S3.1 b = S.1 b ∧ S3.2 b = S.2 b := fun b hb => by
    rw [hS3]
    unfold sLi
    exact ⟨((((sZ_ne (by omega)).1.trans (sZ_ne (by omega)).1).trans (sZ_ne (by omega)).1).trans (sZ_ne (by omega)).1), ((((sZ_ne (by omega)).2.trans (sZ_ne (by omega)).2).trans (sZ_ne (by omega)).2).trans (sZ_ne (by omega)).2)⟩
  have h06 : S3.1 250 6 = 0 := by rw [hS3]; rfl
  rw [← hS3] at hW3
  have hE3 : cE S3 e := hE.mv (congrFun (lo3 42 (by decide)).1 3) (congrFun (lo3 24 (by decide)).1 8) (lo3 43 (by decide)).2 (lo3 44 (by decide)).2 (lo3 45 (by decide)).2 (lo3 25 (by decide)).2 (lo3 26 (by decide)).2 (lo3 27 (by decide)).2 (lo3 28 (by decide)).2 (lo3 29 (by decide)).2 (lo3 30 (by decide)).2
  have g3 : cH6 S3 e h := g.mv (congrFun (lo3 46 (by decide)).1 3) (lo3 47 (by decide)).2 (lo3 48 (by decide)).2 (lo3 49 (by decide)).2
  refine z_st (st' := [.ref (G.1 + v2 250)]) rfl ?_
  refine z_iload_n dX10_same_41 rfl rfl ?_
  refine z_iconst (v := Int32.ofInt 0) dX10_same_42 rfl ?_
  have hX := lX2_holdsFrom (v := v2) (sh := shLc) (a2 := 0) (K := fun r S' => LF S3 S' ∧ ((r = 1 ∧ smX true e h a = true) ∨ (r = 0 ∧ smX true e h a = false))) 5 (Nat.le_refl _) sb_Lc shLc_S sb_Li hW3 ga ⟨by decide, by decide⟩ (k_holds hE3 hV g3 hH hVL h06 ho hz (fun r S' m hr => ⟨m, hr⟩))
  refine z_callV (As := [_, _]) eX2_holdsFrom sX2_holdsFrom lX10_164 rfl dX10_same_43 (hW3.at (sb_Li 250 _ rfl)) hX (Nat.le_trans (by decide) hd) rfl (Nat.le_of_ble_eq_true rfl) (fun r c4 hp => ?_)
  obtain ⟨r4, S4, eR4, ⟨m4, hr⟩, hW4⟩ := hp
  rw [eR4]
  clear eR4 hX hW3
  have lo4 : ∀ b, b < 200 → S4.1 b = S.1 b ∧ S4.2 b = S.2 b := fun b hb => ⟨(m4.1 b (by omega)).trans (lo3 b hb).1, (m4.2 b (by omega)).trans (lo3 b hb).2⟩
  have hW5 := hW4.sub sb_Lc (fun _ => rfl)
  refine z_st (st' := [.int (Int32.ofInt r4)]) rfl ?_
  refine i_if_eq (tgt := 53) dX10_same_46 (by decide) (rr01 hr) (fun h6 => ?_) (fun h6 => ?_)
  · have w := (hr.resolve_left (fun z => by omega)).2
    refine z_iconst (v := Int32.ofInt 0) dX10_same_53 rfl ?_
    exact z_ireturn dX10_same_54 rfl rfl ⟨0, v2, S4, rfl, ev, hW5, lo4, Or.inr ⟨rfl, fun q => by rw [w] at q; exact absurd q.2.2 (by decide)⟩⟩
  · have w := (hr.resolve_right (fun z => by omega)).2
    refine z_iconst (v := Int32.ofInt 1) dX10_same_49 rfl ?_
    refine z_goto (tgt := 54) dX10_same_50 (by decide) ?_
    exact z_ireturn dX10_same_54 rfl rfl ⟨1, v2, S4, rfl, ev, hW5, lo4, Or.inl ⟨rfl, ho, hz, w⟩⟩

