/-! THE CLASS'S read: what it leaves -/
theorem Wv.base {G : xG} {v : Nat → Nat} {sh : Nat → Option Sh} {B : Nat × Nat} {c0 : List va_E} {S : St} {cs : List va_E} (h : Wv G v sh B c0 S cs) : Wv G v sh B cs S cs := by
  obtain ⟨τ, hT, hA, hI, hO, hD, hE, hF, hFi, hH, hL, hQ, hZ⟩ := h
  exact ⟨τ, hT, hA, hI, hO, hD, hE, hF, hFi, fun k k1 k2 => ⟨(hH k k1 k2).1, rfl⟩, hL, hQ, fun k hk => ⟨rfl, (hZ k hk).2⟩⟩
theorem Wv.fz {G : xG} {v : Nat → Nat} {sh : Nat → Option Sh} {B : Nat × Nat} {c0 : List va_E} {S : St} {cs : List va_E} (h : Wv G v sh B c0 S cs) {k : Nat} (hk : (54 ≤ k ∧ k < 107) ∨ k = 3 ∨ k = v 46 ∨ k = v 50) : cs[k]? = c0[k]? := by
  obtain ⟨τ, hT, hA, hI, hO, hD, hE, hF, hFi, hH, hL, hQ, hZ⟩ := h
  rcases hk with q | q
  · exact (hH k q.1 q.2).2
  · exact (hZ k q).1
theorem QZ.mv {G : xG} {v : Nat → Nat} {cs c1 : List va_E} (h : QZ G v cs) (e : ∀ k, (k = 3 ∨ k = v 46 ∨ k = v 50) → c1[k]? = cs[k]?) : QZ G v c1 := by
  obtain ⟨⟨vs, e1, e2⟩, h2⟩ := h
  refine ⟨⟨vs, (e 3 (Or.inl rfl)).trans e1, e2⟩, fun k hk => ?_⟩
  obtain ⟨ws, e3, e4⟩ := h2 k hk
  exact ⟨ws, (e k (Or.inr hk)).trans e3, e4⟩
theorem QZ.wv {G : xG} {v : Nat → Nat} {sh : Nat → Option Sh} {B : Nat × Nat} {c0 : List va_E} {S : St} {cs : List va_E} (h : QZ G v c0) (hW : Wv G v sh B c0 S cs) : QZ G v cs := h.mv fun _ hk => hW.fz (Or.inr hk)
/-- the heaps that are read into change places -/
def swH (a : Nat) : Nat := if a = 46 then 50 else if a = 50 then 46 else a
theorem swH_ne {a : Nat} (h : a ≠ 46) (h2 : a ≠ 50) : swH a = a := by
  unfold swH
  rw [if_neg h, if_neg h2]
set_option maxRecDepth 100000 in
theorem Wv.swapH {G : xG} {v : Nat → Nat} {B : Nat × Nat} {c0 : List va_E} {S : St} {cs : List va_E} (hW : Wv G v shC B c0 S cs) (hZq : QZ G v cs) : Wv G (fun a => v (swH a)) shC B (cs.set (v 0) (.inr (10, [.ref (G.1 + v 1), .ref (G.1 + v 3), .ref (G.1 + v 20), .ref (G.1 + v 22), .ref (G.1 + v 24), .ref (G.1 + v 33), .ref (G.1 + v 42), .ref (G.1 + v 50), .ref (G.1 + v 46), .int (Int32.ofInt (S.1 0 9))]))) S (cs.set (v 0) (.inr (10, [.ref (G.1 + v 1), .ref (G.1 + v 3), .ref (G.1 + v 20), .ref (G.1 + v 22), .ref (G.1 + v 24), .ref (G.1 + v 33), .ref (G.1 + v 42), .ref (G.1 + v 50), .ref (G.1 + v 46), .int (Int32.ofInt (S.1 0 9))]))) ∧ QZ G (fun a => v (swH a)) (cs.set (v 0) (.inr (10, [.ref (G.1 + v 1), .ref (G.1 + v 3), .ref (G.1 + v 20), .ref (G.1 + v 22), .ref (G.1 + v 24), .ref (G.1 + v 33), .ref (G.1 + v 42), .ref (G.1 + v 50), .ref (G.1 + v 46), .int (Int32.ofInt (S.1 0 9))]))) := by
  obtain ⟨τ, hT, hA, hI, hO, hD, hE, hF, hFi, hH, hL, hQ, hZ⟩ := hW
  have c0' : cs[v 0]? = some (.inr (10, [.ref (G.1 + v 1), .ref (G.1 + v 3), .ref (G.1 + v 20), .ref (G.1 + v 22), .ref (G.1 + v 24), .ref (G.1 + v 33), .ref (G.1 + v 42), .ref (G.1 + v 46), .ref (G.1 + v 50), .int (Int32.ofInt (S.1 0 9))])) := hA 0 _ rfl
  obtain ⟨-, -, -, p, t0, -⟩ := hE 0 10 _ rfl
  have tH : ∀ k, (k = v 46 ∨ k = v 50) → oT τ k 1 := fun k hk => by
    obtain ⟨-, ⟨ci, p, z2, z3, z4⟩, -⟩ := hZ k (Or.inr hk)
    obtain ⟨vs, e1, -⟩ := hZq.2 k hk
    obtain ⟨ws, e2, -⟩ := hT.2.2.2.2.1 k ci p z2 z3 z4
    rw [e1] at e2
    cases e2
    exact ⟨p, z2⟩
  have hv : ∀ a x, shC a = some x → (fun a => v (swH a)) a = v a := fun a x h => by
    show v (swH a) = v a
    rw [swH_ne (fun q => by subst q; cases h) (fun q => by subst q; cases h)]
  have hvS : ∀ a, isS a → (fun a => v (swH a)) a = v a := fun a h => by
    show v (swH a) = v a
    unfold isS at h
    rw [swH_ne (by omega) (by omega)]
  have hk' : ∀ k, (k = 3 ∨ k = (fun a => v (swH a)) 46 ∨ k = (fun a => v (swH a)) 50) → (k = 3 ∨ k = v 46 ∨ k = v 50) := fun k hk => by
    rcases hk with q | q | q
    · exact Or.inl q
    · exact Or.inr (Or.inr q)
    · exact Or.inr (Or.inl q)
  refine ⟨⟨τ, ?_, fun a x h => ?_, fun a b x y ha hb q => ?_, hO, fun a k m h => ?_, fun a ci rf h => ?_, fun a h => ?_, fun a b ha hb q => ?_, fun k k1 k2 => ⟨(hH k k1 k2).1, rfl⟩, by rw [List.length_set]; exact hL, hQ, fun k hk => ⟨rfl, (hZ k (hk' k hk)).2.1, fun a x h => by rw [hv a x h]; exact (hZ k (hk' k hk)).2.2 a x h⟩⟩, ⟨?_, fun k hk => ?_⟩⟩
  · refine hT.set t0 (fun ci' p' q => by cases q; exact ⟨by decide, by decide⟩) c0' rfl (fun _ _ _ _ q => by cases q) (fun ci' p' q => ?_) (nT hT t0 (by decide) _ (fun b hb => List.getElem?_set_ne (Ne.symm hb)))
    cases q
    refine ⟨_, rfl, ?_⟩
    obtain ⟨vs, q1, q2⟩ := hT.2.2.2.2.1 (v 0) 10 p t0 (by decide) (by decide)
    rw [c0'] at q1
    cases q1
    refine ⟨rfl, fun j t g => ?_⟩
    rcases (show j = 7 ∨ j = 8 ∨ (j ≠ 7 ∧ j ≠ 8) by omega) with rfl | rfl | ⟨n2, n3⟩
    · cases g
      exact ⟨_, rfl, v 50, rfl, tH _ (Or.inr rfl)⟩
    · cases g
      exact ⟨_, rfl, v 46, rfl, tH _ (Or.inl rfl)⟩
    · obtain ⟨w, g1, g2⟩ := q2.2 j t g
      refine ⟨w, ?_, g2⟩
      rw [← g1]
      rcases (show j = 0 ∨ j = 1 ∨ j = 2 ∨ j = 3 ∨ j = 4 ∨ j = 5 ∨ j = 6 ∨ j = 9 ∨ 10 ≤ j by omega) with rfl | rfl | rfl | rfl | rfl | rfl | rfl | rfl | q
      all_goals first | rfl | (rw [List.getElem?_eq_none_iff.mpr (by simpa using q), List.getElem?_eq_none_iff.mpr (by simpa using q)])
  · rw [hv a x h]
    by_cases q : a = 0
    · subst q
      cases h
      rw [set_at c0']
      rfl
    · have hne : v 0 ≠ v a := fun r => q (hI 0 a _ x rfl h r).symm
      rw [List.getElem?_set_ne hne, hA a x h]
      have e1 : vSh (fun a => v (swH a)) x = vSh v x := by
        cases x with
        | inr z => rfl
        | inl z =>
          obtain ⟨ci, rf⟩ := z
          have hr : ∀ r, some r ∈ rf → r ≠ 46 ∧ r ≠ 50 := by
            unfold shC at h
            split at h <;> first | (exact absurd rfl q) | (cases h; intro r hr; simp at hr; omega) | cases h
          unfold vSh
          dsimp only
          congr 2
          refine List.map_congr_left (fun u hu => ?_)
          cases u with
          | none => rfl
          | some r =>
            show some (v (swH r)) = some (v r)
            rw [swH_ne (hr r hu).1 (hr r hu).2]
      rw [e1]
  · rw [hv a x ha, hv b y hb] at q
    exact hI a b x y ha hb q
  · rw [hv a _ h]
    exact hD a k m h
  · rw [hv a _ h]
    exact hE a ci rf h
  · rw [hvS a h]
    obtain ⟨s1, m, r, t, ov, hS, hM⟩ := hF a h
    refine ⟨s1, m, r, t, ov, ?_, hM⟩
    obtain ⟨pp, hp⟩ := hQ (v a) s1
    obtain ⟨r', t', ov', hS2, hr'⟩ := hT.2.2.1 (v a) pp hp
    have e := (hS.uq hS2).1
    subst e
    obtain ⟨f, q1, q2, q3⟩ := hS
    refine ⟨f, (List.getElem?_set_ne fun q => ?_).trans q1, (List.getElem?_set_ne fun q => ?_).trans q2, q3⟩
    · rw [q, hp] at t0
      have := some_fst t0
      omega
    · rw [q, hr'] at t0
      have := some_fst t0
      omega
  · rw [hvS a ha, hvS b hb] at q
    exact hFi a b ha hb q
  · obtain ⟨vs, e1, e2⟩ := hZq.1
    refine ⟨vs, ?_, e2⟩
    rw [List.getElem?_set_ne ((hZ 3 (Or.inl rfl)).2.2 0 _ rfl)]
    exact e1
  · have hk2 : k = v 46 ∨ k = v 50 := by
      rcases hk with q | q
      · exact Or.inr q
      · exact Or.inl q
    obtain ⟨vs, e1, e2⟩ := hZq.2 k hk2
    refine ⟨vs, ?_, e2⟩
    rw [List.getElem?_set_ne ((hZ k (Or.inr hk2)).2.2 0 _ rfl)]
    exact e1
/-- what is left behind a reading -/
def RdQ (G : xG) (v : Nat → Nat) (B : Nat × Nat) (S : St) (cs : List va_E) (P : St → Prop) : xP := fun r c1 => ∃ (x : Int) (v' : Nat → Nat) (S' : St), r = some (.int (Int32.ofInt x)) ∧ VV v' ∧ Wv G v' shC B c1 S' c1 ∧ QZ G v' c1 ∧ (∀ b, b ≠ 1 → b ≠ 4 → S'.1 b = S.1 b ∧ S'.2 b = S.2 b) ∧ P S' ∧ ∀ k, 54 ≤ k → k < 107 → c1[k]? = cs[k]?
set_option maxRecDepth 100000 in
set_option maxHeartbeats 4000000 in
theorem c_readT {G : xG} {v : Nat → Nat} {B : Nat × Nat} {S : St} {cs : List va_E} {l1 l2 : Int} {d : Nat} (hd : 14 ≤ d) (hW : Wv G v shC B cs S cs) (hV : VV v) (hZ : QZ G v cs) (g1 : rng l1) (g2 : rng l2) : Z (RX10, cX10_read, 4, some .int, false) G d (RdQ G v B S cs (fun S' => S'.1 1 1 = 0)) 64 [(0, .ref (G.1 + v 0)), (1, .int (Int32.ofInt l1))] [.int (Int32.ofInt l2)] cs := by
  have hTC : sb shC shC := fun _ _ h => h
  have i1 : isS 1 := by unfold isS; decide
  refine z_istore_n dX10_read_64 rfl (by decide) ?_
  refine z_loc (L' := [(0, .ref (G.1 + v 0)), (1, .int (Int32.ofInt l1)), (2, .int (Int32.ofInt l2))]) (List.forall_mem_cons.mpr ⟨rfl, (List.forall_mem_cons.mpr ⟨rfl, (List.forall_mem_cons.mpr ⟨rfl, (fun _ h => nomatch h)⟩)⟩)⟩) ?_
  refine z_aload_n dX10_read_65 rfl rfl ?_
  refine v_getR hW (hTC 0 _ rfl) rfl kX10 fX10_12 dX10_read_66 ?_
  have hX := lX5_clear (K := fun _ S' => S' = sClr S 1) 0 (Nat.le_refl _) hW i1 (fun b x h e => shC_nS b x h (e ▸ i1)) (fun _ h => h)
  refine z_callV (As := []) eX5_clear sX5_clear lX10_72 rfl dX10_read_69 (hW.sg i1 (fun b x h e => shC_nS b x h (e ▸ i1))).choose_spec.choose_spec.choose_spec.choose_spec.1.choose_spec.1 hX (Nat.le_trans (by decide) hd) rfl (Nat.le_of_ble_eq_true rfl) (fun r c2 hp => ?_)
  obtain ⟨-, S2, eR2, eS, hW2⟩ := hp
  rw [eR2]
  clear eR2 hX
  have hZ2 := hZ.wv hW2
  have ne2 : ∀ b, b ≠ 1 → b ≠ 4 → S2.1 b = S.1 b ∧ S2.2 b = S.2 b := fun b h1 _ => by rw [eS]; exact sClr_ne b h1
  have z2 : S2.1 1 1 = 0 := by rw [eS]; rfl
  have fr2 : ∀ k, 54 ≤ k → k < 107 → c2[k]? = cs[k]? := fun k k1 k2 => hW2.fz (Or.inl ⟨k1, k2⟩)
  have hW3 := hW2.base
  clear hW2 eS hW hZ
  refine z_st (st' := []) rfl ?_
  refine z_iload_n dX10_read_72 rfl rfl ?_
  refine z_iconst (v := Int32.ofInt (-1)) dX10_read_73 rfl ?_
  refine i_icmp_eq (tgt := 81) dX10_read_74 (by decide) g1 (show rng (-1) from ⟨by decide, by decide⟩) (fun h17 => ?_) (fun h17 => ?_)
  · refine z_iload_n dX10_read_81 rfl rfl ?_
    refine z_iconst (v := Int32.ofInt (-1)) dX10_read_82 rfl ?_
    refine i_icmp_eq (tgt := 99) dX10_read_83 (by decide) g2 (show rng (-1) from ⟨by decide, by decide⟩) (fun h18 => ?_) (fun h18 => ?_)
    · refine z_aload_n dX10_read_99 rfl rfl ?_
      refine v_getR hW3 (hTC 0 _ rfl) rfl kX10 fX10_46 dX10_read_100 ?_
      refine z_astore_n dX10_read_103 rfl (by decide) ?_
      refine z_loc (L' := [(0, .ref (G.1 + v 0)), (1, .int (Int32.ofInt l1)), (2, .int (Int32.ofInt l2)), (3, .ref (G.1 + v 46))]) (List.forall_mem_cons.mpr ⟨rfl, (List.forall_mem_cons.mpr ⟨rfl, (List.forall_mem_cons.mpr ⟨rfl, (List.forall_mem_cons.mpr ⟨rfl, (fun _ h => nomatch h)⟩)⟩)⟩)⟩) ?_
      refine z_aload_n dX10_read_104 rfl rfl ?_
      refine z_aload_n dX10_read_105 rfl rfl ?_
      refine v_getR hW3 (hTC 0 _ rfl) rfl kX10 fX10_49 dX10_read_106 ?_
      have g0 : c2[v 0]? = some (.inr (10, [.ref (G.1 + v 1), .ref (G.1 + v 3), .ref (G.1 + v 20), .ref (G.1 + v 22), .ref (G.1 + v 24), .ref (G.1 + v 33), .ref (G.1 + v 42), .ref (G.1 + v 46), .ref (G.1 + v 50), .int (Int32.ofInt (S2.1 0 9))])) := hW3.at (hTC 0 _ rfl)
      refine z_put kX10 fX10_46 dX10_read_109 rfl g0 rfl rfl (Nat.le_of_ble_eq_true rfl) ?_
      refine z_aload_n dX10_read_112 rfl rfl ?_
      refine z_aload_n dX10_read_113 rfl rfl ?_
      refine z_put kX10 fX10_49 dX10_read_114 rfl (set_at g0) rfl rfl (Nat.le_of_ble_eq_true rfl) ?_
      rw [List.set_set]
      obtain ⟨hW6, hZ6⟩ := hW3.swapH hZ2
      have l0 : v 0 = 0 := hV.1
      obtain ⟨c6, hc6⟩ : ∃ c6, c6 = c2.set (v 0) (.inr (10, [.ref (G.1 + v 1), .ref (G.1 + v 3), .ref (G.1 + v 20), .ref (G.1 + v 22), .ref (G.1 + v 24), .ref (G.1 + v 33), .ref (G.1 + v 42), .ref (G.1 + v 50), .ref (G.1 + v 46), .int (Int32.ofInt (S2.1 0 9))])) := ⟨_, rfl⟩
      rw [← hc6] at hW6 hZ6
      show Z _ _ _ _ _ _ _ (c2.set (v 0) (.inr (10, [.ref (G.1 + v 1), .ref (G.1 + v 3), .ref (G.1 + v 20), .ref (G.1 + v 22), .ref (G.1 + v 24), .ref (G.1 + v 33), .ref (G.1 + v 42), .ref (G.1 + v 50), .ref (G.1 + v 46), .int (Int32.ofInt (S2.1 0 9))])))
      rw [← hc6]
      have fr6 : ∀ k, 54 ≤ k → k < 107 → c6[k]? = cs[k]? := fun k k1 k2 => by
        rw [hc6, List.getElem?_set_ne (by omega)]
        exact fr2 k k1 k2
      refine z_aload_n dX10_read_117 rfl rfl ?_
      obtain ⟨v5, hv5⟩ : ∃ v5 : Nat → Nat, v5 = fun a => v (swH a) := ⟨_, rfl⟩
      rw [← hv5] at hW6 hZ6
      have hV5 : VV v5 := by rw [hv5]; exact hV
      have e0 : v 0 = v5 0 := by rw [hv5]; rfl
      rw [e0]
      refine v_getR (a := 0) hW6 (hTC 0 _ rfl) rfl kX10 fX10_46 dX10_read_118 ?_
      have t46 : ∃ (B : Nat × Nat) (τ : Tau), WT G B τ c6 ∧ oT τ (v5 46) 1 := by
        obtain ⟨τ, hT, hA, hI, hO, hD, hE, hF, hFi, hH, hL, hQ, hZ⟩ := hW6
        obtain ⟨-, ⟨ci, p, z2, z3, z4⟩, -⟩ := hZ _ (Or.inr (Or.inl rfl))
        obtain ⟨vs, e1, -⟩ := hZ6.2 _ (Or.inl rfl)
        obtain ⟨ws, e2, -⟩ := hT.2.2.2.2.1 _ ci p z2 z3 z4
        rw [e1] at e2
        cases e2
        exact ⟨_, τ, hT, p, z2⟩
      obtain ⟨B', τ', hT', p', ht'⟩ := t46
      have hX0 := kX1_size 0 (Nat.le_refl _) hT' ht'
      refine z_callV (As := []) eX1_size sX1_size lX10_158 rfl dX10_read_121 (hT'.ob ht' (by decide)).choose_spec hX0 (Nat.le_trans (by decide) hd) rfl (Nat.le_of_ble_eq_true rfl) (fun r cs1 hp => ?_)
      obtain ⟨hcs, r23, rfl, gr23, -⟩ := hp
      obtain rfl := hcs.symm
      refine z_st (st' := [.int (Int32.ofInt r23)]) rfl ?_
      refine z_ireturn dX10_read_124 rfl rfl ⟨r23, v5, S2, rfl, hV5, hW6, hZ6, ne2, z2, fr6⟩
    · refine z_sipush (v := Int32.ofInt (-10001)) dX10_read_86 (by decide) ?_
      refine z_aload_n dX10_read_89 rfl rfl ?_
      refine v_getR hW3 (hTC 0 _ rfl) rfl kX10 fX10_19 dX10_read_90 ?_
      refine z_iload_n dX10_read_93 rfl rfl ?_
      have hW4 := hW3
      obtain ⟨τ', hT', -⟩ := hW4
      obtain ⟨p', ht'⟩ := hT'.2.1.2.1
      rw [← hV.2.2.1] at ht'
      have hX0 := kX6_beginOf 1 (Nat.le_refl _) hT' ht' g2
      refine z_callV (As := [_]) eX6_beginOf sX6_beginOf lX10_155 rfl dX10_read_94 (hT'.ob ht' (by decide)).choose_spec hX0 (Nat.le_trans (by decide) hd) rfl (Nat.le_of_ble_eq_true rfl) (fun r cs1 hp => ?_)
      obtain ⟨hcs, r26, rfl, gr26, -⟩ := hp
      obtain rfl := hcs.symm
      refine z_st (st' := [.int (Int32.ofInt r26), .int (Int32.ofInt (-10001))]) rfl ?_
      refine i_isub dX10_read_97 ?_
      refine z_ireturn dX10_read_98 rfl rfl ⟨-10001 - r26, v, S2, rfl, hV, hW3, hZ2, ne2, z2, fr2⟩
  · refine z_iconst (v := Int32.ofInt (-1)) dX10_read_77 rfl ?_
    refine z_iload_n dX10_read_78 rfl rfl ?_
    refine i_isub dX10_read_79 ?_
    exact z_ireturn dX10_read_80 rfl rfl ⟨-1 - l1, v, S2, rfl, hV, hW3, hZ2, ne2, z2, fr2⟩

