/-! THE CLASS'S same and limit -/
theorem shC_gW {a k n : Nat} (h : shC a = some (.inr (k, n))) : gA (k, n, (tB a).1, (tB a).2) ≠ 99 ∧ gA (k, n, (tB a).1, (tB a).2) ∉ [2] := by
  unfold shC at h
  split at h <;> first | (cases h; exact ⟨by decide, by decide⟩) | cases h
set_option maxRecDepth 100000 in
theorem c_same {G : xG} {v : Nat → Nat} {B : Nat × Nat} {S : St} {cs : List va_E} {a : Int} (d : Nat) (hd : 8 ≤ d) (hW : Wv G v shC B cs S cs) (hZq : QZ G v cs) (ga : rng a) (hB : B.1 + 20 ≤ 600000 ∧ B.2 + 1200 ≤ 7302250) : X G yX10_same cX10_same 2 (some .boolean) d [.ref (G.1 + v 0), .int (Int32.ofInt a)] cs (fun r c1 => ∃ x : Int, r = some (.int (Int32.ofInt x)) ∧ rng x ∧ Wv G v shC (B.1 + 20, B.2 + 1200) c1 S c1 ∧ QZ G v c1 ∧ ∀ k, 54 ≤ k → k < 107 → c1[k]? = cs[k]?) := by
  obtain ⟨τ, hT, hA, hI, hO, hD, hE, hF, hFi, hH, hL, hQ, hZ⟩ := hW
  obtain ⟨-, -, -, p, t0, -⟩ := hE 0 10 _ rfl
  refine (kX10_same d hd hT t0 ga hB).mono (fun r c1 hp => ?_)
  obtain ⟨τ1, x, e1, gx, hT1, hX, -⟩ := hp
  have ob : ∀ b ci p, τ b = some (.inl (ci, p)) → gC ci ∉ [2] → c1[b]? = cs[b]? := fun b ci p e h => hX.2.2.2.1 b ci p e h
  have fz : ∀ k, (k = 3 ∨ k = v 46 ∨ k = v 50) → c1[k]? = cs[k]? := fun k hk => by
    obtain ⟨-, ⟨ci, p, z2, z3, z4⟩, -⟩ := hZ k hk
    refine ob k ci p z2 ?_
    rcases hk with q | q
    · obtain ⟨p3, e3⟩ := hT.2.1.2.1
      rw [q, e3] at z2
      rw [← some_fst z2]
      decide
    · obtain ⟨vs, e2, -⟩ := hZq.2 k q
      obtain ⟨ws, e3, -⟩ := hT.2.2.2.2.1 k ci p z2 z3 z4
      rw [e2] at e3
      cases e3
      decide
  refine ⟨x, e1, gx, ⟨τ1, hT1, fun b y hb => ?_, hI, hO, fun b k n hb => hX.1.a (hD b k n hb), fun b ci rf hb => ?_, fun b hb => ?_, hFi, fun k k1 k2 => ⟨(hX.2.2.1 k (by omega) (hH k k1 k2).1).2, rfl⟩, Nat.le_trans hL hX.2.1, fun b hb => hX.1.s (hQ b hb), fun k hk => ⟨rfl, ?_, (hZ k hk).2.2⟩⟩, hZq.mv fz, fun k k1 k2 => (hX.2.2.1 k (by omega) (hH k k1 k2).1).1⟩
  · rw [← hA b y hb]
    cases y with
    | inl q =>
      obtain ⟨ci, rf⟩ := q
      obtain ⟨-, -, -, p', hp', -⟩ := hE b ci rf hb
      refine ob _ ci p' hp' ?_
      rcases shC_ci hb with ⟨-, rfl⟩ | ⟨-, rfl⟩ | ⟨-, rfl⟩ | ⟨-, rfl⟩ <;> decide
    | inr q => exact hX.2.2.2.2 _ _ (hD b q.1 q.2 hb) (shC_gW hb).1 (shC_gW hb).2
  · obtain ⟨g5, g1, g6, p', hp', hk⟩ := hE b ci rf hb
    exact ⟨g5, g1, g6, p', hX.1.e hp' g5, hk⟩
  · obtain ⟨s1, m, r, t, ov, hS, hM⟩ := hF b hb
    refine ⟨s1, m, r, t, ov, ?_, hM⟩
    obtain ⟨pp, hp⟩ := hQ (v b) s1
    obtain ⟨r', t', ov', hS2, hr'⟩ := hT.2.2.1 (v b) pp hp
    have e := (hS.uq hS2).1
    subst e
    obtain ⟨f, q1, q2, q3⟩ := hS
    refine ⟨f, (ob _ 5 pp hp (by decide)).trans q1, (ob _ _ _ hr' ?_).trans q2, q3⟩
    rw [show gC (100 + v b) = 5 from if_neg (by omega)]
    decide
  · obtain ⟨-, ⟨ci, p, z2, z3, z4⟩, -⟩ := hZ k hk
    exact ⟨ci, p, hX.1.e z2 z3, z3, z4⟩
set_option maxRecDepth 100000 in
theorem Wv.lim {G : xG} {v : Nat → Nat} {B : Nat × Nat} {c0 : List va_E} {S : St} {cs : List va_E} {m : Int} (hW : Wv G v shC B c0 S cs) (hm : iv 1 20 m) : Wv G v shC B c0 (pI S 0 9 m) (cs.set (v 0) (.inr (10, [.ref (G.1 + v 1), .ref (G.1 + v 3), .ref (G.1 + v 20), .ref (G.1 + v 22), .ref (G.1 + v 24), .ref (G.1 + v 33), .ref (G.1 + v 42), .ref (G.1 + v 46), .ref (G.1 + v 50), .int (Int32.ofInt m)]))) := by
  obtain ⟨τ, hT, hA, hI, hO, hD, hE, hF, hFi, hH, hL, hQ, hZ⟩ := hW
  have c0' : cs[v 0]? = some (.inr (10, [.ref (G.1 + v 1), .ref (G.1 + v 3), .ref (G.1 + v 20), .ref (G.1 + v 22), .ref (G.1 + v 24), .ref (G.1 + v 33), .ref (G.1 + v 42), .ref (G.1 + v 46), .ref (G.1 + v 50), .int (Int32.ofInt (S.1 0 9))])) := hA 0 _ rfl
  obtain ⟨-, -, -, p, t0, -⟩ := hE 0 10 _ rfl
  obtain ⟨vs, q1, q2⟩ := hT.2.2.2.2.1 (v 0) 10 p t0 (by decide) (by decide)
  rw [c0'] at q1
  cases q1
  have hT1 := hT.lim (v := m.toNat) t0 c0' q2 (by omega)
  rw [show ((m.toNat : Nat) : Int) = m by omega] at hT1
  have ne : ∀ b t, τ b = some t → (∀ p, t ≠ .inl (10, p)) → lT τ (v 0) m.toNat b = some t := fun b t e h => by
    rw [lT_ne (fun k => by rw [k, t0] at e; exact h p (Option.some.inj e).symm)]
    exact e
  refine ⟨lT τ (v 0) m.toNat, hT1, fun a x h => ?_, hI, pI_ok hO hm, fun a k n h => ne _ _ (hD a k n h) (fun _ q => by cases q), fun a ci rf h => ?_, fun a h => ?_, hFi, fun k k1 k2 => ⟨?_, ?_⟩, by rw [List.length_set]; exact hL, fun a ha => ?_, fun k hk => ⟨?_, ?_, (hZ k hk).2.2⟩⟩
  · by_cases q : a = 0
    · subst q
      cases h
      rw [set_at c0']
      rfl
    · have hne : v 0 ≠ v a := fun r => q (hI 0 a _ x rfl h r).symm
      rw [List.getElem?_set_ne hne, hA a x h, encC_ne (pI_ne a q)]
  · obtain ⟨g5, g1, g6, p', hp', hk⟩ := hE a ci rf h
    rcases shC_ci h with ⟨rfl, rfl⟩ | ⟨rfl, rfl⟩ | ⟨rfl, rfl⟩ | ⟨rfl, rfl⟩
    · exact ⟨g5, g1, g6, m.toNat, lT_at, fun z => absurd rfl z⟩
    · exact ⟨g5, g1, g6, p', ne _ _ hp' (fun _ q => by have := inl_fst q; omega), hk⟩
    · exact ⟨g5, g1, g6, p', ne _ _ hp' (fun _ q => by have := inl_fst q; omega), hk⟩
    · exact ⟨g5, g1, g6, p', ne _ _ hp' (fun _ q => by have := inl_fst q; omega), hk⟩
  · obtain ⟨s1, n, r, t, ov, hS, hM⟩ := hF a h
    have a0 : a ≠ 0 := by unfold isS at h; omega
    refine ⟨s1, n, r, t, ov, ?_, tM_ne (pI_ne a a0) hM⟩
    obtain ⟨pp, hp⟩ := hQ (v a) s1
    obtain ⟨r', t', ov', hS2, hr'⟩ := hT.2.2.1 (v a) pp hp
    have e := (hS.uq hS2).1
    subst e
    obtain ⟨f, q1, q2, q3⟩ := hS
    refine ⟨f, (List.getElem?_set_ne fun q => ?_).trans q1, (List.getElem?_set_ne fun q => ?_).trans q2, q3⟩
    · rw [q, hp] at t0
      have := some_fst t0
      omega
    · rw [q, hr'] at t0
      have := some_fst t0
      omega
  · rw [lT_ne (fun q => by rw [← q, (hH k k1 k2).1] at t0; cases t0)]
    exact (hH k k1 k2).1
  · rw [List.getElem?_set_ne fun q => by rw [q, (hH k k1 k2).1] at t0; cases t0]
    exact (hH k k1 k2).2
  · obtain ⟨p5, e5⟩ := hQ a ha
    exact ⟨p5, ne _ _ e5 (fun _ q => by have := inl_fst q; omega)⟩
  · rw [List.getElem?_set_ne ((hZ k hk).2.2 0 _ rfl)]
    exact (hZ k hk).1
  · obtain ⟨-, ⟨ci, p', z2, z3, z4⟩, z5⟩ := hZ k hk
    refine ⟨ci, p', ?_, z3, z4⟩
    rw [lT_ne (fun q => z5 0 _ rfl q.symm)]
    exact z2
set_option maxRecDepth 100000 in
set_option maxHeartbeats 4000000 in
theorem c_limit {G : xG} {v : Nat → Nat} {B : Nat × Nat} {S : St} {cs : List va_E} {a : Int} (d : Nat) (hW : Wv G v shC B cs S cs) (ga : rng a) : X G yX10_limit cX10_limit 3 (some .int) d [.ref (G.1 + v 0), .int (Int32.ofInt a)] cs (fun r c1 => ∃ (x : Int) (S' : St), r = some (.int (Int32.ofInt x)) ∧ Wv G v shC B cs S' c1 ∧ ((iv 1 20 a ∧ x = S.1 0 9 ∧ S' = pI S 0 9 a) ∨ (¬ iv 1 20 a ∧ x = -1 ∧ S' = S))) := by
  have hTC : sb shC shC := fun _ _ h => h
  refine X.of false (by decide +kernel) (by decide) (Nat.le_of_ble_eq_true rfl) ?_
  show Z (RX10, cX10_limit, 3, some .int, false) G d _ 0 [(0, .ref (G.1 + v 0)), (1, .int (Int32.ofInt a))] [] cs
  have bad : ¬ (1 ≤ a ∧ a ≤ 20) → Z (RX10, cX10_limit, 3, some .int, false) G d (fun r c1 => ∃ (x : Int) (S' : St), r = some (.int (Int32.ofInt x)) ∧ Wv G v shC B cs S' c1 ∧ ((iv 1 20 a ∧ x = S.1 0 9 ∧ S' = pI S 0 9 a) ∨ (¬ iv 1 20 a ∧ x = -1 ∧ S' = S))) 11 [(0, .ref (G.1 + v 0)), (1, .int (Int32.ofInt a))] [] cs := fun h => by
    refine z_iconst (v := Int32.ofInt (-1)) dX10_limit_11 rfl ?_
    exact z_ireturn dX10_limit_12 rfl rfl ⟨-1, S, rfl, hW, Or.inr ⟨h, rfl, rfl⟩⟩
  refine z_iload_n dX10_limit_0 rfl rfl ?_
  refine z_iconst (v := Int32.ofInt 1) dX10_limit_1 rfl ?_
  refine i_icmp_lt (tgt := 11) dX10_limit_2 (by decide) ga ⟨by decide, by decide⟩ (fun h1 => bad (by omega)) (fun h1 => ?_)
  refine z_iload_n dX10_limit_5 rfl rfl ?_
  refine z_bipush (v := Int32.ofInt 20) dX10_limit_6 (by decide) ?_
  refine i_icmp_le (tgt := 13) dX10_limit_8 (by decide) ga ⟨by decide, by decide⟩ (fun h2 => ?_) (fun h2 => bad (by omega))
  refine z_aload_n dX10_limit_13 rfl rfl ?_
  refine v_getI hW (hTC 0 _ rfl) rfl kX10 fX10_52 dX10_limit_14 ?_
  refine z_istore_n dX10_limit_17 rfl (by decide) ?_
  refine z_loc (L' := [(0, .ref (G.1 + v 0)), (1, .int (Int32.ofInt a)), (2, .int (Int32.ofInt (S.1 0 9)))]) (List.forall_mem_cons.mpr ⟨rfl, (List.forall_mem_cons.mpr ⟨rfl, (List.forall_mem_cons.mpr ⟨rfl, (fun _ h => nomatch h)⟩)⟩)⟩) ?_
  refine z_aload_n dX10_limit_18 rfl rfl ?_
  refine z_iload_n dX10_limit_19 rfl rfl ?_
  have g0 : cs[v 0]? = some (.inr (10, [.ref (G.1 + v 1), .ref (G.1 + v 3), .ref (G.1 + v 20), .ref (G.1 + v 22), .ref (G.1 + v 24), .ref (G.1 + v 33), .ref (G.1 + v 42), .ref (G.1 + v 46), .ref (G.1 + v 50), .int (Int32.ofInt (S.1 0 9))])) := hW.at (hTC 0 _ rfl)
  refine z_put kX10 fX10_52 dX10_limit_20 rfl g0 rfl rfl (Nat.le_of_ble_eq_true rfl) ?_
  refine z_iload_n dX10_limit_23 rfl rfl ?_
  exact z_ireturn dX10_limit_24 rfl rfl ⟨S.1 0 9, pI S 0 9 a, rfl, hW.lim ⟨by omega, h2⟩, Or.inl ⟨⟨by omega, h2⟩, rfl, rfl⟩⟩

