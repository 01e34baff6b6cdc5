/-! THE CLASS'S limit -/
set_option maxRecDepth 100000 in
theorem Wv.lim {G : xG} {v : Nat → Nat} {B : Nat × Nat} {c0 : List va_E} {S : St} {cs : List va_E} {m : Int} (hW : Wv G v shC B c0 S cs) (hm : iv 1 20 m) : Wv G v shC B c0 (pI S 0 9 m) (cs.set (v 0) (.inr (10, [.ref (G.1 + v 1), .ref (G.1 + v 3), .ref (G.1 + v 20), .ref (G.1 + v 22), .ref (G.1 + v 24), .ref (G.1 + v 33), .ref (G.1 + v 42), .ref (G.1 + v 46), .ref (G.1 + v 50), .int (Int32.ofInt m)]))) := by
  obtain ⟨τ, hT, hA, hI, hO, hD, hE, hF, hFi, hH, hL, hQ, hZ⟩ := hW
  have c0' : cs[v 0]? = some (.inr (10, [.ref (G.1 + v 1), .ref (G.1 + v 3), .ref (G.1 + v 20), .ref (G.1 + v 22), .ref (G.1 + v 24), .ref (G.1 + v 33), .ref (G.1 + v 42), .ref (G.1 + v 46), .ref (G.1 + v 50), .int (Int32.ofInt (S.1 0 9))])) := hA 0 _ rfl
  obtain ⟨-, -, -, p, t0, -⟩ := hE 0 10 _ rfl
  obtain ⟨vs, q1, q2⟩ := hT.2.2.2.2.1 (v 0) 10 p t0 (by decide) (by decide)
  rw [c0'] at q1
  cases q1
  have hT1 := hT.lim (v := m.toNat) t0 c0' q2 (by omega)
  rw [show ((m.toNat : Nat) : Int) = m by omega] at hT1
  have ne : ∀ b t, τ b = some t → (∀ p, t ≠ .inl (10, p)) → lT τ (v 0) m.toNat b = some t := fun b t e h => by
    rw [lT_ne (fun k => by rw [k, t0] at e; exact h p (Option.some.inj e).symm)]
    exact e
  refine ⟨lT τ (v 0) m.toNat, hT1, fun a x h => ?_, hI, pI_ok hO hm, fun a k n h => ne _ _ (hD a k n h) (fun _ q => by cases q), fun a ci rf h => ?_, fun a h => ?_, hFi, fun k k1 k2 => ⟨?_, ?_⟩, by rw [List.length_set]; exact hL, fun a ha => ?_, fun h3 => ⟨?_, (hZ h3).2⟩⟩
  · by_cases q : a = 0
    · subst q
      cases h
      rw [set_at c0']
      rfl
    · have hne : v 0 ≠ v a := fun r => q (hI 0 a _ x rfl h r).symm
      rw [List.getElem?_set_ne hne, hA a x h, encC_ne (pI_ne a q)]
  · obtain ⟨g5, g1, g6, p', hp', hk⟩ := hE a ci rf h
    rcases shC_ci h with ⟨rfl, rfl⟩ | ⟨rfl, rfl⟩ | ⟨rfl, rfl⟩ | ⟨rfl, rfl⟩ | ⟨rfl, rfl⟩ | ⟨rfl, rfl⟩
    · exact ⟨g5, g1, g6, m.toNat, lT_at, fun z => absurd rfl z⟩
    · exact ⟨g5, g1, g6, p', ne _ _ hp' (fun _ q => by have := inl_fst q; omega), hk⟩
    · exact ⟨g5, g1, g6, p', ne _ _ hp' (fun _ q => by have := inl_fst q; omega), hk⟩
    · exact ⟨g5, g1, g6, p', ne _ _ hp' (fun _ q => by have := inl_fst q; omega), hk⟩
    · exact ⟨g5, g1, g6, p', ne _ _ hp' (fun _ q => by have := inl_fst q; omega), hk⟩
    · exact ⟨g5, g1, g6, p', ne _ _ hp' (fun _ q => by have := inl_fst q; omega), hk⟩
  · obtain ⟨s1, n, r, t, ov, hS, hM⟩ := hF a h
    have a0 : a ≠ 0 := by unfold isS at h; omega
    refine ⟨s1, n, r, t, ov, ?_, tM_ne (pI_ne a a0) hM⟩
    obtain ⟨pp, hp⟩ := hQ (v a) s1
    obtain ⟨r', t', ov', hS2, hr'⟩ := hT.2.2.1 (v a) pp hp
    have e := (hS.uq hS2).1
    subst e
    obtain ⟨f, q1, q2, q3⟩ := hS
    refine ⟨f, (List.getElem?_set_ne fun q => ?_).trans q1, (List.getElem?_set_ne fun q => ?_).trans q2, q3⟩
    · rw [q, hp] at t0
      have := some_fst t0
      omega
    · rw [q, hr'] at t0
      have := some_fst t0
      omega
  · rw [lT_ne (fun q => by rw [← q, (hH k k1 k2).1] at t0; cases t0)]
    exact (hH k k1 k2).1
  · rw [List.getElem?_set_ne fun q => by rw [q, (hH k k1 k2).1] at t0; cases t0]
    exact (hH k k1 k2).2
  · obtain ⟨p5, e5⟩ := hQ a ha
    exact ⟨p5, ne _ _ e5 (fun _ q => by have := inl_fst q; omega)⟩
  · rw [List.getElem?_set_ne ((hZ h3).2 0 _ rfl)]
    exact (hZ h3).1
set_option maxRecDepth 100000 in
set_option maxHeartbeats 4000000 in
theorem c_limit {G : xG} {v : Nat → Nat} {B : Nat × Nat} {S : St} {cs : List va_E} {a : Int} (d : Nat) (hW : Wv G v shC B cs S cs) (ga : rng a) : X G yX10_limit cX10_limit 3 (some .int) d [.ref (G.1 + v 0), .int (Int32.ofInt a)] cs (fun r c1 => ∃ (x : Int) (S' : St), r = some (.int (Int32.ofInt x)) ∧ Wv G v shC B cs S' c1 ∧ ((iv 1 20 a ∧ x = S.1 0 9 ∧ S' = pI S 0 9 a) ∨ (¬ iv 1 20 a ∧ x = -1 ∧ S' = S))) := by
  have hTC : sb shC shC := fun _ _ h => h
  refine X.of false (by decide +kernel) (by decide) (Nat.le_of_ble_eq_true rfl) ?_
  show Z (RX10, cX10_limit, 3, some .int, false) G d _ 0 [(0, .ref (G.1 + v 0)), (1, .int (Int32.ofInt a))] [] cs
  have bad : ¬ (1 ≤ a ∧ a ≤ 20) → Z (RX10, cX10_limit, 3, some .int, false) G d (fun r c1 => ∃ (x : Int) (S' : St), r = some (.int (Int32.ofInt x)) ∧ Wv G v shC B cs S' c1 ∧ ((iv 1 20 a ∧ x = S.1 0 9 ∧ S' = pI S 0 9 a) ∨ (¬ iv 1 20 a ∧ x = -1 ∧ S' = S))) 11 [(0, .ref (G.1 + v 0)), (1, .int (Int32.ofInt a))] [] cs := fun h => by
    refine z_iconst (v := Int32.ofInt (-1)) dX10_limit_11 rfl ?_
    exact z_ireturn dX10_limit_12 rfl rfl ⟨-1, S, rfl, hW, Or.inr ⟨h, rfl, rfl⟩⟩
  refine z_iload_n dX10_limit_0 rfl rfl ?_
  refine z_iconst (v := Int32.ofInt 1) dX10_limit_1 rfl ?_
  refine i_icmp_lt (tgt := 11) dX10_limit_2 (by decide) ga ⟨by decide, by decide⟩ (fun h1 => bad (by omega)) (fun h1 => ?_)
  refine z_iload_n dX10_limit_5 rfl rfl ?_
  refine z_bipush (v := Int32.ofInt 20) dX10_limit_6 (by decide) ?_
  refine i_icmp_le (tgt := 13) dX10_limit_8 (by decide) ga ⟨by decide, by decide⟩ (fun h2 => ?_) (fun h2 => bad (by omega))
  refine z_aload_n dX10_limit_13 rfl rfl ?_
  refine v_getI hW (hTC 0 _ rfl) rfl kX10 fX10_52 dX10_limit_14 ?_
  refine z_istore_n dX10_limit_17 rfl (by decide) ?_
  refine z_loc (L' := [(0, .ref (G.1 + v 0)), (1, .int (Int32.ofInt a)), (2, .int (Int32.ofInt (S.1 0 9)))]) (List.forall_mem_cons.mpr ⟨rfl, (List.forall_mem_cons.mpr ⟨rfl, (List.forall_mem_cons.mpr ⟨rfl, (fun _ h => nomatch h)⟩)⟩)⟩) ?_
  refine z_aload_n dX10_limit_18 rfl rfl ?_
  refine z_iload_n dX10_limit_19 rfl rfl ?_
  have g0 : cs[v 0]? = some (.inr (10, [.ref (G.1 + v 1), .ref (G.1 + v 3), .ref (G.1 + v 20), .ref (G.1 + v 22), .ref (G.1 + v 24), .ref (G.1 + v 33), .ref (G.1 + v 42), .ref (G.1 + v 46), .ref (G.1 + v 50), .int (Int32.ofInt (S.1 0 9))])) := hW.at (hTC 0 _ rfl)
  refine z_put kX10 fX10_52 dX10_limit_20 rfl g0 rfl rfl (Nat.le_of_ble_eq_true rfl) ?_
  refine z_iload_n dX10_limit_23 rfl rfl ?_
  exact z_ireturn dX10_limit_24 rfl rfl ⟨S.1 0 9, pI S 0 9 a, rfl, hW.lim ⟨by omega, h2⟩, Or.inl ⟨⟨by omega, h2⟩, rfl, rfl⟩⟩

