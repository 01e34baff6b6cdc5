/-! the world over the integers, behind a call that sees a part -/
theorem ref_inj {x b b' : Nat} (h : some (Value.ref (x + b)) = some (Value.ref (x + b'))) : b = b' := by
  have h1 := Value.ref.inj (Option.some.inj h)
  exact Nat.add_left_cancel h1
/-- the texts 1 and 4 are others -/
def sTx (S : St) (t1 t4 : List Int32) (o1 o4 : Bool) : St := (fun a j => if a = 1 then (if j = 1 then (t1.length : Int) else if j = 2 then (if o1 then 1 else 0) else S.1 1 j) else if a = 4 then (if j = 1 then (t4.length : Int) else if j = 2 then (if o4 then 1 else 0) else S.1 4 j) else S.1 a j, fun a i => if a = 1 then (t1.getD i.toNat 0).toInt else if a = 4 then (t4.getD i.toNat 0).toInt else S.2 a i)
theorem sTx_ne {S : St} {t1 t4 : List Int32} {o1 o4 : Bool} {b : Nat} (h1 : b ≠ 1) (h4 : b ≠ 4) : (sTx S t1 t4 o1 o4).1 b = S.1 b ∧ (sTx S t1 t4 o1 o4).2 b = S.2 b := ⟨funext fun j => by
    show (if b = 1 then _ else if b = 4 then _ else S.1 b j) = _
    rw [if_neg h1, if_neg h4], funext fun i => by
    show (if b = 1 then _ else if b = 4 then _ else S.2 b i) = _
    rw [if_neg h1, if_neg h4]⟩
theorem tM_of {S : St} {a : Nat} {t : List Int32} {ov : Bool} (h1 : S.1 a 1 = (t.length : Int)) (h2 : S.1 a 2 = (if ov then 1 else 0)) (h3 : ∀ i : Int, S.2 a i = (t.getD i.toNat 0).toInt) (hc : ∀ x ∈ t, fits .char (.int x) = true) : tM S a t ov := by
  refine ⟨h1, h2, fun i hi => ?_⟩
  rw [h3, Int.toNat_natCast, Int32.ofInt_toInt]
  refine ⟨rfl, fit_ch (hc _ ?_)⟩
  rw [List.getD_eq_getElem?_getD, List.getElem?_eq_getElem hi]
  exact List.getElem_mem hi
theorem shC_gA {a k n : Nat} (h : shC a = some (.inr (k, n))) : (a = 43 ∨ a = 44 ∨ a = 45) ∨ gA (k, n, (tB a).1, (tB a).2) = 4 := by
  unfold shC at h
  split at h <;> first | (cases h; exact Or.inl (by decide)) | (cases h; exact Or.inr (by decide)) | cases h
theorem shC_ci {a ci : Nat} {rf : List (Option Nat)} (h : shC a = some (.inl (ci, rf))) : (a = 0 ∧ ci = 10) ∨ (a = 24 ∧ ci = 4) ∨ (a = 33 ∧ ci = 4) ∨ (a = 42 ∧ ci = 1) := by
  unfold shC at h
  split at h <;> first | (cases h; decide) | cases h
set_option maxRecDepth 100000 in
set_option maxHeartbeats 2000000 in
theorem Wv.see {G : xG} {v : Nat → Nat} {B : Nat × Nat} {c0 : List va_E} {S : St} {cs : List va_E} (hW : Wv G v shC B c0 S cs) (hV : VV v) (hZq : QZ G v cs) (hB6 : B.1 + 6000 ≤ 600000 ∧ B.2 + 18000 ≤ 7302250) : ∃ τ : Tau, WT G (hB τ B) (hid τ v) cs ∧ oT (hid τ v) 1 5 ∧ oT (hid τ v) 3 6 ∧ (∃ p, hid τ v (v 24) = some (.inl (4, p))) ∧ (∃ p, hid τ v (v 50) = some (.inl (1, p))) ∧ hid τ v (v 0) = none ∧ (hB τ B).1 ≤ B.1 + 6000 ∧ (hB τ B).2 ≤ B.2 + 18000 ∧ ∀ (W : List Nat) (τ1 : Tau) (c1 : List va_E) (B1 : Nat × Nat) (x y : Nat), WT G B1 τ1 c1 → Fx W (hid τ v) cs τ1 c1 → 4 ∉ W → B1.1 = (hB τ B).1 + x → B1.2 = (hB τ B).2 + y → B.1 + x ≤ 600000 ∧ B.2 + y ≤ 7302250 → ∃ S', Wv G v shC (B.1 + x, B.2 + y) c1 S' c1 ∧ QZ G v c1 ∧ (∀ b, b ≠ 1 → b ≠ 4 → S'.1 b = S.1 b ∧ S'.2 b = S.2 b) ∧ ∀ k, 54 ≤ k → k < 107 → c1[k]? = cs[k]? := by
  obtain ⟨τ, hT, hA, hI, hO, hD, hE, hF, hFi, hH, hL, hQ, hZ⟩ := hW
  obtain ⟨v0, v1, v3, v4, v24, v33⟩ := hV
  have t24 : ∃ p, τ (v 24) = some (.inl (4, p)) := by
    obtain ⟨-, -, -, p, e, -⟩ := hE 24 4 _ rfl
    exact ⟨p, e⟩
  have tH : ∀ k, (k = v 46 ∨ k = v 50) → ∃ p, τ k = some (.inl (1, p)) := fun k hk => by
    obtain ⟨-, ⟨ci, p, z2, z3, z4⟩, -⟩ := hZ k (Or.inr hk)
    obtain ⟨vs, e1, -⟩ := hZq.2 k hk
    obtain ⟨ws, e2, -⟩ := hT.2.2.2.2.1 k ci p z2 z3 z4
    rw [e1] at e2
    cases e2
    exact ⟨p, z2⟩
  have t46 := tH (v 46) (Or.inl rfl)
  have t50 := tH (v 50) (Or.inr rfl)
  have hh : ∀ a, (a = v 43 ∨ a = v 44 ∨ a = v 45) → ∃ k n, τ a = some (.inr (k, n, -2147483648, 2147483648)) := fun a ha => by
    rcases ha with rfl | rfl | rfl
    · exact ⟨_, _, hD 43 _ _ rfl⟩
    · exact ⟨_, _, hD 44 _ _ rfl⟩
    · exact ⟨_, _, hD 45 _ _ rfl⟩
  have b1 : (hB τ B).1 ≤ B.1 + 6000 := by unfold hB; dsimp only; omega
  have b2 : (hB τ B).2 ≤ B.2 + 18000 := by
    have : pz 0 = 9000 := rfl
    unfold hB
    dsimp only
    omega
  obtain ⟨p1, e1⟩ := hQ 1 (by unfold isS; decide)
  obtain ⟨p3, e3⟩ := hT.2.1.2.1
  obtain ⟨-, -, -, p0, e0, -⟩ := hE 0 10 _ rfl
  have nh : ∀ k, (k = v 46 ∨ k = v 50) → ∀ a x, shC a = some x → v a ≠ k := fun k hk => (hZ k (Or.inr hk)).2.2
  have n0 : hid τ v (v 0) = none := hid_on e0 (fun k => by
    rcases k with k | k | k | k | k | k | k
    · cases k
    · cases k.1
    · cases k
    · cases k
    · exact absurd (hI 0 24 _ _ rfl rfl k) (by decide)
    · exact nh _ (Or.inl rfl) 0 _ rfl k
    · exact nh _ (Or.inr rfl) 0 _ rfl k)
  refine ⟨τ, hT.hide hQ v24 hZq t24 t46 t50 hh ⟨by omega, by omega⟩, ⟨p1, hid_o e1 (Or.inr (Or.inl ⟨rfl, Or.inl rfl⟩))⟩, ⟨p3, hid_o e3 (Or.inl rfl)⟩, ?_, ?_, n0, b1, b2, fun W τ1 c1 B1 x y hT1 hX h4W eB1 eB2 hb => ?_⟩
  · obtain ⟨p, e⟩ := t24
    exact ⟨p, hid_o e (Or.inr (Or.inr (Or.inr (Or.inr (Or.inl rfl)))))⟩
  · obtain ⟨p, e⟩ := t50
    exact ⟨p, hid_o e (Or.inr (Or.inr (Or.inr (Or.inr (Or.inr (Or.inr rfl))))))⟩
  obtain ⟨hTb, hsub⟩ := hT.back hQ t24 t46 t50 hT1 hX eB1 eB2 hb
  have lenc : cs.length ≤ c1.length := hX.2.1
  have hidS : ∀ a, a = 20 ∨ a = 22 → hid τ v (v a) = none := fun a ha => by
    have sa : isS a := by unfold isS; omega
    obtain ⟨p, e⟩ := hQ (v a) (hF a sa).1
    refine hid_on e (fun k => ?_)
    rcases k with k | ⟨-, k⟩ | k | k | k | k | k
    · cases k
    · rcases k with k | k
      · have := hFi a 1 sa (by unfold isS; decide) (k.trans v1.symm)
        omega
      · have := hFi a 4 sa (by unfold isS; decide) (k.trans v4.symm)
        omega
    · cases k
    · cases k
    · obtain ⟨p', e'⟩ := t24
      rw [← k, e] at e'
      have := some_fst e'
      omega
    · obtain ⟨p', e'⟩ := t46
      rw [← k, e] at e'
      have := some_fst e'
      omega
    · obtain ⟨p', e'⟩ := t50
      rw [← k, e] at e'
      have := some_fst e'
      omega
  have keep : ∀ a x, shC a = some x → c1[v a]? = cs[v a]? := fun a x h => by
    cases x with
    | inl q =>
      obtain ⟨ci, rf⟩ := q
      obtain ⟨g5, g1, g6, p, hp, -⟩ := hE a ci rf h
      rcases hid_c (v := v) hp with k | k
      · exact (hX.2.2.1 (v a) (hT.1 _ _ hp) k).1
      · refine hX.2.2.2.1 (v a) ci p k ?_
        have : a = 24 ∧ ci = 4 := by
          by_cases z : ci = 6 ∨ (ci = 5 ∧ (v a = 1 ∨ v a = 4)) ∨ ci = 101 ∨ ci = 104 ∨ v a = v 24 ∨ v a = v 46 ∨ v a = v 50
          · rcases z with z | z | z | z | z | z | z
            · exact absurd z g6
            · exact absurd z.1 g5
            · omega
            · omega
            · have := hI a 24 _ _ h rfl z
              have := shC_ci h
              omega
            · exact absurd z (nh _ (Or.inl rfl) a _ h)
            · exact absurd z (nh _ (Or.inr rfl) a _ h)
          · rw [hid_on hp z] at k
            cases k
        rw [this.2]
        exact h4W
    | inr q =>
      obtain ⟨k, n⟩ := q
      have ht := hD a k n h
      rcases hid_c (v := v) ht with z | z
      · exact (hX.2.2.1 (v a) (hT.1 _ _ ht) z).1
      · rcases shC_gA h with w | w
        · rw [hid_an ht (by rcases w with w | w | w <;> (rw [w]; simp))] at z
          cases z
        · refine hX.2.2.2.2 (v a) _ z ?_ ?_
          · rw [w]; decide
          · rw [w]; exact h4W
  have sgn : ∀ a, a = 1 ∨ a = 4 → ∃ n r t ov, Sg G c1 a r n t ov ∧ (∀ x ∈ t, fits .char (.int x) = true) ∧ t.length ≤ 3000 := fun a ha => by
    obtain ⟨p, e⟩ := hsub.s (hQ a (by unfold isS; omega))
    obtain ⟨r, t, ov, hS, -⟩ := hTb.2.2.1 a p e
    obtain ⟨f, s1, s2, s3, s4, s5, s6, s7, s8⟩ := hS
    exact ⟨p, r, t, ov, ⟨f, s1, s2, s3, s4, s5, s6, s7, s8⟩, s8, by omega⟩
  obtain ⟨m1, r1, t1, o1, hS1, hc1, hl1⟩ := sgn 1 (Or.inl rfl)
  obtain ⟨m4, r4, t4, o4, hS4, hc4, hl4⟩ := sgn 4 (Or.inr rfl)
  have rb : ∀ z : Int32, iv (-2147483648) 2147483647 z.toInt := any_ok
  have refs : ∀ h : Nat, (h = v 46 ∨ h = v 50) → ∃ vs, c1[h]? = some (.inr (1, vs)) ∧ ∀ k b : Nat, vs[k]? = some (.ref (G.1 + b)) → b ≠ v 43 ∧ b ≠ v 44 ∧ b ≠ v 45 := fun h hk => by
    obtain ⟨p, e⟩ := tH h hk
    have k1 : hid τ v h = some (.inl (1, p)) := hid_o e (by rcases hk with rfl | rfl <;> simp)
    have k2 := hX.1.e k1 (by decide)
    obtain ⟨vs, e1, e2⟩ := hT1.2.2.2.2.1 h 1 p k2 (by decide) (by decide)
    refine ⟨vs, e1, fun k b hb => ?_⟩
    have hk4 : k < 4 := by
      have := (List.getElem?_eq_some_iff.mp hb).1
      have h4 : vs.length = 4 := e2.1
      omega
    have nb : ∀ q : Nat × Nat × Int × Int, τ1 b = some (.inr q) → b ≠ v 43 ∧ b ≠ v 44 ∧ b ≠ v 45 := fun q hq => by
      have no : ∀ c, (c = v 43 ∨ c = v 44 ∨ c = v 45) → b ≠ c := fun c hc w => by
        obtain ⟨k', n', e'⟩ := hh c hc
        have := (hX.2.2.1 c (hT.1 _ _ e') (hid_an e' hc)).2
        rw [← w, hq] at this
        cases this
      exact ⟨no _ (Or.inl rfl), no _ (Or.inr (Or.inl rfl)), no _ (Or.inr (Or.inr rfl))⟩
    rcases (show k = 0 ∨ k = 1 ∨ k = 2 ∨ k = 3 by omega) with rfl | rfl | rfl | rfl
    · obtain ⟨w, f1, b', f2, f3⟩ := e2.2 0 _ rfl
      rw [hb, f2] at f1
      have : b = b' := ref_inj f1
      exact nb _ (by rw [this]; exact f3)
    · obtain ⟨w, f1, b', f2, f3⟩ := e2.2 1 _ rfl
      rw [hb, f2] at f1
      have : b = b' := ref_inj f1
      exact nb _ (by rw [this]; exact f3)
    · obtain ⟨w, f1, b', f2, f3⟩ := e2.2 2 _ rfl
      rw [hb, f2] at f1
      have : b = b' := ref_inj f1
      exact nb _ (by rw [this]; exact f3)
    · obtain ⟨w, f1, x', f2, f3⟩ := e2.2 3 _ rfl
      rw [hb, f2] at f1
      cases f1
  have tre : ∃ vs, c1[3]? = some (.inr (6, vs)) ∧ ∀ k b : Nat, k < 2 → vs[k]? = some (.ref (G.1 + b)) → b = 1 ∨ b = 4 := by
    obtain ⟨p, e⟩ := hT1.2.1.2.1
    obtain ⟨vs, f1, f2⟩ := hT1.2.2.2.2.1 3 6 p e (by decide) (by decide)
    refine ⟨vs, f1, fun k b hk hb => ?_⟩
    have key : ∀ b', oT τ1 b' 5 → b' = 1 ∨ b' = 4 := fun b' hb' => by
      obtain ⟨n, hn⟩ := hb'
      have hs := hT1.2.1.2.2.2.2.2.2.2.2.1 b' n hn
      have no : ∀ a, a = 20 ∨ a = 22 → b' ≠ v a := fun a ha w => by
        obtain ⟨p', e'⟩ := hQ (v a) (hF a (by unfold isS; omega)).1
        have := (hX.2.2.1 (v a) (hT.1 _ _ e') (hidS a ha)).2
        rw [← w, hn] at this
        cases this
      have i20 := (hF 20 (by unfold isS; decide)).1
      have i22 := (hF 22 (by unfold isS; decide)).1
      have d1 : v 20 ≠ v 22 := fun w => absurd (hFi 20 22 (by unfold isS; decide) (by unfold isS; decide) w) (by decide)
      have d2 : v 20 ≠ v 1 := fun w => absurd (hFi 20 1 (by unfold isS; decide) (by unfold isS; decide) w) (by decide)
      have d3 : v 20 ≠ v 4 := fun w => absurd (hFi 20 4 (by unfold isS; decide) (by unfold isS; decide) w) (by decide)
      have d4 : v 22 ≠ v 1 := fun w => absurd (hFi 22 1 (by unfold isS; decide) (by unfold isS; decide) w) (by decide)
      have d5 : v 22 ≠ v 4 := fun w => absurd (hFi 22 4 (by unfold isS; decide) (by unfold isS; decide) w) (by decide)
      have g1 := no 20 (Or.inl rfl)
      have g2 := no 22 (Or.inr rfl)
      unfold isS at hs i20 i22
      omega
    rcases (show k = 0 ∨ k = 1 by omega) with rfl | rfl
    · obtain ⟨w, g1, b', g2, g3⟩ := f2.2 0 _ rfl
      rw [hb, g2] at g1
      have : b = b' := ref_inj g1
      rw [this]
      exact key b' g3
    · obtain ⟨w, g1, b', g2, g3⟩ := f2.2 1 _ rfl
      rw [hb, g2] at g1
      have : b = b' := ref_inj g1
      rw [this]
      exact key b' g3
  refine ⟨sTx S t1 t4 o1 o4, ⟨bak τ v cs.length τ1, hTb, fun a x h => ?_, hI, ⟨fun a j => ?_, fun a i => ?_⟩, fun a k n h => hsub.a (hD a k n h), fun a ci rf h => ?_, fun a ha => ?_, hFi, fun k g1 g2 => ⟨?_, rfl⟩, by omega, fun a ha => hsub.s (hQ a ha), fun k hk => ⟨rfl, ?_, (hZ k hk).2.2⟩⟩, ⟨tre, refs⟩, fun b q1 q2 => sTx_ne q1 q2, fun k g1 g2 => (hX.2.2.1 k (by omega) (hid_n (hH k g1 g2).1)).1⟩
  · rw [keep a x h, hA a x h]
    have na : a ≠ 1 ∧ a ≠ 4 := ⟨fun w => (by rw [w] at h; cases h), fun w => (by rw [w] at h; cases h)⟩
    rw [encC_ne (sTx_ne na.1 na.2)]
  · show iv (cT.1 a j).1 (cT.1 a j).2 (if a = 1 then (if j = 1 then (t1.length : Int) else if j = 2 then (if o1 then 1 else 0) else S.1 1 j) else if a = 4 then (if j = 1 then (t4.length : Int) else if j = 2 then (if o4 then 1 else 0) else S.1 4 j) else S.1 a j)
    by_cases q1 : a = 1
    · rw [if_pos q1]
      subst q1
      have hj := hO.1 1 j
      rw [(isS_T (a := 1) (by unfold isS; decide) j).1] at hj ⊢
      split
      · exact ⟨by show (-2147483648 : Int) ≤ t1.length; omega, by show (t1.length : Int) ≤ 2147483647; omega⟩
      · split
        · split <;> exact ⟨by decide, by decide⟩
        · exact hj
    · rw [if_neg q1]
      by_cases q4 : a = 4
      · rw [if_pos q4]
        subst q4
        have hj := hO.1 4 j
        rw [(isS_T (a := 4) (by unfold isS; decide) j).1] at hj ⊢
        split
        · exact ⟨by show (-2147483648 : Int) ≤ t4.length; omega, by show (t4.length : Int) ≤ 2147483647; omega⟩
        · split
          · split <;> exact ⟨by decide, by decide⟩
          · exact hj
      · rw [if_neg q4]
        exact hO.1 a j
  · show iv (cT.2 a).1 (cT.2 a).2 (if a = 1 then (t1.getD i.toNat 0).toInt else if a = 4 then (t4.getD i.toNat 0).toInt else S.2 a i)
    by_cases q1 : a = 1
    · rw [if_pos q1]
      subst q1
      rw [(isS_T (a := 1) (by unfold isS; decide) 0).2]
      exact rb _
    · rw [if_neg q1]
      by_cases q4 : a = 4
      · rw [if_pos q4]
        subst q4
        rw [(isS_T (a := 4) (by unfold isS; decide) 0).2]
        exact rb _
      · rw [if_neg q4]
        exact hO.2 a i
  · obtain ⟨g5, g1, g6, p, hp, hk⟩ := hE a ci rf h
    exact ⟨g5, g1, g6, p, hsub.e hp g5, hk⟩
  · by_cases q1 : a = 1
    · subst q1
      rw [v1]
      exact ⟨by unfold isS; decide, m1, r1, t1, o1, hS1, tM_of rfl rfl (fun _ => rfl) hc1⟩
    · by_cases q4 : a = 4
      · subst q4
        rw [v4]
        exact ⟨by unfold isS; decide, m4, r4, t4, o4, hS4, tM_of rfl rfl (fun _ => rfl) hc4⟩
      · have ha2 : a = 20 ∨ a = 22 := by unfold isS at ha; omega
        obtain ⟨s1, n, r, t, ov, hS, hM⟩ := hF a ha
        refine ⟨s1, n, r, t, ov, ?_, tM_ne (sTx_ne q1 q4) hM⟩
        obtain ⟨p, hp⟩ := hQ (v a) s1
        obtain ⟨r', t', ov', hS2, hr'⟩ := hT.2.2.1 (v a) p hp
        have e := (hS.uq hS2).1
        subst e
        obtain ⟨f, z1, z2, z3⟩ := hS
        have kr : hid τ v r = none := hid_on hr' (fun k => by
          have w1 : v a ≠ 1 := fun w => by
            have := hFi a 1 ha (by unfold isS; decide) (w.trans v1.symm)
            omega
          have w4 : v a ≠ 4 := fun w => by
            have := hFi a 4 ha (by unfold isS; decide) (w.trans v4.symm)
            omega
          rcases k with k | k | k | k | k | k | k
          · omega
          · omega
          · omega
          · omega
          · obtain ⟨p', e'⟩ := t24
            rw [← k, hr'] at e'
            have := some_fst e'
            omega
          · obtain ⟨p', e'⟩ := t46
            rw [← k, hr'] at e'
            have := some_fst e'
            omega
          · obtain ⟨p', e'⟩ := t50
            rw [← k, hr'] at e'
            have := some_fst e'
            omega)
        exact ⟨f, ((hX.2.2.1 _ (hT.1 _ _ hp) (hidS a ha2)).1).trans z1, ((hX.2.2.1 _ (hT.1 _ _ hr') kr).1).trans z2, z3⟩
  · rw [bak_h (hid_n (hH k g1 g2).1) (by omega)]
    exact (hH k g1 g2).1
  · obtain ⟨-, ⟨ci, p, z2, z3, z4⟩, -⟩ := hZ k hk
    exact ⟨ci, p, hsub.e z2 z3, z3, z4⟩

