/-! THE CLASS: the two texts change places -/
def sw (a : Nat) : Nat := if a = 20 then 22 else if a = 22 then 20 else a
theorem sw_ne {a : Nat} (h : a ≠ 20) (h2 : a ≠ 22) : sw a = a := by
  unfold sw
  rw [if_neg h, if_neg h2]
theorem sw_sw (a : Nat) : sw (sw a) = a := by
  unfold sw
  by_cases h : a = 20
  · subst h
    rfl
  · by_cases h2 : a = 22
    · subst h2
      rfl
    · rw [if_neg h, if_neg h2, if_neg h, if_neg h2]
def sSw (S : St) : St := (fun a => S.1 (sw a), fun a => S.2 (sw a))
theorem Wv.sub {G : xG} {v : Nat → Nat} {sh sh1 : Nat → Option Sh} {B : Nat × Nat} {c0 : List va_E} {S : St} {cs : List va_E} (h : Wv G v sh B c0 S cs) (hs : sb sh1 sh) (h3 : sh1 3 = none → sh 3 = none) : Wv G v sh1 B c0 S cs := by
  obtain ⟨τ, hT, hA, hI, hO, hD, hE, hF, hFi, hH, hL, hQ, hZ⟩ := h
  exact ⟨τ, hT, fun a x q => hA a x (hs a x q), fun a b x y q1 q2 => hI a b x y (hs a x q1) (hs b y q2), hO, fun a k n q => hD a k n (hs _ _ q), fun a ci rf q => hE a ci rf (hs _ _ q), hF, hFi, hH, hL, hQ, fun k3 => ⟨(hZ (h3 k3)).1, fun a x q => (hZ (h3 k3)).2 a x (hs a x q)⟩⟩
theorem Wv.room {G : xG} {v : Nat → Nat} {sh : Nat → Option Sh} {B : Nat × Nat} {c0 : List va_E} {S : St} {cs : List va_E} (h : Wv G v sh B c0 S cs) : cs.length ≤ B.1 ∧ xZ cs ≤ B.2 := by
  obtain ⟨τ, hT, -⟩ := h
  have := hT.2.2.2.2.2.2
  unfold rho1 rho2 at this
  omega
theorem shC_nS : ∀ b x, shC b = some x → ¬ isS b := fun b x h hs => by
  rcases hs with rfl | rfl | rfl | rfl <;> cases h
set_option maxRecDepth 100000 in
theorem Wv.swap {G : xG} {v : Nat → Nat} {B : Nat × Nat} {c0 : List va_E} {S : St} {cs : List va_E} (hW : Wv G v shC B c0 S cs) : Wv G (fun a => v (sw a)) shC B c0 (sSw S) (cs.set (v 0) (.inr (10, [.ref (G.1 + v 1), .ref (G.1 + v 3), .ref (G.1 + v 22), .ref (G.1 + v 20), .ref (G.1 + v 24), .ref (G.1 + v 33), .ref (G.1 + v 42), .ref (G.1 + v 46), .ref (G.1 + v 50), .int (Int32.ofInt (S.1 0 9))]))) := by
  obtain ⟨τ, hT, hA, hI, hO, hD, hE, hF, hFi, hH, hL, hQ, hZ⟩ := hW
  have c0' : cs[v 0]? = some (.inr (10, [.ref (G.1 + v 1), .ref (G.1 + v 3), .ref (G.1 + v 20), .ref (G.1 + v 22), .ref (G.1 + v 24), .ref (G.1 + v 33), .ref (G.1 + v 42), .ref (G.1 + v 46), .ref (G.1 + v 50), .int (Int32.ofInt (S.1 0 9))])) := hA 0 _ rfl
  obtain ⟨-, -, -, p, t0, -⟩ := hE 0 10 _ rfl
  have i20 : isS 20 := by unfold isS; decide
  have i22 : isS 22 := by unfold isS; decide
  have s20 := hQ (v 20) (hF 20 i20).1
  have s22 := hQ (v 22) (hF 22 i22).1
  have isw : ∀ a, isS a → isS (sw a) := fun a h => by
    rcases h with rfl | rfl | rfl | rfl
    · exact Or.inl rfl
    · exact Or.inr (Or.inl rfl)
    · exact i22
    · exact i20
  have shn : ∀ a x, shC a = some x → sw a = a := fun a x h => sw_ne (fun q => by subst q; cases h) (fun q => by subst q; cases h)
  have hv : ∀ a x, shC a = some x → (fun a => v (sw a)) a = v a := fun a x h => by
    show v (sw a) = v a
    rw [shn a x h]
  refine ⟨τ, ?_, fun a x h => ?_, fun a b x y ha hb q => ?_, ⟨fun a j => ?_, fun a i => ?_⟩, fun a k m h => ?_, fun a ci rf h => ?_, fun a h => ?_, fun a b ha hb q => ?_, fun k k1 k2 => ⟨(hH k k1 k2).1, ?_⟩, by rw [List.length_set]; exact hL, hQ, fun h3 => ⟨by rw [List.getElem?_set_ne ((hZ h3).2 0 _ rfl)]; exact (hZ h3).1, fun a x h => by rw [hv a x h]; exact (hZ h3).2 a x h⟩⟩
  · refine hT.set t0 (fun ci' p' q => by cases q; exact ⟨by decide, by decide⟩) c0' rfl (fun _ _ _ _ q => by cases q) (fun ci' p' q => ?_) (nT hT t0 (by decide) _ (fun b hb => List.getElem?_set_ne (Ne.symm hb)))
    cases q
    refine ⟨_, rfl, ?_⟩
    obtain ⟨vs, q1, q2⟩ := hT.2.2.2.2.1 (v 0) 10 p t0 (by decide) (by decide)
    rw [c0'] at q1
    cases q1
    refine ⟨rfl, fun j t g => ?_⟩
    rcases (show j = 2 ∨ j = 3 ∨ (j ≠ 2 ∧ j ≠ 3) by omega) with rfl | rfl | ⟨n2, n3⟩
    · cases g
      exact ⟨_, rfl, v 22, rfl, s22⟩
    · cases g
      exact ⟨_, rfl, v 20, rfl, s20⟩
    · obtain ⟨w, g1, g2⟩ := q2.2 j t g
      refine ⟨w, ?_, g2⟩
      rw [← g1]
      rcases (show j = 0 ∨ j = 1 ∨ j = 4 ∨ j = 5 ∨ j = 6 ∨ j = 7 ∨ j = 8 ∨ j = 9 ∨ 10 ≤ j by omega) with rfl | rfl | rfl | rfl | rfl | rfl | rfl | rfl | q
      all_goals first | rfl | (rw [List.getElem?_eq_none_iff.mpr (by simpa using q), List.getElem?_eq_none_iff.mpr (by simpa using q)])
  · rw [hv a x h]
    by_cases q : a = 0
    · subst q
      cases h
      rw [set_at c0']
      rfl
    · have hne : v 0 ≠ v a := fun r => q (hI 0 a _ x rfl h r).symm
      rw [List.getElem?_set_ne hne, hA a x h]
      have e1 : vSh (fun a => v (sw a)) x = vSh v x := by
        cases x with
        | inr z => rfl
        | inl z =>
          obtain ⟨ci, rf⟩ := z
          have hr : ∀ r, some r ∈ rf → r ≠ 20 ∧ r ≠ 22 := by
            unfold shC at h
            split at h <;> first | (exact absurd rfl q) | (cases h; intro r hr; simp at hr; omega) | cases h
          unfold vSh
          dsimp only
          congr 2
          refine List.map_congr_left (fun u hu => ?_)
          cases u with
          | none => rfl
          | some r =>
            show some (v (sw r)) = some (v r)
            rw [sw_ne (hr r hu).1 (hr r hu).2]
      rw [e1]
      congr 1
      exact (encC_ne ⟨by show S.1 (sw a) = S.1 a; rw [shn a x h], by show S.2 (sw a) = S.2 a; rw [shn a x h]⟩).symm
  · rw [hv a x ha, hv b y hb] at q
    exact hI a b x y ha hb q
  · show iv (cT.1 a j).1 (cT.1 a j).2 (S.1 (sw a) j)
    by_cases q : a = 20
    · subst q
      exact hO.1 22 j
    · by_cases q2 : a = 22
      · subst q2
        exact hO.1 20 j
      · rw [sw_ne q q2]
        exact hO.1 a j
  · show iv (cT.2 a).1 (cT.2 a).2 (S.2 (sw a) i)
    by_cases q : a = 20
    · subst q
      exact hO.2 22 i
    · by_cases q2 : a = 22
      · subst q2
        exact hO.2 20 i
      · rw [sw_ne q q2]
        exact hO.2 a i
  · rw [hv a _ h]
    exact hD a k m h
  · rw [hv a _ h]
    exact hE a ci rf h
  · obtain ⟨s1, m, r, t, ov, hS, hM⟩ := hF (sw a) (isw a h)
    refine ⟨s1, m, r, t, ov, ?_, hM⟩
    obtain ⟨pp, hp⟩ := hQ (v (sw a)) s1
    obtain ⟨r', t', ov', hS2, hr'⟩ := hT.2.2.1 (v (sw a)) pp hp
    have e := (hS.uq hS2).1
    subst e
    obtain ⟨f, q1, q2, q3⟩ := hS
    refine ⟨f, (List.getElem?_set_ne fun q => ?_).trans q1, (List.getElem?_set_ne fun q => ?_).trans q2, q3⟩
    · rw [q, hp] at t0
      have := some_fst t0
      omega
    · rw [q, hr'] at t0
      have := some_fst t0
      omega
  · have := hFi _ _ (isw a ha) (isw b hb) q
    have h2 := congrArg sw this
    rw [sw_sw, sw_sw] at h2
    exact h2
  · rw [List.getElem?_set_ne fun q => by subst q; rw [(hH _ k1 k2).1] at t0; cases t0]
    exact (hH k k1 k2).2

