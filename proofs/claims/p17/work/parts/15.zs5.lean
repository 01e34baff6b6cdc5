/-! THE CLASS'S classes: the reader is made, the classes change places, the read heap is cleared -/
def vT (v : Nat → Nat) (n : Nat) : Nat → Nat := fun a => if a = 200 then n else v a
def shCT : Nat → Option Sh := fun a => if a = 200 then shT 200 else shC a
def sCt (S : St) : St := (fun a j => if a = 200 then 0 else S.1 a j, S.2)
theorem vT_lo {v : Nat → Nat} {n a : Nat} (h : a ≠ 200) : vT v n a = v a := if_neg h
theorem vSh_T {v : Nat → Nat} {n a : Nat} {x : Sh} (h : shC a = some x) : vSh (vT v n) x = vSh v x := by
  cases x with
  | inr q => rfl
  | inl q =>
    obtain ⟨ci, rf⟩ := q
    have hr := shC_rf h
    unfold vSh
    dsimp only
    congr 2
    refine List.map_congr_left (fun u hu => ?_)
    cases u with
    | none => rfl
    | some r =>
      show some (vT v n r) = some (v r)
      rw [vT_lo (by have := hr r hu; omega)]
theorem sb_CT : sb shC shCT := fun a x h => by
  unfold shCT
  rw [if_neg (by have := shC_lt h; omega)]
  exact h
theorem sb_T : sb shT shCT := fun a x h => by
  unfold shCT
  have : a = 200 := by
    unfold shT at h
    split at h <;> first | rfl | cases h
  rw [if_pos this, ← this]
  exact h
theorem shCT_S : ∀ b x, shCT b = some x → ¬ isS b := fun b x h hs => by
  unfold shCT at h
  rcases hs with rfl | rfl | rfl | rfl <;> cases h
set_option maxRecDepth 100000 in
set_option maxHeartbeats 4000000 in
theorem Wv.ctext {G : xG} {v : Nat → Nat} {B : Nat × Nat} {c0 : List va_E} {S : St} {cs : List va_E} (hW : Wv G v shC B c0 S cs) (hB : B.1 + 1 ≤ 600000 ∧ B.2 + 3 ≤ 7302250) : Wv G (vT v cs.length) shCT (B.1 + 1, B.2 + 3) c0 (sCt S) (cs ++ [.inr (0, [.ref (G.1 + v 1), .ref (G.1 + v 33), .int 0])]) := by
  obtain ⟨τ, hT, hA, hI, hO, hD, hE, hF, hFi, hH, hL, hQ, hZ⟩ := hW
  obtain ⟨n, hn⟩ : ∃ n, n = cs.length := ⟨_, rfl⟩
  obtain ⟨c1, hc1⟩ : ∃ c1 : List va_E, c1 = cs ++ [.inr (0, [.ref (G.1 + v 1), .ref (G.1 + v 33), .int 0])] := ⟨_, rfl⟩
  rw [← hn, ← hc1]
  have len : c1.length = n + 1 := by rw [hc1, List.length_append, ← hn]; rfl
  have old : ∀ a, a < n → c1[a]? = cs[a]? := fun a ha => by rw [hc1, List.getElem?_append_left (by omega)]
  have new : c1[n]? = some (.inr (0, [.ref (G.1 + v 1), .ref (G.1 + v 33), .int 0])) := by rw [hc1, hn]; exact app_last
  have typ : ∀ a t, τ a = some t → a < n := fun a t h => by rw [hn]; exact hT.1 a t h
  have hno : τ n = none := hT.non (by omega)
  have h22 := hT.l22
  have hW0 : WT G (B.1 + 1, B.2 + 3) τ c1 := by rw [hc1]; exact hT.raw rfl rfl hB.1 hB.2
  obtain ⟨p1, t1⟩ := hQ (v 1) (hF 1 (by unfold isS; decide)).1
  obtain ⟨-, -, -, p33, t33, -⟩ := hE 33 4 _ rfl
  have hW1 := hW0.give (a := n) (t := .inl (0, 0)) hno (by omega) (by omega) (fun ci p q => by cases q; exact ⟨by decide, by decide, by decide, by decide, fun r => absurd r (by decide)⟩) (fun _ _ _ _ q => by cases q) (fun _ _ _ _ q => by cases q) (fun ci p q => by cases q; exact ⟨_, new, wF_cons ⟨v 1, rfl, ⟨p1, t1⟩⟩ (wF_cons ⟨v 33, rfl, ⟨p33, t33⟩⟩ (wF_cons ⟨_, rfl, any_ok _⟩ wF_nil))⟩)
  have o7 : ∀ a, a < n → upT τ n (.inl (0, 0)) a = τ a := fun a ha => upT_ne (by omega)
  have lo : ∀ a x, shC a = some x → a < 54 ∧ v a < n := fun a x h => ⟨shC_lt h, by rw [hn]; exact at_lt (hA a x h)⟩
  have sg : ∀ a, isS a → vT v n a = v a := fun a h => vT_lo (by unfold isS at h; omega)
  have cas : ∀ a x, shCT a = some x → (a = 200 ∧ shT 200 = some x) ∨ (a < 54 ∧ shC a = some x ∧ vT v n a = v a ∧ v a < n) := fun a x h => by
    unfold shCT at h
    by_cases q : a = 200
    · rw [if_pos q] at h
      exact Or.inl ⟨q, h⟩
    · rw [if_neg q] at h
      have l := lo a x h
      exact Or.inr ⟨l.1, h, vT_lo q, l.2⟩
  have v200 : vT v n 200 = n := if_pos rfl
  refine ⟨_, hW1, fun a x h => ?_, fun a b x y ha hb q => ?_, ⟨fun a j => ?_, hO.2⟩, fun a k m h => ?_, fun a ci rf h => ?_, fun a h => ?_, fun a b ha hb q => ?_, fun k k1 k2 => ?_, by omega, fun a h => ?_, fun _ => ?_⟩
  · rcases cas a x h with ⟨h1, h2⟩ | ⟨h1, h2, h3, h4⟩
    · subst h1
      rw [v200]
      cases h2
      refine new.trans ?_
      simp only [encC, vSh, encF, sCt, vT, List.map, Option.map]
      rfl
    · rw [h3, old _ h4, hA a x h2, vSh_T h2]
      have ee : (sCt S).1 a = S.1 a ∧ (sCt S).2 a = S.2 a := ⟨funext fun j => if_neg (show ¬ a = 200 by omega), rfl⟩
      rw [encC_ne ee]
  · rcases cas a x ha with ⟨h1, h2⟩ | ⟨h1, h2, h3, h4⟩
    · rcases cas b y hb with ⟨k1, k2⟩ | ⟨k1, k2, k3, k4⟩
      · rw [h1, k1]
      · rw [h1, v200, k3] at q
        omega
    · rcases cas b y hb with ⟨k1, k2⟩ | ⟨k1, k2, k3, k4⟩
      · rw [k1, v200, h3] at q
        omega
      · rw [h3, k3] at q
        exact hI a b x y h2 k2 q
  · show iv _ _ (if a = 200 then 0 else S.1 a j)
    by_cases q : a = 200
    · subst q
      rw [if_pos rfl]
      exact (show iv (-2147483648) 2147483647 0 from ⟨by decide, by decide⟩)
    · rw [if_neg q]
      exact hO.1 a j
  · rcases cas a _ h with ⟨h1, h2⟩ | ⟨h1, h2, h3, h4⟩
    · cases h2
    · rw [h3, o7 _ h4]
      exact hD a k m h2
  · rcases cas a _ h with ⟨h1, h2⟩ | ⟨h1, h2, h3, h4⟩
    · subst h1
      rw [v200]
      cases h2
      refine ⟨by decide, by decide, by decide, 0, upT_at, fun _ k hk => ?_⟩
      rcases (show k = 0 ∨ k = 1 ∨ k = 2 ∨ 3 ≤ k by omega) with rfl | rfl | rfl | q
      all_goals first | rfl | (cases hk) | (rw [List.getElem?_eq_none_iff.mpr (by simpa using q)] at hk; cases hk)
    · obtain ⟨e1, e2, e3, p, e4, e5⟩ := hE a ci rf h2
      exact ⟨e1, e2, e3, p, by rw [h3, o7 _ h4]; exact e4, e5⟩
  · obtain ⟨s1, m, r, t, ov, hS, hM⟩ := hF a h
    rw [sg a h]
    refine ⟨s1, m, r, t, ov, ?_, ?_⟩
    · obtain ⟨f, q1, q2, q3⟩ := hS
      exact ⟨f, (old _ (by rw [hn]; exact at_lt q1)).trans q1, (old _ (by rw [hn]; exact at_lt q2)).trans q2, q3⟩
    · have ha : a < 200 := by unfold isS at h; omega
      exact tM_ne ⟨funext fun j => if_neg (by omega), rfl⟩ hM
  · rw [sg a ha, sg b hb] at q
    exact hFi a b ha hb q
  · obtain ⟨e1, e2⟩ := hH k k1 k2
    rw [o7 k (by omega), old k (by omega)]
    exact ⟨e1, e2⟩
  · obtain ⟨p, e1⟩ := hQ a h
    exact ⟨p, (o7 a (typ _ _ e1)).trans e1⟩
  · obtain ⟨p3, z3⟩ := hT.2.1.2.1
    refine ⟨(old 3 (typ _ _ z3)).trans (hZ rfl).1, fun a x h q => ?_⟩
    rcases cas a x h with ⟨h1, h2⟩ | ⟨h1, h2, h3, h4⟩
    · rw [h1, v200] at q
      have := typ _ _ z3
      omega
    · rw [h3] at q
      exact (hZ rfl).2 a x h2 q
/-- the classes and the spare ones change places -/
def swS (a : Nat) : Nat := if 24 ≤ a ∧ a ≤ 32 then a + 9 else if 33 ≤ a ∧ a ≤ 41 then a - 9 else a
theorem swS_ne {a : Nat} (h : a < 24 ∨ 41 < a) : swS a = a := by
  unfold swS
  rw [if_neg (by omega), if_neg (by omega)]
theorem swS_sw (a : Nat) : swS (swS a) = a := by
  unfold swS
  split
  · rw [if_neg (by omega), if_pos (by omega)]
    omega
  · split
    · rw [if_pos (by omega)]
      omega
    · rfl
def sSwS (S : St) : St := (fun a => S.1 (swS a), fun a => S.2 (swS a))
theorem swS_18 {a : Nat} (h : ¬ (a < 24 ∨ 41 < a)) : a = 24 ∨ a = 25 ∨ a = 26 ∨ a = 27 ∨ a = 28 ∨ a = 29 ∨ a = 30 ∨ a = 31 ∨ a = 32 ∨ a = 33 ∨ a = 34 ∨ a = 35 ∨ a = 36 ∨ a = 37 ∨ a = 38 ∨ a = 39 ∨ a = 40 ∨ a = 41 := by omega
theorem cT_sw (a j : Nat) : cT.1 (swS a) j = cT.1 a j ∧ cT.2 (swS a) = cT.2 a ∧ tB (swS a) = tB a := by
  by_cases h : a < 24 ∨ 41 < a
  · rw [swS_ne h]
    exact ⟨rfl, rfl, rfl⟩
  · rcases swS_18 h with rfl | rfl | rfl | rfl | rfl | rfl | rfl | rfl | rfl | rfl | rfl | rfl | rfl | rfl | rfl | rfl | rfl | rfl <;> exact ⟨rfl, rfl, rfl⟩
theorem shC_sw {v : Nat → Nat} {a : Nat} {x : Sh} (h : shC a = some x) (h0 : a ≠ 0) : ∃ y, shC (swS a) = some y ∧ vSh (fun a => v (swS a)) x = vSh v y := by
  unfold shC at h
  split at h <;> first | exact absurd rfl h0 | (cases h; exact ⟨_, rfl, rfl⟩) | cases h
theorem shC_swA {a k n : Nat} (h : shC a = some (.inr (k, n))) : shC (swS a) = some (.inr (k, n)) := by
  unfold shC at h
  split at h <;> first | (cases h; rfl) | cases h
set_option maxRecDepth 100000 in
theorem Wv.swapS {G : xG} {v : Nat → Nat} {B : Nat × Nat} {c0 : List va_E} {S : St} {cs : List va_E} (hW : Wv G v shC B c0 S cs) : Wv G (fun a => v (swS a)) shC B c0 (sSwS S) (cs.set (v 0) (.inr (10, [.ref (G.1 + v 1), .ref (G.1 + v 3), .ref (G.1 + v 20), .ref (G.1 + v 22), .ref (G.1 + v 33), .ref (G.1 + v 24), .ref (G.1 + v 42), .ref (G.1 + v 46), .ref (G.1 + v 50), .int (Int32.ofInt (S.1 0 9))]))) := by
  obtain ⟨τ, hT, hA, hI, hO, hD, hE, hF, hFi, hH, hL, hQ, hZ⟩ := hW
  have c0' : cs[v 0]? = some (.inr (10, [.ref (G.1 + v 1), .ref (G.1 + v 3), .ref (G.1 + v 20), .ref (G.1 + v 22), .ref (G.1 + v 24), .ref (G.1 + v 33), .ref (G.1 + v 42), .ref (G.1 + v 46), .ref (G.1 + v 50), .int (Int32.ofInt (S.1 0 9))])) := hA 0 _ rfl
  obtain ⟨-, -, -, p, t0, -⟩ := hE 0 10 _ rfl
  obtain ⟨q24, r24, s24, p24, t24, f24⟩ := hE 24 4 _ rfl
  obtain ⟨q33, r33, s33, p33, t33, f33⟩ := hE 33 4 _ rfl
  have hvS : ∀ a, isS a → (fun a => v (swS a)) a = v a := fun a h => by
    show v (swS a) = v a
    unfold isS at h
    rw [swS_ne (by omega)]
  have shx : ∀ a x, shC a = some x → ∃ y, shC (swS a) = some y := fun a x h => by
    by_cases h0 : a = 0
    · subst h0
      exact ⟨_, rfl⟩
    · obtain ⟨y, hy, -⟩ := shC_sw (v := v) h h0
      exact ⟨y, hy⟩
  refine ⟨τ, ?_, fun a x h => ?_, fun a b x y ha hb q => ?_, ⟨fun a j => ?_, fun a i => ?_⟩, fun a k m h => ?_, fun a ci rf h => ?_, fun a h => ?_, fun a b ha hb q => ?_, fun k k1 k2 => ⟨(hH k k1 k2).1, ?_⟩, by rw [List.length_set]; exact hL, hQ, fun h3 => ⟨?_, fun a x h => ?_⟩⟩
  · refine hT.set t0 (fun ci' p' q => by cases q; exact ⟨by decide, by decide⟩) c0' rfl (fun _ _ _ _ q => by cases q) (fun ci' p' q => ?_) (nT hT t0 (by decide) _ (fun b hb => List.getElem?_set_ne (Ne.symm hb)))
    cases q
    refine ⟨_, rfl, ?_⟩
    obtain ⟨vs, q1, q2⟩ := hT.2.2.2.2.1 (v 0) 10 p t0 (by decide) (by decide)
    rw [c0'] at q1
    cases q1
    refine ⟨rfl, fun j t g => ?_⟩
    rcases (show j = 4 ∨ j = 5 ∨ (j ≠ 4 ∧ j ≠ 5) by omega) with rfl | rfl | ⟨n2, n3⟩
    · cases g
      exact ⟨_, rfl, v 33, rfl, p33, t33⟩
    · cases g
      exact ⟨_, rfl, v 24, rfl, p24, t24⟩
    · obtain ⟨w, g1, g2⟩ := q2.2 j t g
      refine ⟨w, ?_, g2⟩
      rw [← g1]
      rcases (show j = 0 ∨ j = 1 ∨ j = 2 ∨ j = 3 ∨ j = 6 ∨ j = 7 ∨ j = 8 ∨ j = 9 ∨ 10 ≤ j by omega) with rfl | rfl | rfl | rfl | rfl | rfl | rfl | rfl | q
      all_goals first | rfl | (rw [List.getElem?_eq_none_iff.mpr (by simpa using q), List.getElem?_eq_none_iff.mpr (by simpa using q)])
  · by_cases q : a = 0
    · subst q
      cases h
      show (cs.set (v 0) _)[v 0]? = _
      rw [set_at c0']
      rfl
    · obtain ⟨y, hy, ey⟩ := shC_sw (v := v) h q
      show (cs.set (v 0) _)[v (swS a)]? = _
      have hne : v 0 ≠ v (swS a) := fun r => by
        have r2 := hI 0 (swS a) _ y rfl hy r
        have r3 := congrArg swS r2
        rw [swS_sw] at r3
        exact q (r3.symm.trans (swS_ne (by decide)))
      rw [List.getElem?_set_ne hne, hA _ y hy, ey]
      rfl
  · obtain ⟨x', hx'⟩ := shx a x ha
    obtain ⟨y', hy'⟩ := shx b y hb
    have r := congrArg swS (hI _ _ x' y' hx' hy' q)
    rw [swS_sw, swS_sw] at r
    exact r
  · rw [← (cT_sw a j).1]
    exact hO.1 (swS a) j
  · rw [← (cT_sw a 0).2.1]
    exact hO.2 (swS a) i
  · rw [← (cT_sw a 0).2.2]
    exact hD (swS a) k m (shC_swA h)
  · rcases shC_ci h with ⟨rfl, rfl⟩ | ⟨rfl, rfl⟩ | ⟨rfl, rfl⟩ | ⟨rfl, rfl⟩ | ⟨rfl, rfl⟩ | ⟨rfl, rfl⟩
    · exact hE 0 10 rf h
    · refine ⟨q33, r33, fun z => absurd z (by decide), p33, t33, fun _ k hk => ?_⟩
      cases h
      rcases (show k = 0 ∨ k = 1 ∨ k = 2 ∨ k = 3 ∨ k = 4 ∨ k = 5 ∨ k = 6 ∨ k = 7 ∨ k = 8 ∨ 9 ≤ k by omega) with rfl | rfl | rfl | rfl | rfl | rfl | rfl | rfl | rfl | q
      all_goals first | exact f33 (by decide) 8 rfl | (cases hk) | (rw [List.getElem?_eq_none_iff.mpr (by simpa using q)] at hk; cases hk)
    · refine ⟨q24, r24, fun z => absurd z (by decide), p24, t24, fun _ k hk => ?_⟩
      cases h
      rcases (show k = 0 ∨ k = 1 ∨ k = 2 ∨ k = 3 ∨ k = 4 ∨ k = 5 ∨ k = 6 ∨ k = 7 ∨ k = 8 ∨ 9 ≤ k by omega) with rfl | rfl | rfl | rfl | rfl | rfl | rfl | rfl | rfl | q
      all_goals first | exact f24 (by decide) 8 rfl | (cases hk) | (rw [List.getElem?_eq_none_iff.mpr (by simpa using q)] at hk; cases hk)
    · exact hE 42 1 rf h
    · exact hE 46 1 rf h
    · exact hE 50 1 rf h
  · rw [hvS a h]
    obtain ⟨s1, m, r, t, ov, hS, hM⟩ := hF a h
    have sa : swS a = a := by
      unfold isS at h
      exact swS_ne (by omega)
    refine ⟨s1, m, r, t, ov, ?_, tM_ne ⟨by show S.1 (swS a) = S.1 a; rw [sa], by show S.2 (swS a) = S.2 a; rw [sa]⟩ hM⟩
    obtain ⟨pp, hp⟩ := hQ (v a) s1
    obtain ⟨r', t', ov', hS2, hr'⟩ := hT.2.2.1 (v a) pp hp
    have e := (hS.uq hS2).1
    subst e
    obtain ⟨f, q1, q2, q3⟩ := hS
    refine ⟨f, (List.getElem?_set_ne fun q => ?_).trans q1, (List.getElem?_set_ne fun q => ?_).trans q2, q3⟩
    · rw [q, hp] at t0
      have := some_fst t0
      omega
    · rw [q, hr'] at t0
      have := some_fst t0
      omega
  · rw [hvS a ha, hvS b hb] at q
    exact hFi a b ha hb q
  · rw [List.getElem?_set_ne fun q => by subst q; rw [(hH _ k1 k2).1] at t0; cases t0]
    exact (hH k k1 k2).2
  · rw [List.getElem?_set_ne ((hZ h3).2 0 _ rfl)]
    exact (hZ h3).1
  · obtain ⟨y, hy⟩ := shx a x h
    exact (hZ h3).2 (swS a) y hy

