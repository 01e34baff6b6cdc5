/-! BETWEEN CALLS: what stays where it is -/
theorem shC_ci {a ci : Nat} {rf : List (Option Nat)} (h : shC a = some (.inl (ci, rf))) : (a = 0 ∧ ci = 10) ∨ (a = 24 ∧ ci = 4) ∨ (a = 33 ∧ ci = 4) ∨ (a = 42 ∧ ci = 1) ∨ (a = 46 ∧ ci = 1) ∨ (a = 50 ∧ ci = 1) := by
  unfold shC at h
  split at h <;> first | (cases h; decide) | cases h
def VV (v : Nat → Nat) : Prop := v 0 = 0 ∧ v 1 = 1 ∧ v 3 = 3 ∧ v 4 = 4
/-- the tree's object: its text may be any -/
def QT (G : xG) (v : Nat → Nat) (cs : List va_E) : Prop := ∃ (w : Value) (x y : Int32), cs[3]? = some (.inr (6, [.ref (G.1 + v 4), w, .ref (G.1 + v 6), .ref (G.1 + v 7), .ref (G.1 + v 8), .ref (G.1 + v 9), .ref (G.1 + v 10), .ref (G.1 + v 11), .ref (G.1 + v 12), .ref (G.1 + v 13), .ref (G.1 + v 14), .ref (G.1 + v 15), .ref (G.1 + v 16), .ref (G.1 + v 17), .ref (G.1 + v 18), .ref (G.1 + v 19), .int x, .int y]))
theorem QT.mv {G : xG} {v v' : Nat → Nat} {cs c1 : List va_E} (h : QT G v cs) (e : c1[3]? = cs[3]?) (hv : ∀ a, 4 ≤ a → a ≤ 19 → v' a = v a) : QT G v' c1 := by
  obtain ⟨w, x, y, h⟩ := h
  refine ⟨w, x, y, ?_⟩
  rw [e, h, hv 4 (by decide) (by decide), hv 6 (by decide) (by decide), hv 7 (by decide) (by decide), hv 8 (by decide) (by decide), hv 9 (by decide) (by decide), hv 10 (by decide) (by decide), hv 11 (by decide) (by decide), hv 12 (by decide) (by decide), hv 13 (by decide) (by decide), hv 14 (by decide) (by decide), hv 15 (by decide) (by decide), hv 16 (by decide) (by decide), hv 17 (by decide) (by decide), hv 18 (by decide) (by decide), hv 19 (by decide) (by decide)]
theorem Wv.base {G : xG} {v : Nat → Nat} {sh : Nat → Option Sh} {B : Nat × Nat} {c0 : List va_E} {S : St} {cs : List va_E} (h : Wv G v sh B c0 S cs) : Wv G v sh B cs S cs := by
  obtain ⟨τ, hT, hA, hI, hO, hD, hE, hF, hFi, hH, hL, hQ, hZ⟩ := h
  exact ⟨τ, hT, hA, hI, hO, hD, hE, hF, hFi, fun k k1 k2 => ⟨(hH k k1 k2).1, rfl⟩, hL, hQ, fun h3 => ⟨rfl, (hZ h3).2⟩⟩
theorem Wv.fz {G : xG} {v : Nat → Nat} {sh : Nat → Option Sh} {B : Nat × Nat} {c0 : List va_E} {S : St} {cs : List va_E} (h : Wv G v sh B c0 S cs) {k : Nat} (hk : 54 ≤ k ∧ k < 107) : cs[k]? = c0[k]? := by
  obtain ⟨τ, hT, hA, hI, hO, hD, hE, hF, hFi, hH, hL, hQ, hZ⟩ := h
  exact (hH k hk.1 hk.2).2
theorem Wv.f3 {G : xG} {v : Nat → Nat} {sh : Nat → Option Sh} {B : Nat × Nat} {c0 : List va_E} {S : St} {cs : List va_E} (h : Wv G v sh B c0 S cs) (h3 : sh 3 = none) : cs[3]? = c0[3]? := by
  obtain ⟨τ, hT, hA, hI, hO, hD, hE, hF, hFi, hH, hL, hQ, hZ⟩ := h
  exact (hZ h3).1
theorem QT.wv {G : xG} {v : Nat → Nat} {sh : Nat → Option Sh} {B : Nat × Nat} {c0 : List va_E} {S : St} {cs : List va_E} (h : QT G v c0) (hW : Wv G v sh B c0 S cs) (h3 : sh 3 = none) : QT G v cs := h.mv (hW.f3 h3) (fun _ _ _ => rfl)
/-- the heaps that are read into change places -/
def swH (a : Nat) : Nat := if 46 ≤ a ∧ a ≤ 49 then a + 4 else if 50 ≤ a ∧ a ≤ 53 then a - 4 else a
theorem swH_ne {a : Nat} (h : a < 46 ∨ 53 < a) : swH a = a := by
  unfold swH
  rw [if_neg (by omega), if_neg (by omega)]
theorem swH_sw (a : Nat) : swH (swH a) = a := by
  unfold swH
  split
  · rw [if_neg (by omega), if_pos (by omega)]
    omega
  · split
    · rw [if_pos (by omega)]
      omega
    · rfl
def sSwH (S : St) : St := (fun a => S.1 (swH a), fun a => S.2 (swH a))
theorem swH_8 {a : Nat} (h : ¬ (a < 46 ∨ 53 < a)) : a = 46 ∨ a = 47 ∨ a = 48 ∨ a = 49 ∨ a = 50 ∨ a = 51 ∨ a = 52 ∨ a = 53 := by omega
theorem cT_swH (a j : Nat) : cT.1 (swH a) j = cT.1 a j ∧ cT.2 (swH a) = cT.2 a ∧ tB (swH a) = tB a := by
  by_cases h : a < 46 ∨ 53 < a
  · rw [swH_ne h]
    exact ⟨rfl, rfl, rfl⟩
  · rcases swH_8 h with rfl | rfl | rfl | rfl | rfl | rfl | rfl | rfl <;> exact ⟨rfl, rfl, rfl⟩
theorem shC_swH {v : Nat → Nat} {a : Nat} {x : Sh} (h : shC a = some x) (h0 : a ≠ 0) : ∃ y, shC (swH a) = some y ∧ vSh (fun a => v (swH a)) x = vSh v y := by
  unfold shC at h
  split at h <;> first | exact absurd rfl h0 | (cases h; exact ⟨_, rfl, rfl⟩) | cases h
theorem shC_swHA {a k n : Nat} (h : shC a = some (.inr (k, n))) : shC (swH a) = some (.inr (k, n)) := by
  unfold shC at h
  split at h <;> first | (cases h; rfl) | cases h
set_option maxRecDepth 100000 in
theorem Wv.swapH {G : xG} {v : Nat → Nat} {B : Nat × Nat} {c0 : List va_E} {S : St} {cs : List va_E} (hW : Wv G v shC B c0 S cs) : Wv G (fun a => v (swH a)) shC B c0 (sSwH S) (cs.set (v 0) (.inr (10, [.ref (G.1 + v 1), .ref (G.1 + v 3), .ref (G.1 + v 20), .ref (G.1 + v 22), .ref (G.1 + v 24), .ref (G.1 + v 33), .ref (G.1 + v 42), .ref (G.1 + v 50), .ref (G.1 + v 46), .int (Int32.ofInt (S.1 0 9))]))) := by
  obtain ⟨τ, hT, hA, hI, hO, hD, hE, hF, hFi, hH, hL, hQ, hZ⟩ := hW
  have c0' : cs[v 0]? = some (.inr (10, [.ref (G.1 + v 1), .ref (G.1 + v 3), .ref (G.1 + v 20), .ref (G.1 + v 22), .ref (G.1 + v 24), .ref (G.1 + v 33), .ref (G.1 + v 42), .ref (G.1 + v 46), .ref (G.1 + v 50), .int (Int32.ofInt (S.1 0 9))])) := hA 0 _ rfl
  obtain ⟨-, -, -, p, t0, -⟩ := hE 0 10 _ rfl
  obtain ⟨q24, r24, s24, p24, t24, f24⟩ := hE 46 1 _ rfl
  obtain ⟨q33, r33, s33, p33, t33, f33⟩ := hE 50 1 _ rfl
  have hvS : ∀ a, isS a → (fun a => v (swH a)) a = v a := fun a h => by
    show v (swH a) = v a
    unfold isS at h
    rw [swH_ne (by omega)]
  have shx : ∀ a x, shC a = some x → ∃ y, shC (swH a) = some y := fun a x h => by
    by_cases h0 : a = 0
    · subst h0
      exact ⟨_, rfl⟩
    · obtain ⟨y, hy, -⟩ := shC_swH (v := v) h h0
      exact ⟨y, hy⟩
  refine ⟨τ, ?_, fun a x h => ?_, fun a b x y ha hb q => ?_, ⟨fun a j => ?_, fun a i => ?_⟩, fun a k m h => ?_, fun a ci rf h => ?_, fun a h => ?_, fun a b ha hb q => ?_, fun k k1 k2 => ⟨(hH k k1 k2).1, ?_⟩, by rw [List.length_set]; exact hL, hQ, fun h3 => ⟨?_, fun a x h => ?_⟩⟩
  · refine hT.set t0 (fun ci' p' q => by cases q; exact ⟨by decide, by decide⟩) c0' rfl (fun _ _ _ _ q => by cases q) (fun ci' p' q => ?_) (nT hT t0 (by decide) _ (fun b hb => List.getElem?_set_ne (Ne.symm hb)))
    cases q
    refine ⟨_, rfl, ?_⟩
    obtain ⟨vs, q1, q2⟩ := hT.2.2.2.2.1 (v 0) 10 p t0 (by decide) (by decide)
    rw [c0'] at q1
    cases q1
    refine ⟨rfl, fun j t g => ?_⟩
    rcases (show j = 7 ∨ j = 8 ∨ (j ≠ 7 ∧ j ≠ 8) by omega) with rfl | rfl | ⟨n2, n3⟩
    · cases g
      exact ⟨_, rfl, v 50, rfl, p33, t33⟩
    · cases g
      exact ⟨_, rfl, v 46, rfl, p24, t24⟩
    · obtain ⟨w, g1, g2⟩ := q2.2 j t g
      refine ⟨w, ?_, g2⟩
      rw [← g1]
      rcases (show j = 0 ∨ j = 1 ∨ j = 2 ∨ j = 3 ∨ j = 4 ∨ j = 5 ∨ j = 6 ∨ j = 9 ∨ 10 ≤ j by omega) with rfl | rfl | rfl | rfl | rfl | rfl | rfl | rfl | q
      all_goals first | rfl | (rw [List.getElem?_eq_none_iff.mpr (by simpa using q), List.getElem?_eq_none_iff.mpr (by simpa using q)])
  · by_cases q : a = 0
    · subst q
      cases h
      show (cs.set (v 0) _)[v 0]? = _
      rw [set_at c0']
      rfl
    · obtain ⟨y, hy, ey⟩ := shC_swH (v := v) h q
      show (cs.set (v 0) _)[v (swH a)]? = _
      have hne : v 0 ≠ v (swH a) := fun r => by
        have r2 := hI 0 (swH a) _ y rfl hy r
        have r3 := congrArg swH r2
        rw [swH_sw] at r3
        exact q (r3.symm.trans (swH_ne (by decide)))
      rw [List.getElem?_set_ne hne, hA _ y hy, ey]
      rfl
  · obtain ⟨x', hx'⟩ := shx a x ha
    obtain ⟨y', hy'⟩ := shx b y hb
    have r := congrArg swH (hI _ _ x' y' hx' hy' q)
    rw [swH_sw, swH_sw] at r
    exact r
  · rw [← (cT_swH a j).1]
    exact hO.1 (swH a) j
  · rw [← (cT_swH a 0).2.1]
    exact hO.2 (swH a) i
  · rw [← (cT_swH a 0).2.2]
    exact hD (swH a) k m (shC_swHA h)
  · rcases shC_ci h with ⟨rfl, rfl⟩ | ⟨rfl, rfl⟩ | ⟨rfl, rfl⟩ | ⟨rfl, rfl⟩ | ⟨rfl, rfl⟩ | ⟨rfl, rfl⟩
    · exact hE 0 10 rf h
    · exact hE 24 4 rf h
    · exact hE 33 4 rf h
    · exact hE 42 1 rf h
    · refine ⟨q33, r33, fun z => absurd z (by decide), p33, t33, fun _ k hk => ?_⟩
      cases h
      rcases (show k = 0 ∨ k = 1 ∨ k = 2 ∨ k = 3 ∨ 4 ≤ k by omega) with rfl | rfl | rfl | rfl | q
      all_goals first | exact f33 (by decide) 3 rfl | (cases hk) | (rw [List.getElem?_eq_none_iff.mpr (by simpa using q)] at hk; cases hk)
    · refine ⟨q24, r24, fun z => absurd z (by decide), p24, t24, fun _ k hk => ?_⟩
      cases h
      rcases (show k = 0 ∨ k = 1 ∨ k = 2 ∨ k = 3 ∨ 4 ≤ k by omega) with rfl | rfl | rfl | rfl | q
      all_goals first | exact f24 (by decide) 3 rfl | (cases hk) | (rw [List.getElem?_eq_none_iff.mpr (by simpa using q)] at hk; cases hk)
  · rw [hvS a h]
    obtain ⟨s1, m, r, t, ov, hS, hM⟩ := hF a h
    have sa : swH a = a := by
      unfold isS at h
      exact swH_ne (by omega)
    refine ⟨s1, m, r, t, ov, ?_, tM_ne ⟨by show S.1 (swH a) = S.1 a; rw [sa], by show S.2 (swH a) = S.2 a; rw [sa]⟩ hM⟩
    obtain ⟨pp, hp⟩ := hQ (v a) s1
    obtain ⟨r', t', ov', hS2, hr'⟩ := hT.2.2.1 (v a) pp hp
    have e := (hS.uq hS2).1
    subst e
    obtain ⟨f, q1, q2, q3⟩ := hS
    refine ⟨f, (List.getElem?_set_ne fun q => ?_).trans q1, (List.getElem?_set_ne fun q => ?_).trans q2, q3⟩
    · rw [q, hp] at t0
      have := some_fst t0
      omega
    · rw [q, hr'] at t0
      have := some_fst t0
      omega
  · rw [hvS a ha, hvS b hb] at q
    exact hFi a b ha hb q
  · rw [List.getElem?_set_ne fun q => by subst q; rw [(hH _ k1 k2).1] at t0; cases t0]
    exact (hH k k1 k2).2
  · rw [List.getElem?_set_ne ((hZ h3).2 0 _ rfl)]
    exact (hZ h3).1
  · obtain ⟨y, hy⟩ := shx a x h
    exact (hZ h3).2 (swH a) y hy

