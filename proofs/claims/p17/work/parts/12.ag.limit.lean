/-! LIMIT: the class's own type tells its limit -/
def lT (τ : Tau) (a v : Nat) : Tau := fun k => if k = a then some (.inl (10, v)) else τ k
theorem lT_at {τ : Tau} {a v : Nat} : lT τ a v a = some (.inl (10, v)) := if_pos rfl
theorem lT_ne {τ : Tau} {a v b : Nat} (h : b ≠ a) : lT τ a v b = τ b := if_neg h
theorem lT_rT {τ : Tau} {a v p b : Nat} {t : Ty} (h0 : τ a = some (.inl (10, p))) (h : rT τ b t) : rT (lT τ a v) b t := by
  cases t with
  | inl q =>
    obtain ⟨p1, e⟩ := h
    by_cases k : b = a
    · subst k
      rw [h0] at e
      have := some_fst e
      exact ⟨v, by rw [lT_at, this]⟩
    · exact ⟨p1, by rw [lT_ne k]; exact e⟩
  | inr q =>
    have e : τ b = some (.inr q) := h
    show lT τ a v b = some (.inr q)
    rw [lT_ne fun k => by subst k; rw [h0] at e; cases e]
    exact e
theorem lT_inv {τ : Tau} {a v b : Nat} {u : Ty} (h : lT τ a v b = some u) : (b = a ∧ u = .inl (10, v)) ∨ (b ≠ a ∧ τ b = some u) := by
  by_cases e : b = a
  · subst e
    rw [lT_at] at h
    exact Or.inl ⟨rfl, (Option.some.inj h).symm⟩
  · rw [lT_ne e] at h
    exact Or.inr ⟨e, h⟩
theorem WT.lim {G : xG} {B : Nat × Nat} {τ : Tau} {cs : List va_E} {a p v : Nat} {vs : List Value} (hW : WT G B τ cs) (h0 : τ a = some (.inl (10, p))) (e : cs[a]? = some (.inr (10, vs))) (hF : wF G τ (fT 10 p) vs) (hv : 1 ≤ v ∧ v ≤ 20) : WT G B (lT τ a v) (cs.set a (.inr (10, vs.set 9 (.int (Int32.ofInt (v : Int)))))) := by
  have hT := nT hW h0 (by decide) (cs.set a (.inr (10, vs.set 9 (.int (Int32.ofInt (v : Int)))))) (fun b hb => List.getElem?_set_ne (Ne.symm hb))
  obtain ⟨q1, q2, q3, q4, q5, q6, q7⟩ := hW
  obtain ⟨u1, u2, u3, u4, u5, u6, u7, u8, u9, u10, u11⟩ := q2
  have hs : ∀ b c, oT τ b c → oT (lT τ a v) b c := fun b c h => lT_rT (t := .inl (c, 0)) h0 h
  have ha : ∀ b q, τ b = some (.inr q) → lT τ a v b = some (.inr q) := fun b q h => lT_rT (t := .inr q) h0 h
  refine ⟨fun b u h => ?_, ⟨fun b p h => ?_, hs _ _ u2, fun b h => ?_, ha _ _ u4, fun b h => ?_, ha _ _ u6, fun b p h => ?_, fun b p h => ?_, fun b n h => ?_, fun b h => (u10 b h).elim (fun q => Or.inl (hs _ _ q)) (fun q => Or.inr (by rw [lT_ne (fun k => by subst k; rw [h0] at q; cases q)]; exact q)), (by
    obtain ⟨c, t, hc, ht⟩ := u11
    by_cases e1 : c = a
    · exact ⟨c, _, hc, by rw [e1]; exact lT_at⟩
    · exact ⟨c, t, hc, by rw [lT_ne e1]; exact ht⟩)⟩, fun b n h => ?_, fun b k n lo hi h => ?_, fun b ci p1 h g5 g1 => ?_, hT, ?_⟩
  · rw [List.length_set]
    rcases lT_inv h with ⟨e1, -⟩ | ⟨-, e2⟩
    · rw [e1]; exact at_lt e
    · exact q1 b u e2
  · rcases lT_inv h with ⟨e1, e2⟩ | ⟨-, e2⟩
    · cases e2
    · exact u1 b p e2
  · rcases lT_inv h with ⟨e1, e2⟩ | ⟨-, e2⟩
    · cases e2
    · exact u3 b e2
  · rcases lT_inv h with ⟨e1, e2⟩ | ⟨-, e2⟩
    · cases e2
    · exact u5 b e2
  · rcases lT_inv h with ⟨e1, e2⟩ | ⟨-, e2⟩
    · cases e2
    · exact u7 b p e2
  · rcases lT_inv h with ⟨e1, e2⟩ | ⟨-, e2⟩
    · cases e2
      exact hv
    · exact u8 b p e2
  · rcases lT_inv h with ⟨e1, e2⟩ | ⟨-, e2⟩
    · cases e2
    · exact u9 b n e2
  · rcases lT_inv h with ⟨e1, e2⟩ | ⟨nb, e2⟩
    · cases e2
    · obtain ⟨r, t, ov, ⟨f, e3, e4, e5⟩, hr⟩ := q3 b n e2
      have nr : r ≠ a := fun k => by subst k; rw [h0] at hr; have := some_fst hr; omega
      exact ⟨r, t, ov, ⟨f, (List.getElem?_set_ne (Ne.symm nb)).trans e3, (List.getElem?_set_ne (Ne.symm nr)).trans e4, e5⟩, by rw [lT_ne nr]; exact hr⟩
  · rcases lT_inv h with ⟨e1, e2⟩ | ⟨nb, e2⟩
    · cases e2
    · obtain ⟨e0, f, e3, e4⟩ := q4 b k n lo hi e2
      exact ⟨e0, f, (List.getElem?_set_ne (Ne.symm nb)).trans e3, e4⟩
  · rcases lT_inv h with ⟨e1, e2⟩ | ⟨nb, e2⟩
    · cases e2
      subst e1
      refine ⟨_, set_at e, by rw [List.length_set]; exact hF.1, fun k t ht => ?_⟩
      by_cases hk : k = 9
      · subst hk
        have ht : some (Sum.inl ((v : Int), (v : Int))) = some t := ht
        cases ht
        refine ⟨_, List.getElem?_set_self (by have hlen : vs.length = 10 := hF.1; omega), _, rfl, ?_⟩
        rw [rng_toInt ⟨by omega, by omega⟩]
        exact ⟨Int.le_refl _, Int.le_refl _⟩
      · have ht2 : (fT 10 p)[k]? = some t := by
          have hlen : (fT 10 v).length = 10 := rfl
          have hk10 : k < 10 := by
            have := (List.getElem?_eq_some_iff.mp ht).1
            omega
          rcases (show k = 0 ∨ k = 1 ∨ k = 2 ∨ k = 3 ∨ k = 4 ∨ k = 5 ∨ k = 6 ∨ k = 7 ∨ k = 8 by omega) with rfl | rfl | rfl | rfl | rfl | rfl | rfl | rfl | rfl <;> exact ht
        obtain ⟨w, e3, e4⟩ := hF.2 k t ht2
        refine ⟨w, (List.getElem?_set_ne (Ne.symm hk)).trans e3, ?_⟩
        cases t with
        | inl q => exact e4
        | inr q =>
          obtain ⟨bb, e5, e6⟩ := e4
          exact ⟨bb, e5, lT_rT h0 e6⟩
    · obtain ⟨vs1, e3, e4⟩ := q5 b ci p1 e2 g5 g1
      refine ⟨vs1, (List.getElem?_set_ne (Ne.symm nb)).trans e3, e4.1, fun k t ht => ?_⟩
      obtain ⟨w, e5, e6⟩ := e4.2 k t ht
      refine ⟨w, e5, ?_⟩
      cases t with
      | inl q => exact e6
      | inr q =>
        obtain ⟨bb, e7, e8⟩ := e6
        exact ⟨bb, e7, lT_rT h0 e8⟩
  · have key : ∀ b, isS b → nO (lT τ a v) b = nO τ b := fun b hb => by
      unfold nO
      rcases u10 b hb with ⟨p1, e1⟩ | e1
      · rw [lT_ne fun k => by subst k; rw [h0] at e1; have := some_fst e1; omega]
      · rw [lT_ne fun k => by subst k; rw [h0] at e1; cases e1]
    unfold rho1 rho2 at *
    rw [key 1 (Or.inl rfl), key 4 (Or.inr (Or.inl rfl)), key 20 (Or.inr (Or.inr (Or.inl rfl))), key 22 (Or.inr (Or.inr (Or.inr rfl))), List.length_set, xZ_set (e := .inr (10, vs.set 9 (.int (Int32.ofInt (v : Int))))) e rfl]
    exact q7
