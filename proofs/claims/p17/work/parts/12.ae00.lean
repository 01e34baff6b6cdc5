/-! MAKING OBJECTS: a new cell has no type yet -/
def upT (τ : Tau) (a : Nat) (t : Ty) : Tau := fun k => if k = a then some t else τ k
theorem upT_at {τ : Tau} {a : Nat} {t : Ty} : upT τ a t a = some t := if_pos rfl
theorem upT_ne {τ : Tau} {a b : Nat} {t : Ty} (h : b ≠ a) : upT τ a t b = τ b := if_neg h
theorem upT_sub {τ : Tau} {a : Nat} {t : Ty} (h : τ a = none) : Sub τ (upT τ a t) := by
  refine ⟨fun b q e => ?_, fun b ci p e => ⟨p, ?_, Or.inr rfl⟩⟩
  · rw [upT_ne fun k => by subst k; rw [h] at e; cases e]; exact e
  · rw [upT_ne fun k => by subst k; rw [h] at e; cases e]; exact e
theorem upT_inv {τ : Tau} {a b : Nat} {t u : Ty} (h : upT τ a t b = some u) : (b = a ∧ u = t) ∨ (b ≠ a ∧ τ b = some u) := by
  by_cases e : b = a
  · subst e
    rw [upT_at] at h
    exact Or.inl ⟨rfl, (Option.some.inj h).symm⟩
  · rw [upT_ne e] at h
    exact Or.inr ⟨e, h⟩
section MK
variable {G : xG} {B B1 : Nat × Nat} {τ τ0 : Tau} {cs c0 : List va_E} {W : List Nat}
theorem WT.up (hW : WT G B τ cs) (h1 : B.1 ≤ B1.1) (h2 : B.2 ≤ B1.2) (h3 : B1.1 ≤ 600000) (h4 : B1.2 ≤ 7302250) : WT G B1 τ cs := by
  obtain ⟨q1, q2, q3, q4, q5, q6, q7, q8, -⟩ := hW
  exact ⟨q1, q2, q3, q4, q5, q6, by omega, by omega, h3, h4⟩
theorem WT.non (hW : WT G B τ cs) {a : Nat} (h : cs.length ≤ a) : τ a = none := by
  cases e : τ a with
  | none => rfl
  | some t => have := hW.1 a t e; omega
/-- cells without a type may change, and new ones may come -/
theorem WT.alter {c1 : List va_E} (hW : WT G B τ cs) (hl : cs.length ≤ c1.length) (hs : ∀ a t, τ a = some t → c1[a]? = cs[a]?) (h1 : c1.length + B.1 ≤ cs.length + B1.1) (h2 : xZ c1 + B.2 ≤ xZ cs + B1.2) (h3 : B1.1 ≤ 600000) (h4 : B1.2 ≤ 7302250) : WT G B1 τ c1 := by
  obtain ⟨q1, q2, q3, q4, q5, q6, q7, q8, -⟩ := hW
  have q2' := q2
  obtain ⟨u1, ⟨p3, u2⟩, u3, u4, u5, u6, -⟩ := q2'
  refine ⟨fun a t e => Nat.lt_of_lt_of_le (q1 a t e) hl, q2, fun a n e => ?_, fun a k n lo hi e => ?_, fun a ci p e g5 g1 => ?_, q6.ne (hs 3 _ u2) (hs 11 _ u4) (hs 12 _ u6), ?_, ?_, h3, h4⟩
  · obtain ⟨r, t, ov, ⟨f, e1, e2, e3⟩, hr⟩ := q3 a n e
    exact ⟨r, t, ov, ⟨f, (hs a _ e).trans e1, (hs r _ hr).trans e2, e3⟩, hr⟩
  · obtain ⟨e0, f, e1, e2⟩ := q4 a k n lo hi e
    exact ⟨e0, f, (hs a _ e).trans e1, e2⟩
  · obtain ⟨vs, e1, e2⟩ := q5 a ci p e g5 g1
    exact ⟨vs, (hs a _ e).trans e1, e2⟩
  · unfold rho1 at *; omega
  · unfold rho2 at *; omega
theorem WT.raw {e : va_E} (hW : WT G B τ cs) (e1 : B1.1 = B.1 + 1) (e2 : B1.2 = B.2 + xSzE e) (h1 : B1.1 ≤ 600000) (h2 : B1.2 ≤ 7302250) : WT G B1 τ (cs ++ [e]) :=
  hW.alter (by simp) (fun a t h => List.getElem?_append_left (hW.1 a t h)) (by simp; omega) (by simp [xZ]; omega) h1 h2
/-- a cell gets its type -/
theorem WT.l22 (hW : WT G B τ cs) : 22 < cs.length := by
  obtain ⟨c, t, hc, ht⟩ := hW.2.1.2.2.2.2.2.2.2.2.2.2
  have := hW.1 c t ht
  omega
theorem WT.give {a : Nat} {t : Ty} (hW : WT G B τ cs) (ha : τ a = none) (h22 : 22 < a) (hl : a < cs.length) (hn : ∀ ci p, t = .inl (ci, p) → ci ≠ 5 ∧ ci ≠ 6 ∧ ci ≠ 10 ∧ ci < 100 ∧ (ci = 3 → p ≤ 200)) (hq : ∀ k n lo hi, t = .inr (k, n, lo, hi) → hi ≠ 600 ∧ hi ≠ 601)
    (hA : ∀ k n lo hi, t = .inr (k, n, lo, hi) → n < 2147483648 ∧ ∃ f : Nat → Int32, cs[a]? = some (.inl (G.2.2.1 k, n, .inl f)) ∧ ∀ i, iv lo hi (f i).toInt) (hO : ∀ ci p, t = .inl (ci, p) → ∃ vs, cs[a]? = some (.inr (ci, vs)) ∧ wF G τ (fT ci p) vs) : WT G B (upT τ a t) cs := by
  have hs : Sub τ (upT τ a t) := upT_sub ha
  obtain ⟨q1, q2, q3, q4, q5, q6, q7⟩ := hW
  obtain ⟨u1, u2, u3, u4, u5, u6, u7, u8, u9, u10, u11⟩ := q2
  refine ⟨fun b u e => ?_, ⟨fun b p e => ?_, hs.s u2, fun b e => ?_, hs.a u4, fun b e => ?_, hs.a u6, fun b p e => ?_, fun b p e => ?_, fun b n e => ?_, fun b e => (u10 b e).elim (fun q => Or.inl (hs.s q)) (fun q => Or.inr (by rw [upT_ne (by unfold isS at e; omega)]; exact q)), hs.ex u11⟩, fun b n e => ?_, fun b k n lo hi e => ?_, fun b ci p e g5 g1 => ?_, q6, ?_⟩
  · rcases upT_inv e with ⟨e1, -⟩ | ⟨-, e2⟩
    · omega
    · exact q1 b u e2
  · rcases upT_inv e with ⟨e1, e2⟩ | ⟨-, e2⟩
    · exact absurd rfl (hn _ _ e2.symm).2.1
    · exact u1 b p e2
  · rcases upT_inv e with ⟨e1, e2⟩ | ⟨-, e2⟩
    · exact absurd rfl (hq _ _ _ _ e2.symm).1
    · exact u3 b e2
  · rcases upT_inv e with ⟨e1, e2⟩ | ⟨-, e2⟩
    · exact absurd rfl (hq _ _ _ _ e2.symm).2
    · exact u5 b e2
  · rcases upT_inv e with ⟨e1, e2⟩ | ⟨-, e2⟩
    · exact (hn _ _ e2.symm).2.2.2.2 rfl
    · exact u7 b p e2
  · rcases upT_inv e with ⟨e1, e2⟩ | ⟨-, e2⟩
    · exact absurd rfl (hn _ _ e2.symm).2.2.1
    · exact u8 b p e2
  · rcases upT_inv e with ⟨e1, e2⟩ | ⟨-, e2⟩
    · exact absurd rfl (hn _ _ e2.symm).1
    · exact u9 b n e2
  · rcases upT_inv e with ⟨e1, e2⟩ | ⟨-, e2⟩
    · exact absurd rfl (hn _ _ e2.symm).1
    · obtain ⟨r, tt, ov, e3, hr⟩ := q3 b n e2
      refine ⟨r, tt, ov, e3, ?_⟩
      rw [upT_ne fun k => by subst k; rw [ha] at hr; cases hr]
      exact hr
  · rcases upT_inv e with ⟨e1, e2⟩ | ⟨-, e2⟩
    · subst e1
      exact hA _ _ _ _ e2.symm
    · exact q4 b k n lo hi e2
  · rcases upT_inv e with ⟨e1, e2⟩ | ⟨-, e2⟩
    · subst e1
      obtain ⟨vs, e3, e4⟩ := hO _ _ e2.symm
      exact ⟨vs, e3, e4.sub hs⟩
    · obtain ⟨vs, e3, e4⟩ := q5 b ci p e2 g5 g1
      exact ⟨vs, e3, e4.sub hs⟩
  · have key : ∀ b, isS b → nO (upT τ a t) b = nO τ b := fun b hb => by
      unfold nO
      rw [upT_ne (by unfold isS at hb; omega)]
    unfold rho1 rho2 at *
    rw [key 1 (Or.inl rfl), key 4 (Or.inr (Or.inl rfl)), key 20 (Or.inr (Or.inr (Or.inl rfl))), key 22 (Or.inr (Or.inr (Or.inr rfl)))]
    exact q7
theorem Fx.raw {e : va_E} (h : Fx W τ0 c0 τ cs) (hty : ∀ a t, τ0 a = some t → a < c0.length) : Fx W τ0 c0 τ (cs ++ [e]) := by
  obtain ⟨q1, q2, q3, q4, q5⟩ := h
  have old : ∀ a, a < c0.length → (cs ++ [e])[a]? = cs[a]? := fun a ha => List.getElem?_append_left (by omega)
  refine ⟨q1, by simp; omega, fun a ha e1 => ⟨?_, (q3 a ha e1).2⟩, fun a ci p e1 hn => (old a (hty a _ e1)).trans (q4 a ci p e1 hn), fun a q e1 h9 hn => (old a (hty a _ e1)).trans (q5 a q e1 h9 hn)⟩
  · rw [List.getElem?_append_left (by omega)]; exact (q3 a ha e1).1
theorem Fx.give {a : Nat} {t : Ty} (h : Fx W τ0 c0 τ cs) (ha : c0.length ≤ a) (hn0 : τ a = none) : Fx W τ0 c0 (upT τ a t) cs := by
  obtain ⟨q1, q2, q3, q4, q5⟩ := h
  exact ⟨q1.tr (upT_sub hn0), q2, fun b hb e1 => ⟨(q3 b hb e1).1, by rw [upT_ne (by omega)]; exact (q3 b hb e1).2⟩, q4, q5⟩
theorem wF_nil : wF G τ [] [] := ⟨rfl, fun k t e => by simp at e⟩
theorem wF_cons {t : FT} {ts : List FT} {v : Value} {vs : List Value} (h : wVl G τ t v) (k : wF G τ ts vs) : wF G τ (t :: ts) (v :: vs) := by
  refine ⟨by simp [k.1], fun j u e => ?_⟩
  cases j with
  | zero =>
    rw [List.getElem?_cons_zero] at e
    cases e
    exact ⟨v, rfl, h⟩
  | succ j =>
    rw [List.getElem?_cons_succ] at e
    rw [List.getElem?_cons_succ]
    exact k.2 j u e
variable {own : String} {cc : ByteArray} {nL : Nat} {ret : Option FieldType} {ini : Bool} {d : Nat} {Post : xP} {pc : Nat} {L : List (Nat × Value)} {rest : List Value}
end MK

