/-! THE CLASS BY TYPES: a cell of the class has a type: an object's class (and a number that its type hangs on: of a Signs how long its row is, of a Meaning how many elements it has, of the class itself its limit), or an array's kind, length and the bounds of its elements. The rows of Signs have the class 100 + the cell of their Signs. Cells without a type are not the class's. -/
abbrev Ty : Type := (Nat × Nat) ⊕ (Nat × Nat × Int × Int)
abbrev FT : Type := (Int × Int) ⊕ Ty
abbrev Tau : Type := Nat → Option Ty
def oT (τ : Tau) (a ci : Nat) : Prop := ∃ p, τ a = some (.inl (ci, p))
def rT (τ : Tau) (a : Nat) : Ty → Prop
  | .inl q => oT τ a q.1
  | .inr q => τ a = some (.inr q)
def fT (ci p : Nat) : List FT := match ci with
  | 0 => [.inr (.inl (5, 0)), .inr (.inl (4, 0)), .inl ((-2147483648), 2147483647)]
  | 1 => [.inr (.inr (0, 30, (-2147483648), 2147483648)), .inr (.inr (0, 120, (-2147483648), 2147483648)), .inr (.inr (0, 2400, (-2147483648), 2147483648)), .inl (0, 30)]
  | 2 => [.inr (.inl (4, 0)), .inr (.inl (1, 0)), .inr (.inl (1, 0)), .inr (.inr (0, 30, (-2147483648), 2147483647)), .inr (.inr (0, 30, (-2147483648), 2147483647)), .inr (.inr (0, 30, 0, 29)), .inl (0, 30)]
  | 3 => [.inr (.inl (4, 0)), .inr (.inl (6, 0)), .inr (.inl (5, 0)), .inr (.inl (5, 0)), .inr (.inl (1, 0)), .inr (.inl (7, 0)), .inr (.inr (0, p, (-2147483648), 2147483647)), .inr (.inr (0, p, 0, 29)), .inr (.inr (0, p, (-2147483648), 2147483647)), .inr (.inr (0, p, (-2147483648), 2147483647)), .inr (.inr (0, p, (-2147483648), 2147483647)), .inr (.inr (0, 30, (-2147483648), 2147483647))]
  | 4 => [.inr (.inr (1, 480, 0, 65535)), .inr (.inr (0, 30, 0, 16)), .inr (.inr (0, 24, (-2147483648), 2147483649)), .inr (.inr (2, 24, 0, 1)), .inr (.inr (0, 6, 0, 4)), .inr (.inr (0, 6, (-2147483648), 2147483649)), .inr (.inr (0, 6, (-2147483648), 2147483649)), .inr (.inr (2, 6, 0, 1)), .inl (0, 6)]
  | 6 => [.inr (.inl (5, 0)), .inr (.inl (5, 0)), .inr (.inr (0, 200, (-2147483648), 2147483647)), .inr (.inr (0, 200, (-2147483648), 2147483647)), .inr (.inr (0, 200, (-2147483648), 2147483647)), .inr (.inr (0, 200, (-1), 199)), .inr (.inr (0, 200, (-2147483648), 2147483647)), .inr (.inr (0, 200, 0, 600)), .inr (.inr (0, 200, 0, 601)), .inr (.inr (0, 200, (-2147483648), 2147483647)), .inr (.inr (0, 200, (-2147483648), 2147483647)), .inr (.inr (2, 200, 0, 1)), .inr (.inr (0, 600, (-2147483648), 2147483647)), .inr (.inr (0, 600, (-2147483648), 2147483647)), .inr (.inr (0, 600, (-2147483648), 2147483647)), .inr (.inr (0, 600, 0, 3000)), .inl (0, 200), .inl (0, 600)]
  | 7 => [.inr (.inl (6, 0)), .inr (.inl (5, 0))]
  | 8 => [.inr (.inl (4, 0)), .inr (.inl (1, 0)), .inr (.inl (5, 0)), .inl ((-2147483648), 2147483647), .inl (1, 20), .inr (.inr (0, 30, (-2147483648), 2147483647)), .inr (.inr (0, 30, (-2147483648), 2147483647)), .inr (.inr (0, 30, (-2147483648), 2147483647)), .inr (.inr (0, 30, 0, 7)), .inr (.inr (0, 62, (-2147483648), 2147483647)), .inr (.inr (0, 62, (-2147483648), 2147483647)), .inl ((-2147483648), 2147483647), .inl (0, 1)]
  | 9 => [.inr (.inl (5, 0)), .inr (.inl (6, 0)), .inr (.inl (5, 0)), .inl ((-2147483648), 2147483647), .inl ((-1), 199), .inl ((-2147483648), 2147483647), .inl ((-2147483648), 2147483647)]
  | 10 => [.inr (.inl (5, 0)), .inr (.inl (6, 0)), .inr (.inl (5, 0)), .inr (.inl (5, 0)), .inr (.inl (4, 0)), .inr (.inl (4, 0)), .inr (.inl (1, 0)), .inr (.inl (1, 0)), .inr (.inl (1, 0)), .inl (p, p)]
  | _ => []
def wVl (G : xG) (τ : Tau) : FT → Value → Prop
  | .inl q, v => ∃ x : Int32, v = .int x ∧ iv q.1 q.2 x.toInt
  | .inr t, v => ∃ b : Nat, v = .ref (G.1 + b) ∧ rT τ b t
def wF (G : xG) (τ : Tau) (ts : List FT) (vs : List Value) : Prop := vs.length = ts.length ∧ ∀ (k : Nat) (t : FT), ts[k]? = some t → ∃ v, vs[k]? = some v ∧ wVl G τ t v
def fld (cs : List va_E) (a k : Nat) : Int := match cs[a]? with
  | some (.inr q) => (match q.2[k]? with | some (.int x) => x.toInt | _ => 0)
  | _ => 0
def fldR (cs : List va_E) (a k : Nat) : Nat := match cs[a]? with
  | some (.inr q) => (match q.2[k]? with | some (.ref x) => x | _ => 0)
  | _ => 0
def elt (cs : List va_E) (a : Nat) (i : Int) : Int := match cs[a]? with
  | some (.inl (_, _, .inl f)) => (f i.toNat).toInt
  | _ => 0
/-- the tree: the attributes of an element are attributes -/
def TR (cs : List va_E) : Prop := ∀ e : Int, 0 ≤ e → e < fld cs 3 16 → elt cs 11 e + elt cs 12 e ≤ fld cs 3 17
def nO (τ : Tau) (a : Nat) : Nat := match τ a with
  | some (.inl q) => q.2
  | _ => 0
def rho1 (τ : Tau) (cs : List va_E) : Nat := cs.length + (3000 - nO τ 1) + (3000 - nO τ 4) + (3000 - nO τ 20) + (3000 - nO τ 22)
def rho2 (τ : Tau) (cs : List va_E) : Nat := xZ cs + pz (nO τ 1) + pz (nO τ 4) + pz (nO τ 20) + pz (nO τ 22)
def isS (a : Nat) : Prop := a = 1 ∨ a = 4 ∨ a = 20 ∨ a = 22
/-- what is the same of every typing: where the tree lies -/
def wU (τ : Tau) : Prop := (∀ a p, τ a = some (.inl (6, p)) → a = 3) ∧ oT τ 3 6 ∧ (∀ a, τ a = some (.inr (0, 200, 0, 600)) → a = 11) ∧ τ 11 = some (.inr (0, 200, 0, 600)) ∧ (∀ a, τ a = some (.inr (0, 200, 0, 601)) → a = 12) ∧ τ 12 = some (.inr (0, 200, 0, 601)) ∧ (∀ a p, τ a = some (.inl (3, p)) → p ≤ 200) ∧ (∀ a p, τ a = some (.inl (10, p)) → 1 ≤ p ∧ p ≤ 20) ∧ (∀ a n, τ a = some (.inl (5, n)) → isS a) ∧ (∀ a, isS a → oT τ a 5 ∨ τ a = none) ∧ ∃ c t, 23 ≤ c ∧ τ c = some t
def wS (G : xG) (τ : Tau) (cs : List va_E) : Prop := ∀ a n, τ a = some (.inl (5, n)) → ∃ r t ov, Sg G cs a r n t ov ∧ τ r = some (.inl (100 + a, 0))
def wA (G : xG) (τ : Tau) (cs : List va_E) : Prop := ∀ a k n lo hi, τ a = some (.inr (k, n, lo, hi)) → n < 2147483648 ∧ ∃ f : Nat → Int32, cs[a]? = some (.inl (G.2.2.1 k, n, .inl f)) ∧ ∀ i, iv lo hi (f i).toInt
def wO (G : xG) (τ : Tau) (cs : List va_E) : Prop := ∀ a ci p, τ a = some (.inl (ci, p)) → ci ≠ 5 → ci < 100 → ∃ vs, cs[a]? = some (.inr (ci, vs)) ∧ wF G τ (fT ci p) vs
def WT (G : xG) (B : Nat × Nat) (τ : Tau) (cs : List va_E) : Prop := (∀ a t, τ a = some t → a < cs.length) ∧ wU τ ∧ wS G τ cs ∧ wA G τ cs ∧ wO G τ cs ∧ TR cs ∧ (rho1 τ cs ≤ B.1 ∧ rho2 τ cs ≤ B.2 ∧ B.1 ≤ 600000 ∧ B.2 ≤ 7302250)
/-- types stay; only a Signs' row may be another -/
def Sub (τ τ1 : Tau) : Prop := (∀ a q, τ a = some (.inr q) → τ1 a = some (.inr q)) ∧ (∀ a ci p, τ a = some (.inl (ci, p)) → ∃ p1, τ1 a = some (.inl (ci, p1)) ∧ (ci = 5 ∨ p1 = p))
/-- whose a cell is: of a row its Signs' class, of an array of Heap or Schema that class -/
def gC (ci : Nat) : Nat := if ci < 100 then ci else 5
def gA (q : Nat × Nat × Int × Int) : Nat := if q.2.2.2 = 2147483648 then 1 else if q.2.2.2 = 2147483649 ∨ q.1 = 1 ∨ q.2.2.2 = 16 ∨ q.2.2.2 = 4 ∨ (q.1 = 2 ∧ q.2.1 ≠ 200) then 4 else 99
/-- what a call leaves: types, cells without a type, what belongs to classes that are not in W -/
def Fx (W : List Nat) (τ : Tau) (cs : List va_E) (τ1 : Tau) (cs1 : List va_E) : Prop := Sub τ τ1 ∧ cs.length ≤ cs1.length ∧ (∀ a, a < cs.length → τ a = none → cs1[a]? = cs[a]? ∧ τ1 a = none) ∧ (∀ a ci p, τ a = some (.inl (ci, p)) → gC ci ∉ W → cs1[a]? = cs[a]?) ∧ ∀ a q, τ a = some (.inr q) → gA q ≠ 99 → gA q ∉ W → cs1[a]? = cs[a]?
theorem Sub.rf {τ : Tau} : Sub τ τ := ⟨fun _ _ h => h, fun _ _ p h => ⟨p, h, Or.inr rfl⟩⟩
theorem Sub.tr {τ τ1 τ2 : Tau} (h : Sub τ τ1) (k : Sub τ1 τ2) : Sub τ τ2 := by
  refine ⟨fun a q e => k.1 a q (h.1 a q e), fun a ci p e => ?_⟩
  obtain ⟨p1, e1, c1⟩ := h.2 a ci p e
  obtain ⟨p2, e2, c2⟩ := k.2 a ci p1 e1
  exact ⟨p2, e2, by omega⟩
theorem Sub.ex {τ τ1 : Tau} (h : Sub τ τ1) (k : ∃ c t, 23 ≤ c ∧ τ c = some t) : ∃ c t, 23 ≤ c ∧ τ1 c = some t := by
  obtain ⟨c, t, hc, ht⟩ := k
  cases t with
  | inl q =>
    obtain ⟨p1, e, -⟩ := h.2 c q.1 q.2 ht
    exact ⟨c, _, hc, e⟩
  | inr q => exact ⟨c, _, hc, h.1 c q ht⟩
theorem Sub.e {τ τ1 : Tau} (h : Sub τ τ1) {a ci p : Nat} (e : τ a = some (.inl (ci, p))) (hc : ci ≠ 5) : τ1 a = some (.inl (ci, p)) := by
  obtain ⟨p1, e1, c1⟩ := h.2 a ci p e
  rw [e1, c1.resolve_left hc]
theorem Sub.s {τ τ1 : Tau} (h : Sub τ τ1) {a ci : Nat} (e : oT τ a ci) : oT τ1 a ci := by
  obtain ⟨p, e⟩ := e
  obtain ⟨p1, e1, c1⟩ := h.2 a ci p e
  exact ⟨p1, e1⟩
theorem Sub.a {τ τ1 : Tau} (h : Sub τ τ1) {a : Nat} {q : Nat × Nat × Int × Int} (e : τ a = some (.inr q)) : τ1 a = some (.inr q) := h.1 a q e
theorem Sub.rT {τ τ1 : Tau} (h : Sub τ τ1) {a : Nat} {t : Ty} (e : rT τ a t) : rT τ1 a t := by
  cases t with
  | inl q => exact h.s e
  | inr q => exact h.a e
theorem Fx.rf {W : List Nat} {τ : Tau} {cs : List va_E} : Fx W τ cs τ cs := ⟨Sub.rf, Nat.le_refl _, fun _ _ h => ⟨rfl, h⟩, fun _ _ _ _ _ => rfl, fun _ _ _ _ _ => rfl⟩
theorem Fx.tr {W W1 : List Nat} {τ τ1 τ2 : Tau} {c c1 c2 : List va_E} (h : Fx W τ c τ1 c1) (k : Fx W1 τ1 c1 τ2 c2) (hw : ∀ x ∈ W1, x ∈ W) : Fx W τ c τ2 c2 := by
  refine ⟨h.1.tr k.1, Nat.le_trans h.2.1 k.2.1, fun a ha e => ?_, fun a ci p e hn => ?_, fun a q e h9 hn => ?_⟩
  · obtain ⟨e1, e2⟩ := h.2.2.1 a ha e
    obtain ⟨e3, e4⟩ := k.2.2.1 a (Nat.lt_of_lt_of_le ha h.2.1) e2
    exact ⟨e3.trans e1, e4⟩
  · obtain ⟨p1, e1, -⟩ := h.1.2 a ci p e
    exact (k.2.2.2.1 a ci p1 e1 (fun q => hn (hw _ q))).trans (h.2.2.2.1 a ci p e hn)
  · exact (k.2.2.2.2 a q (h.1.1 a q e) h9 (fun r => hn (hw _ r))).trans (h.2.2.2.2 a q e h9 hn)
theorem Fx.fe {W : List Nat} {τ τ1 : Tau} {c c1 : List va_E} (h : Fx W τ c τ1 c1) {a ci p k : Nat} (e : τ a = some (.inl (ci, p))) (hn : ci ∉ W) (h5 : ci ≠ 5) (h1 : ci < 100) : fld c1 a k = fld c a k := by
  unfold fld
  rw [h.2.2.2.1 a ci p e (by rw [show gC ci = ci from if_pos h1]; exact hn)]
theorem rT_s {τ τ1 : Tau} (h : Sub τ τ1) {G : xG} {t : FT} {v : Value} (e : wVl G τ t v) : wVl G τ1 t v := by
  cases t with
  | inl q => exact e
  | inr q =>
    obtain ⟨b, e1, e2⟩ := e
    exact ⟨b, e1, h.rT e2⟩
theorem wF.sub {G : xG} {τ τ1 : Tau} {ts : List FT} {vs : List Value} (h : wF G τ ts vs) (k : Sub τ τ1) : wF G τ1 ts vs := by
  refine ⟨h.1, fun j t e => ?_⟩
  obtain ⟨v, e1, e2⟩ := h.2 j t e
  exact ⟨v, e1, rT_s k e2⟩
theorem WT.ob {G : xG} {B : Nat × Nat} {τ : Tau} {cs : List va_E} {a ci p : Nat} (h : WT G B τ cs) (e : τ a = some (.inl (ci, p))) (h1 : ci < 100) : ∃ fs, cs[a]? = some (.inr (ci, fs)) := by
  by_cases h5 : ci = 5
  · subst h5
    obtain ⟨r, t, ov, ⟨f, e1, -⟩, -⟩ := h.2.2.1 a p e
    exact ⟨_, e1⟩
  · obtain ⟨vs, e1, -⟩ := h.2.2.2.2.1 a ci p e h5 h1
    exact ⟨vs, e1⟩
theorem WT.os {G : xG} {B : Nat × Nat} {τ : Tau} {cs : List va_E} {a : Nat} (h : WT G B τ cs) (e : oT τ a 5) : ∃ fs, cs[a]? = some (.inr (5, fs)) := by
  obtain ⟨p, e⟩ := e
  exact h.ob e (by decide)
/-- the tree's own three cells are as they were -/
theorem TR.ne {cs c1 : List va_E} (h : TR cs) (e3 : c1[3]? = cs[3]?) (e11 : c1[11]? = cs[11]?) (e12 : c1[12]? = cs[12]?) : TR c1 := by
  unfold TR fld elt
  rw [e3, e11, e12]
  exact h
theorem TR.set {G : xG} {B : Nat × Nat} {τ : Tau} {cs : List va_E} {a : Nat} {e : va_E} {t : Ty} (h : WT G B τ cs) (ha : τ a = some t) (h6 : ∀ p, t ≠ .inl (6, p)) (h11 : t ≠ .inr (0, 200, 0, 600)) (h12 : t ≠ .inr (0, 200, 0, 601)) : TR (cs.set a e) := by
  obtain ⟨u1, ⟨p3, u2⟩, u3, u4, u5, u6, -⟩ := h.2.1
  refine h.2.2.2.2.2.1.ne ?_ ?_ ?_
  · exact List.getElem?_set_ne fun q => by subst q; rw [ha] at u2; exact h6 p3 (Option.some.inj u2)
  · exact List.getElem?_set_ne fun q => by subst q; rw [ha] at u4; exact h11 (Option.some.inj u4)
  · exact List.getElem?_set_ne fun q => by subst q; rw [ha] at u6; exact h12 (Option.some.inj u6)
/-- a cell that is no Signs and no row gets another content of its type -/
theorem WT.set {G : xG} {B : Nat × Nat} {τ : Tau} {cs : List va_E} {a : Nat} {e0 e : va_E} {t : Ty} (h : WT G B τ cs) (ha : τ a = some t) (hn : ∀ ci p, t = .inl (ci, p) → ci ≠ 5 ∧ ci < 100) (h0 : cs[a]? = some e0) (hz : xSzE e = xSzE e0)
    (hA : ∀ k n lo hi, t = .inr (k, n, lo, hi) → ∃ f : Nat → Int32, e = .inl (G.2.2.1 k, n, .inl f) ∧ ∀ i, iv lo hi (f i).toInt) (hO : ∀ ci p, t = .inl (ci, p) → ∃ vs, e = .inr (ci, vs) ∧ wF G τ (fT ci p) vs) (hT : TR (cs.set a e)) : WT G B τ (cs.set a e) := by
  obtain ⟨h1, h2, h3, h4, h5, h6, h7⟩ := h
  refine ⟨fun b u hb => by rw [List.length_set]; exact h1 b u hb, h2, fun b n hb => ?_, fun b k n lo hi hb => ?_, fun b ci p hb g5 g1 => ?_, hT, ?_⟩
  · obtain ⟨r, tt, ov, ⟨f, q1, q2, q3⟩, hr⟩ := h3 b n hb
    have na : a ≠ b := fun q => by subst q; rw [ha] at hb; exact (hn _ _ (Option.some.inj hb)).1 rfl
    have nr : a ≠ r := fun q => by subst q; rw [ha] at hr; have := (hn _ _ (Option.some.inj hr)).2; omega
    exact ⟨r, tt, ov, ⟨f, (List.getElem?_set_ne na).trans q1, (List.getElem?_set_ne nr).trans q2, q3⟩, hr⟩
  · obtain ⟨hn1, f, q1, q2⟩ := h4 b k n lo hi hb
    refine ⟨hn1, ?_⟩
    by_cases q : a = b
    · subst q
      rw [ha] at hb
      obtain ⟨f', e1, e2⟩ := hA k n lo hi (Option.some.inj hb)
      exact ⟨f', by rw [set_at h0, e1], e2⟩
    · exact ⟨f, (List.getElem?_set_ne q).trans q1, q2⟩
  · obtain ⟨vs, q1, q2⟩ := h5 b ci p hb g5 g1
    by_cases q : a = b
    · subst q
      rw [ha] at hb
      obtain ⟨vs', e1, e2⟩ := hO ci p (Option.some.inj hb)
      exact ⟨vs', by rw [set_at h0, e1], e2⟩
    · exact ⟨vs, (List.getElem?_set_ne q).trans q1, q2⟩
  · unfold rho1 rho2 at *
    rw [List.length_set, xZ_set h0 hz]
    exact h7
theorem Fx.set {W : List Nat} {τ0 τ : Tau} {c0 cs : List va_E} {a : Nat} {e : va_E} {t : Ty} (h : Fx W τ0 c0 τ cs) (ha : τ a = some t) (hw : ∀ ci p, t = .inl (ci, p) → gC ci ∈ W) (hq : ∀ q, t = .inr q → gA q = 99 ∨ gA q ∈ W) : Fx W τ0 c0 τ (cs.set a e) := by
  refine h.tr (W1 := W) ⟨Sub.rf, by simp, fun b hb e1 => ⟨?_, e1⟩, fun b ci p e1 hn => ?_, fun b q e1 h9 hn => ?_⟩ (fun _ q => q)
  · exact List.getElem?_set_ne fun q => by subst q; rw [ha] at e1; cases e1
  · exact List.getElem?_set_ne fun q => by subst q; rw [ha] at e1; exact hn (hw ci p (Option.some.inj e1))
  · exact List.getElem?_set_ne fun k => by subst k; rw [ha] at e1; exact (hq q (Option.some.inj e1)).elim h9 hn
theorem any_ok (x : Int32) : iv (-2147483648) 2147483647 x.toInt := by
  have := rng_of x
  omega
theorem any_okT {hi : Int} (h : 2147483647 ≤ hi) (x : Int32) : iv (-2147483648) hi x.toInt := by
  have := rng_of x
  omega
theorem iv_ok {lo hi v : Int} (h : iv lo hi v) (h1 : -2147483648 ≤ lo) (h2 : hi ≤ 2147483647) : iv lo hi (Int32.ofInt v).toInt := by
  rw [rng_toInt ⟨by omega, by omega⟩]
  exact h
theorem nrm (v : Int) : ∃ z : Int, Int32.ofInt v = Int32.ofInt z ∧ rng z ∧ (rng v → z = v) := ⟨(Int32.ofInt v).toInt, (Int32.ofInt_toInt _).symm, rng_of _, fun h => rng_toInt h⟩
theorem rngL_of (x : Int64) : rngL x.toInt := ⟨Int64.le_toInt x, Int64.toInt_lt x⟩
/-- what a method says: rI, rV: it changes nothing; wI, wN: it keeps the types -/
def rI (cs : List va_E) (P : Int → Prop) : xP := fun v c1 => c1 = cs ∧ ∃ r : Int, v = some (.int (Int32.ofInt r)) ∧ rng r ∧ P r
def rO (G : xG) (τ : Tau) (cs : List va_E) (t : Ty) : xP := fun v c1 => c1 = cs ∧ ∃ b : Nat, v = some (.ref (G.1 + b)) ∧ rT τ b t
def wI (G : xG) (B : Nat × Nat) (τ : Tau) (cs : List va_E) (W : List Nat) (P : Int → Prop) : xP := fun v c1 => ∃ (τ1 : Tau) (r : Int), v = some (.int (Int32.ofInt r)) ∧ rng r ∧ WT G B τ1 c1 ∧ Fx W τ cs τ1 c1 ∧ P r
def wN (G : xG) (B : Nat × Nat) (τ : Tau) (cs : List va_E) (W : List Nat) : xP := fun v c1 => ∃ τ1 : Tau, v = none ∧ WT G B τ1 c1 ∧ Fx W τ cs τ1 c1
theorem fit_ch {w : Int32} (h : fits .char (.int w) = true) : iv 0 65535 w.toInt := by
  have h2 : (0 : Int32) ≤ w ∧ w ≤ 65535 := by simpa [fits] using h
  have a := Int32.le_iff_toInt_le.mp h2.1
  have b := Int32.le_iff_toInt_le.mp h2.2
  have e0 : (0 : Int32).toInt = 0 := by decide
  have e1 : (65535 : Int32).toInt = 65535 := by decide
  omega
theorem bool_ok {v : Int} (h : iv 0 1 v) : iv 0 1 (vp_nar .boolean (Int32.ofInt v)).toInt := by
  rw [vnar01 (b01 h), rng_toInt ⟨by omega, by omega⟩]
  exact h
section ZT
variable {own : String} {cc : ByteArray} {nL : Nat} {ret : Option FieldType} {ini : Bool} {G : xG} {d : Nat} {Post : xP} {pc : Nat} {L : List (Nat × Value)} {rest : List Value} {cs c0 : List va_E} {B : Nat × Nat} {τ τ0 : Tau} {W : List Nat}

theorem kz {w : Int32} (kk : ∀ z : Int, rng z → Z (own, cc, nL, ret, ini) G d Post (pc) L (.int (Int32.ofInt z) :: rest) cs) : Z (own, cc, nL, ret, ini) G d Post (pc) L (.int w :: rest) cs := by
  have := kk w.toInt (rng_of w)
  rwa [Int32.ofInt_toInt] at this
theorem kzL {w : Int64} (kk : ∀ z : Int, rngL z → Z (own, cc, nL, ret, ini) G d Post (pc) L (.long (Int64.ofInt z) :: rest) cs) : Z (own, cc, nL, ret, ini) G d Post (pc) L (.long w :: rest) cs := by
  have := kk w.toInt (rngL_of w)
  rwa [Int64.ofInt_toInt] at this
theorem tw_iinc {i : Nat} {n l : Int} (hdg : decode cc pc = .ok (.iinc i n, 3)) (hl : xLk L i = some (.int (Int32.ofInt l))) (hn : i < nL) (kk : ∀ z : Int, rng z → (rng (l + n) → z = l + n) → Z (own, cc, nL, ret, ini) G d Post (pc + 3) (xSto1 L i (.int (Int32.ofInt z))) (rest) cs) : Z (own, cc, nL, ret, ini) G d Post (pc) L (rest) cs := by
  obtain ⟨z, e, h1, h2⟩ := nrm (l + n)
  refine i_iinc hdg hl hn ?_
  rw [e]
  exact kk z h1 h2
theorem tw_iadd {x y : Int} (hdg : decode cc pc = .ok (.iadd, 1)) (kk : ∀ z : Int, rng z → (rng (x + y) → z = x + y) → Z (own, cc, nL, ret, ini) G d Post (pc + 1) L (.int (Int32.ofInt z) :: rest) cs) : Z (own, cc, nL, ret, ini) G d Post (pc) L (.int (Int32.ofInt y) :: .int (Int32.ofInt x) :: rest) cs := by
  obtain ⟨z, e, h1, h2⟩ := nrm (x + y)
  refine i_iadd hdg ?_
  rw [e]
  exact kk z h1 h2
theorem tw_isub {x y : Int} (hdg : decode cc pc = .ok (.isub, 1)) (kk : ∀ z : Int, rng z → (rng (x - y) → z = x - y) → Z (own, cc, nL, ret, ini) G d Post (pc + 1) L (.int (Int32.ofInt z) :: rest) cs) : Z (own, cc, nL, ret, ini) G d Post (pc) L (.int (Int32.ofInt y) :: .int (Int32.ofInt x) :: rest) cs := by
  obtain ⟨z, e, h1, h2⟩ := nrm (x - y)
  refine i_isub hdg ?_
  rw [e]
  exact kk z h1 h2
theorem tw_imul {x y : Int} (hdg : decode cc pc = .ok (.imul, 1)) (kk : ∀ z : Int, rng z → (rng (x * y) → z = x * y) → Z (own, cc, nL, ret, ini) G d Post (pc + 1) L (.int (Int32.ofInt z) :: rest) cs) : Z (own, cc, nL, ret, ini) G d Post (pc) L (.int (Int32.ofInt y) :: .int (Int32.ofInt x) :: rest) cs := by
  obtain ⟨z, e, h1, h2⟩ := nrm (x * y)
  refine i_imul hdg ?_
  rw [e]
  exact kk z h1 h2
theorem tw_iand {x y : Int} (hdg : decode cc pc = .ok (.iand, 1)) (kk : ∀ z : Int, rng z → Z (own, cc, nL, ret, ini) G d Post (pc + 1) L (.int (Int32.ofInt z) :: rest) cs) : Z (own, cc, nL, ret, ini) G d Post (pc) L (.int (Int32.ofInt y) :: .int (Int32.ofInt x) :: rest) cs := by
  exact z_iand hdg (kz kk)
theorem tw_ior {x y : Int} (hdg : decode cc pc = .ok (.ior, 1)) (kk : ∀ z : Int, rng z → Z (own, cc, nL, ret, ini) G d Post (pc + 1) L (.int (Int32.ofInt z) :: rest) cs) : Z (own, cc, nL, ret, ini) G d Post (pc) L (.int (Int32.ofInt y) :: .int (Int32.ofInt x) :: rest) cs := by
  exact z_ior hdg (kz kk)
theorem tw_ishl {x y : Int} (hdg : decode cc pc = .ok (.ishl, 1)) (kk : ∀ z : Int, rng z → Z (own, cc, nL, ret, ini) G d Post (pc + 1) L (.int (Int32.ofInt z) :: rest) cs) : Z (own, cc, nL, ret, ini) G d Post (pc) L (.int (Int32.ofInt y) :: .int (Int32.ofInt x) :: rest) cs := by
  exact z_ishl hdg (kz kk)
theorem tw_ishr {x y : Int} (hdg : decode cc pc = .ok (.ishr, 1)) (kk : ∀ z : Int, rng z → Z (own, cc, nL, ret, ini) G d Post (pc + 1) L (.int (Int32.ofInt z) :: rest) cs) : Z (own, cc, nL, ret, ini) G d Post (pc) L (.int (Int32.ofInt y) :: .int (Int32.ofInt x) :: rest) cs := by
  exact z_ishr hdg (kz kk)
theorem tw_ladd {x y : Int} (hdg : decode cc pc = .ok (.ladd, 1)) (kk : ∀ z : Int, rngL z → Z (own, cc, nL, ret, ini) G d Post (pc + 1) L (.long (Int64.ofInt z) :: rest) cs) : Z (own, cc, nL, ret, ini) G d Post (pc) L (.long (Int64.ofInt y) :: .long (Int64.ofInt x) :: rest) cs := by
  exact z_ladd hdg (kzL kk)
theorem tw_lsub {x y : Int} (hdg : decode cc pc = .ok (.lsub, 1)) (kk : ∀ z : Int, rngL z → Z (own, cc, nL, ret, ini) G d Post (pc + 1) L (.long (Int64.ofInt z) :: rest) cs) : Z (own, cc, nL, ret, ini) G d Post (pc) L (.long (Int64.ofInt y) :: .long (Int64.ofInt x) :: rest) cs := by
  exact z_lsub hdg (kzL kk)
theorem tw_lmul {x y : Int} (hdg : decode cc pc = .ok (.lmul, 1)) (kk : ∀ z : Int, rngL z → Z (own, cc, nL, ret, ini) G d Post (pc + 1) L (.long (Int64.ofInt z) :: rest) cs) : Z (own, cc, nL, ret, ini) G d Post (pc) L (.long (Int64.ofInt y) :: .long (Int64.ofInt x) :: rest) cs := by
  exact z_lmul hdg (kzL kk)
theorem tw_lneg {x : Int} (hdg : decode cc pc = .ok (.lneg, 1)) (kk : ∀ z : Int, rngL z → Z (own, cc, nL, ret, ini) G d Post (pc + 1) L (.long (Int64.ofInt z) :: rest) cs) : Z (own, cc, nL, ret, ini) G d Post (pc) L (.long (Int64.ofInt x) :: rest) cs := by
  exact z_lneg hdg (kzL kk)
theorem tw_i2l {x : Int} (hdg : decode cc pc = .ok (.i2l, 1)) (kk : ∀ z : Int, rngL z → Z (own, cc, nL, ret, ini) G d Post (pc + 1) L (.long (Int64.ofInt z) :: rest) cs) : Z (own, cc, nL, ret, ini) G d Post (pc) L (.int (Int32.ofInt x) :: rest) cs := by
  exact z_i2l hdg (kzL kk)
theorem tw_l2i {x : Int} (hdg : decode cc pc = .ok (.l2i, 1)) (kk : ∀ z : Int, rng z → Z (own, cc, nL, ret, ini) G d Post (pc + 1) L (.int (Int32.ofInt z) :: rest) cs) : Z (own, cc, nL, ret, ini) G d Post (pc) L (.long (Int64.ofInt x) :: rest) cs := by
  exact z_l2i hdg (kz kk)
theorem tw_mmin {idx : Nat} {x y : Int} (hl : Cond.methodLink own idx Lib.Math.min.name ∈ xTs) (hs : Cond.static Lib.Math.min.name ∈ xTs) (hi : Cond.initialized "java/lang/Math" ∈ xTs) (hdg : decode cc pc = .ok (.invokestatic idx, 3)) (hd : 1 ≤ d) (hw : (rest.map fun v => v.category).sum ≤ 8) (kk : ∀ z : Int, rng z → Z (own, cc, nL, ret, ini) G d Post (pc + 3) L (.int (Int32.ofInt z) :: rest) cs) : Z (own, cc, nL, ret, ini) G d Post (pc) L (.int (Int32.ofInt y) :: .int (Int32.ofInt x) :: rest) cs := by
  exact z_mmin hl hs hi hdg hd hw (kz kk)
theorem tw_look {dflt : Int} {ps : Array (Int × Int)} {len : Nat} {x off : Int} {tgt : Nat} (hdg : decode cc pc = .ok (.lookupswitch dflt ps, len)) (hp : (ps.toList.zip (ps.toList.drop 1)).all (fun (a, next) => a.1 < next.1) = true) (hx : rng x) (ho : Op.lookupswitch.offset ps.toList dflt x = off) (ht : (pc : Int) + off = (tgt : Int)) (kk : Z (own, cc, nL, ret, ini) G d Post (tgt) L (rest) cs) : Z (own, cc, nL, ret, ini) G d Post (pc) L (.int (Int32.ofInt x) :: rest) cs := z_lookup hdg hp (by rw [rng_toInt hx]; exact ho) ht kk
theorem tw_getI {C : String} {TT : u_T} {N ci index k a p : Nat} {ty : Nat → FieldType} {lo hi : Int} (hW : WT G B τ cs) (h0 : τ a = some (.inl (ci, p))) (h5 : ci ≠ 5) (h1 : ci < 100) (ht : (fT ci p)[k]? = some (.inl (lo, hi))) (hc : xCl ci C TT N ty) (hf : xFl own index TT N k) (hdg : decode cc pc = .ok (.getfield index, 3)) (kk : ∀ x : Int, x = fld cs a k → iv lo hi x → rng x → Z (own, cc, nL, ret, ini) G d Post (pc + 3) L (.int (Int32.ofInt x) :: rest) cs) : Z (own, cc, nL, ret, ini) G d Post (pc) L (.ref (G.1 + a) :: rest) cs := by
  obtain ⟨vs, e, hF⟩ := hW.2.2.2.2.1 a ci p h0 h5 h1
  obtain ⟨v, e1, w, e2, hi⟩ := hF.2 k _ ht
  have key := kk w.toInt (by unfold fld; rw [e]; simp [e1, e2]) hi (rng_of w)
  rw [Int32.ofInt_toInt, ← e2] at key
  exact z_get hc hf hdg e e1 key
theorem tw_getO {C : String} {TT : u_T} {N ci cj index k a p q : Nat} {ty : Nat → FieldType} (hW : WT G B τ cs) (h0 : τ a = some (.inl (ci, p))) (h5 : ci ≠ 5) (h1 : ci < 100) (ht : (fT ci p)[k]? = some (.inr (.inl (cj, q)))) (hc : xCl ci C TT N ty) (hf : xFl own index TT N k) (hdg : decode cc pc = .ok (.getfield index, 3)) (kk : ∀ b p, τ b = some (.inl (cj, p)) → Z (own, cc, nL, ret, ini) G d Post (pc + 3) L (.ref (G.1 + b) :: rest) cs) : Z (own, cc, nL, ret, ini) G d Post (pc) L (.ref (G.1 + a) :: rest) cs := by
  obtain ⟨vs, e, hF⟩ := hW.2.2.2.2.1 a ci p h0 h5 h1
  obtain ⟨v, e1, b, e2, p, hb⟩ := hF.2 k _ ht
  have key := kk b p hb
  rw [← e2] at key
  exact z_get hc hf hdg e e1 key
theorem tw_getA {C : String} {TT : u_T} {N ci index k a p : Nat} {q : Nat × Nat × Int × Int} {ty : Nat → FieldType} (hW : WT G B τ cs) (h0 : τ a = some (.inl (ci, p))) (h5 : ci ≠ 5) (h1 : ci < 100) (ht : (fT ci p)[k]? = some (.inr (.inr q))) (hc : xCl ci C TT N ty) (hf : xFl own index TT N k) (hdg : decode cc pc = .ok (.getfield index, 3)) (kk : ∀ b, G.1 + b = fldR cs a k → τ b = some (.inr q) → Z (own, cc, nL, ret, ini) G d Post (pc + 3) L (.ref (G.1 + b) :: rest) cs) : Z (own, cc, nL, ret, ini) G d Post (pc) L (.ref (G.1 + a) :: rest) cs := by
  obtain ⟨vs, e, hF⟩ := hW.2.2.2.2.1 a ci p h0 h5 h1
  obtain ⟨v, e1, b, e2, hb⟩ := hF.2 k _ ht
  have key := kk b (by unfold fldR; rw [e]; simp [e1, e2]) hb
  rw [← e2] at key
  exact z_get hc hf hdg e e1 key
theorem tw_putI {C : String} {TT : u_T} {N ci index k a p : Nat} {ty : Nat → FieldType} {lo hi v : Int} (hW : WT G B τ cs) (hX : Fx W τ0 c0 τ cs) (h0 : τ a = some (.inl (ci, p))) (h5 : ci ≠ 5) (h1 : ci < 100) (ht : (fT ci p)[k]? = some (.inl (lo, hi))) (hc : xCl ci C TT N ty) (hf : xFl own index TT N k) (hdg : decode cc pc = .ok (.putfield index, 3)) (hfin : (TT k).2.2.2 = false) (hn : narrow (ty k) (.int (Int32.ofInt v)) = .int (Int32.ofInt v)) (hfit : fits (ty k) (.int (Int32.ofInt v)) = true) (hv : iv lo hi (Int32.ofInt v).toInt) (hw : ci ∈ W)
    (hT : ∀ c1 : List va_E, (∀ b, b ≠ a → c1[b]? = cs[b]?) → (∀ j, j ≠ k → fld c1 a j = fld cs a j) → fld c1 a k = (Int32.ofInt v).toInt → TR c1) (kk : ∀ cs1 : List va_E, WT G B τ cs1 → Fx W τ0 c0 τ cs1 → fld cs1 a k = (Int32.ofInt v).toInt → (∀ j, j ≠ k → fld cs1 a j = fld cs a j) → (∀ b, b ≠ a → cs1[b]? = cs[b]?) → Z (own, cc, nL, ret, ini) G d Post (pc + 3) L (rest) cs1) : Z (own, cc, nL, ret, ini) G d Post (pc) L (.int (Int32.ofInt v) :: .ref (G.1 + a) :: rest) cs := by
  obtain ⟨vs, e, hF⟩ := hW.2.2.2.2.1 a ci p h0 h5 h1
  have hk : k < vs.length := by rw [hF.1]; exact (List.getElem?_eq_some_iff.mp ht).1
  have hj : fld (cs.set a (.inr (ci, vs.set k (.int (Int32.ofInt v))))) a k = (Int32.ofInt v).toInt := by
    unfold fld
    rw [set_at e]
    simp [hk]
  have hjn : ∀ j, j ≠ k → fld (cs.set a (.inr (ci, vs.set k (.int (Int32.ofInt v))))) a j = fld cs a j := fun j hj => by
    unfold fld
    rw [set_at e, e]
    show (match (vs.set k _)[j]? with | some (.int x) => x.toInt | _ => 0) = _
    rw [List.getElem?_set_ne (Ne.symm hj)]
  refine z_put hc hf hdg hfin e hn hfit hk (kk _ (hW.set h0 (fun ci' p' q => by cases q; exact ⟨h5, h1⟩) e rfl (fun _ _ _ _ q => by cases q) (fun ci' p' q => by
      cases q
      refine ⟨_, rfl, by rw [List.length_set]; exact hF.1, fun j t g => ?_⟩
      by_cases q : k = j
      · subst q
        rw [ht] at g
        cases g
        exact ⟨_, List.getElem?_set_self hk, _, rfl, hv⟩
      · obtain ⟨v', e1, e2⟩ := hF.2 j t g
        exact ⟨v', (List.getElem?_set_ne q).trans e1, e2⟩) (hT _ (fun b hb => List.getElem?_set_ne (Ne.symm hb)) hjn hj)) (hX.set h0 (fun ci' p' q => by cases q; rw [show gC ci = ci from if_pos h1]; exact hw) (fun _ q => by cases q)) hj hjn (fun b hb => List.getElem?_set_ne (Ne.symm hb)))
theorem tw_putR {C : String} {TT : u_T} {N ci index k a b p : Nat} {t : Ty} {ty : Nat → FieldType} (hW : WT G B τ cs) (hX : Fx W τ0 c0 τ cs) (h0 : τ a = some (.inl (ci, p))) (h5 : ci ≠ 5) (h1 : ci < 100) (ht : (fT ci p)[k]? = some (.inr t)) (hc : xCl ci C TT N ty) (hf : xFl own index TT N k) (hdg : decode cc pc = .ok (.putfield index, 3)) (hfin : (TT k).2.2.2 = false) (hn : narrow (ty k) (.ref (G.1 + b)) = .ref (G.1 + b)) (hfit : fits (ty k) (.ref (G.1 + b)) = true) (hb : rT τ b t) (hw : ci ∈ W)
    (hT : ∀ c1 : List va_E, (∀ b, b ≠ a → c1[b]? = cs[b]?) → (∀ j, j ≠ k → fld c1 a j = fld cs a j) → TR c1) (kk : ∀ cs1 : List va_E, WT G B τ cs1 → Fx W τ0 c0 τ cs1 → Z (own, cc, nL, ret, ini) G d Post (pc + 3) L (rest) cs1) : Z (own, cc, nL, ret, ini) G d Post (pc) L (.ref (G.1 + b) :: .ref (G.1 + a) :: rest) cs := by
  obtain ⟨vs, e, hF⟩ := hW.2.2.2.2.1 a ci p h0 h5 h1
  have hk : k < vs.length := by rw [hF.1]; exact (List.getElem?_eq_some_iff.mp ht).1
  refine z_put hc hf hdg hfin e hn hfit hk (kk _ (hW.set h0 (fun ci' p' q => by cases q; exact ⟨h5, h1⟩) e rfl (fun _ _ _ _ q => by cases q) (fun ci' p' q => by
      cases q
      refine ⟨_, rfl, by rw [List.length_set]; exact hF.1, fun j t' g => ?_⟩
      by_cases q : k = j
      · subst q
        rw [ht] at g
        cases g
        exact ⟨_, List.getElem?_set_self hk, b, rfl, hb⟩
      · obtain ⟨v', e1, e2⟩ := hF.2 j t' g
        exact ⟨v', (List.getElem?_set_ne q).trans e1, e2⟩) (hT _ (fun b hb => List.getElem?_set_ne (Ne.symm hb)) (fun j hj => ?_))) (hX.set h0 (fun ci' p' q => by cases q; rw [show gC ci = ci from if_pos h1]; exact hw) (fun _ q => by cases q)))
  unfold fld
  rw [set_at e, e]
  show (match (vs.set k _)[j]? with | some (.int x) => x.toInt | _ => 0) = _
  rw [List.getElem?_set_ne (Ne.symm hj)]
/-- an object that is not the tree -/
theorem nT {a ci p : Nat} (hW : WT G B τ cs) (h0 : τ a = some (.inl (ci, p))) (h6 : ci ≠ 6) : ∀ c1 : List va_E, (∀ b, b ≠ a → c1[b]? = cs[b]?) → TR c1 := by
  intro c1 hc
  obtain ⟨u1, ⟨p3, u2⟩, u3, u4, u5, u6, -⟩ := hW.2.1
  exact hW.2.2.2.2.2.1.ne (hc 3 fun q => by subst q; rw [h0] at u2; cases u2; exact h6 rfl) (hc 11 fun q => by subst q; rw [h0] at u4; cases u4) (hc 12 fun q => by subst q; rw [h0] at u6; cases u6)
/-- an array that is not one of the tree's two -/
theorem nA {a : Nat} {q : Nat × Nat × Int × Int} (hW : WT G B τ cs) (h0 : τ a = some (.inr q)) (h1 : q.2.2.2 ≠ 600) (h2 : q.2.2.2 ≠ 601) : ∀ c1 : List va_E, (∀ b, b ≠ a → c1[b]? = cs[b]?) → TR c1 := by
  intro c1 hc
  obtain ⟨u1, ⟨p3, u2⟩, u3, u4, u5, u6, -⟩ := hW.2.1
  exact hW.2.2.2.2.2.1.ne (hc 3 fun q => by subst q; rw [h0] at u2; cases u2) (hc 11 fun q => by subst q; rw [h0] at u4; cases u4; exact h1 rfl) (hc 12 fun q => by subst q; rw [h0] at u6; cases u6; exact h2 rfl)
theorem tw_alen {a k n t0 : Nat} {lo hi : Int} {fty : FieldType} (hW : WT G B τ cs) (h0 : τ a = some (.inr (k, n, lo, hi))) (ht : (xTy G)[t0]? = some (G.2.2.1 k, fty)) (hdg : decode cc pc = .ok (.arraylength, 1)) (kk : ∀ x : Int, x = (n : Int) → rng x → Z (own, cc, nL, ret, ini) G d Post (pc + 1) L (.int (Int32.ofInt x) :: rest) cs) : Z (own, cc, nL, ret, ini) G d Post (pc) L (.ref (G.1 + a) :: rest) cs := by
  obtain ⟨hn, f, e, hf⟩ := hW.2.2.2.1 a k n lo hi h0
  exact z_alen hdg e ht (by rfl) (kk n rfl ⟨by omega, by omega⟩)
theorem tw_iald {a n : Nat} {lo hi i : Int} (hW : WT G B τ cs) (h0 : τ a = some (.inr (0, n, lo, hi))) (g0 : 0 ≤ i) (g1 : i < (n : Int)) (hdg : decode cc pc = .ok (.iaload, 1)) (kk : ∀ x : Int, x = elt cs a i → iv lo hi x → rng x → Z (own, cc, nL, ret, ini) G d Post (pc + 1) L (.int (Int32.ofInt x) :: rest) cs) : Z (own, cc, nL, ret, ini) G d Post (pc) L (.int (Int32.ofInt i) :: .ref (G.1 + a) :: rest) cs := by
  obtain ⟨hn, f, e, hf⟩ := hW.2.2.2.1 a 0 n lo hi h0
  have key := kk (f i.toNat).toInt (by unfold elt; rw [e]) (hf _) (rng_of _)
  rw [Int32.ofInt_toInt] at key
  refine z_iald hdg e (oI_in g0 g1 hn) ?_
  rw [oI_cl g0 g1 hn]
  exact key
theorem tw_cald {a n : Nat} {lo hi i : Int} (hW : WT G B τ cs) (h0 : τ a = some (.inr (1, n, lo, hi))) (g0 : 0 ≤ i) (g1 : i < (n : Int)) (hdg : decode cc pc = .ok (.caload, 1)) (kk : ∀ x : Int, x = elt cs a i → iv lo hi x → rng x → Z (own, cc, nL, ret, ini) G d Post (pc + 1) L (.int (Int32.ofInt x) :: rest) cs) : Z (own, cc, nL, ret, ini) G d Post (pc) L (.int (Int32.ofInt i) :: .ref (G.1 + a) :: rest) cs := by
  obtain ⟨hn, f, e, hf⟩ := hW.2.2.2.1 a 1 n lo hi h0
  have key := kk (f i.toNat).toInt (by unfold elt; rw [e]) (hf _) (rng_of _)
  rw [Int32.ofInt_toInt] at key
  refine z_cald hdg e (oI_in g0 g1 hn) ?_
  rw [oI_cl g0 g1 hn]
  exact key
theorem tw_zald {a n : Nat} {lo hi i : Int} (hW : WT G B τ cs) (h0 : τ a = some (.inr (2, n, lo, hi))) (g0 : 0 ≤ i) (g1 : i < (n : Int)) (hdg : decode cc pc = .ok (.baload, 1)) (kk : ∀ x : Int, x = elt cs a i → iv lo hi x → rng x → Z (own, cc, nL, ret, ini) G d Post (pc + 1) L (.int (Int32.ofInt x) :: rest) cs) : Z (own, cc, nL, ret, ini) G d Post (pc) L (.int (Int32.ofInt i) :: .ref (G.1 + a) :: rest) cs := by
  obtain ⟨hn, f, e, hf⟩ := hW.2.2.2.1 a 2 n lo hi h0
  have key := kk (f i.toNat).toInt (by unfold elt; rw [e]) (hf _) (rng_of _)
  rw [Int32.ofInt_toInt] at key
  refine z_zald hdg e (oI_in g0 g1 hn) ?_
  rw [oI_cl g0 g1 hn]
  exact key
theorem tw_iast {a n : Nat} {lo hi i v : Int} (hW : WT G B τ cs) (hX : Fx W τ0 c0 τ cs) (h0 : τ a = some (.inr (0, n, lo, hi))) (g0 : 0 ≤ i) (g1 : i < (n : Int)) (hv : iv lo hi (Int32.ofInt v).toInt) (hg : gA (0, n, lo, hi) = 99 ∨ gA (0, n, lo, hi) ∈ W) (hdg : decode cc pc = .ok (.iastore, 1)) (hT : ∀ c1 : List va_E, (∀ b, b ≠ a → c1[b]? = cs[b]?) → (∀ j : Int, 0 ≤ j → (j = i ∧ elt c1 a j = (Int32.ofInt v).toInt) ∨ (¬ j = i ∧ elt c1 a j = elt cs a j)) → TR c1) (kk : ∀ cs1 : List va_E, WT G B τ cs1 → Fx W τ0 c0 τ cs1 → (∀ b, b ≠ a → cs1[b]? = cs[b]?) → (∀ j : Int, 0 ≤ j → (j = i ∧ elt cs1 a j = (Int32.ofInt v).toInt) ∨ (¬ j = i ∧ elt cs1 a j = elt cs a j)) → Z (own, cc, nL, ret, ini) G d Post (pc + 1) L (rest) cs1) : Z (own, cc, nL, ret, ini) G d Post (pc) L (.int (Int32.ofInt v) :: .int (Int32.ofInt i) :: .ref (G.1 + a) :: rest) cs := by
  obtain ⟨hn, f, e, hf⟩ := hW.2.2.2.1 a 0 n lo hi h0
  have hel : ∀ j : Int, 0 ≤ j → (j = i ∧ elt (cs.set a (.inl (G.2.2.1 0, n, .inl (upd f (Int32.ofInt i).toNatClampNeg (Int32.ofInt v))))) a j = (Int32.ofInt v).toInt) ∨ (¬ j = i ∧ elt (cs.set a (.inl (G.2.2.1 0, n, .inl (upd f (Int32.ofInt i).toNatClampNeg (Int32.ofInt v))))) a j = elt cs a j) := fun j hj => by
    unfold elt
    rw [set_at e, e, oI_cl g0 g1 hn]
    show (j = i ∧ (upd f i.toNat _ j.toNat).toInt = _) ∨ (¬ j = i ∧ (upd f i.toNat _ j.toNat).toInt = _)
    unfold upd
    by_cases q : j = i
    · rw [if_pos (by rw [q])]
      exact Or.inl ⟨q, rfl⟩
    · rw [if_neg (by omega)]
      exact Or.inr ⟨q, rfl⟩
  refine z_iast hdg e (oI_in g0 g1 hn) (kk _ (hW.set h0 (fun _ _ q => by cases q) e rfl (fun k' n' lo' hi' q => by
      cases q
      refine ⟨_, rfl, fun j => ?_⟩
      unfold upd
      by_cases q : j = (Int32.ofInt i).toNatClampNeg
      · rw [if_pos q]; exact hv
      · rw [if_neg q]; exact hf j) (fun _ _ q => by cases q) (hT _ (fun b hb => List.getElem?_set_ne (Ne.symm hb)) hel)) (hX.set h0 (fun _ _ q => by cases q) (fun _ q => by cases q; exact hg)) (fun b hb => List.getElem?_set_ne (Ne.symm hb)) hel)
theorem tw_zast {a n : Nat} {lo hi i v : Int} (hW : WT G B τ cs) (hX : Fx W τ0 c0 τ cs) (h0 : τ a = some (.inr (2, n, lo, hi))) (g0 : 0 ≤ i) (g1 : i < (n : Int)) (hv : iv lo hi (vp_nar .boolean (Int32.ofInt v)).toInt) (hg : gA (2, n, lo, hi) = 99 ∨ gA (2, n, lo, hi) ∈ W) (hdg : decode cc pc = .ok (.bastore, 1)) (hT : ∀ c1 : List va_E, (∀ b, b ≠ a → c1[b]? = cs[b]?) → (∀ j : Int, 0 ≤ j → (j = i ∧ elt c1 a j = (vp_nar .boolean (Int32.ofInt v)).toInt) ∨ (¬ j = i ∧ elt c1 a j = elt cs a j)) → TR c1) (kk : ∀ cs1 : List va_E, WT G B τ cs1 → Fx W τ0 c0 τ cs1 → (∀ b, b ≠ a → cs1[b]? = cs[b]?) → (∀ j : Int, 0 ≤ j → (j = i ∧ elt cs1 a j = (vp_nar .boolean (Int32.ofInt v)).toInt) ∨ (¬ j = i ∧ elt cs1 a j = elt cs a j)) → Z (own, cc, nL, ret, ini) G d Post (pc + 1) L (rest) cs1) : Z (own, cc, nL, ret, ini) G d Post (pc) L (.int (Int32.ofInt v) :: .int (Int32.ofInt i) :: .ref (G.1 + a) :: rest) cs := by
  obtain ⟨hn, f, e, hf⟩ := hW.2.2.2.1 a 2 n lo hi h0
  have hel : ∀ j : Int, 0 ≤ j → (j = i ∧ elt (cs.set a (.inl (G.2.2.1 2, n, .inl (upd f (Int32.ofInt i).toNatClampNeg (vp_nar .boolean (Int32.ofInt v)))))) a j = (vp_nar .boolean (Int32.ofInt v)).toInt) ∨ (¬ j = i ∧ elt (cs.set a (.inl (G.2.2.1 2, n, .inl (upd f (Int32.ofInt i).toNatClampNeg (vp_nar .boolean (Int32.ofInt v)))))) a j = elt cs a j) := fun j hj => by
    unfold elt
    rw [set_at e, e, oI_cl g0 g1 hn]
    show (j = i ∧ (upd f i.toNat _ j.toNat).toInt = _) ∨ (¬ j = i ∧ (upd f i.toNat _ j.toNat).toInt = _)
    unfold upd
    by_cases q : j = i
    · rw [if_pos (by rw [q])]
      exact Or.inl ⟨q, rfl⟩
    · rw [if_neg (by omega)]
      exact Or.inr ⟨q, rfl⟩
  refine z_zast hdg e (oI_in g0 g1 hn) (kk _ (hW.set h0 (fun _ _ q => by cases q) e rfl (fun k' n' lo' hi' q => by
      cases q
      refine ⟨_, rfl, fun j => ?_⟩
      unfold upd
      by_cases q : j = (Int32.ofInt i).toNatClampNeg
      · rw [if_pos q]; exact hv
      · rw [if_neg q]; exact hf j) (fun _ _ q => by cases q) (hT _ (fun b hb => List.getElem?_set_ne (Ne.symm hb)) hel)) (hX.set h0 (fun _ _ q => by cases q) (fun _ q => by cases q; exact hg)) (fun b hb => List.getElem?_set_ne (Ne.symm hb)) hel)
theorem fld_fr {o a k : Nat} {c1 : List va_E} {q : Nat × Nat} {r : Nat × Nat × Int × Int} (h : ∀ b, b ≠ a → c1[b]? = cs[b]?) (ho : τ o = some (.inl q)) (ha : τ a = some (.inr r)) : fld c1 o k = fld cs o k := by
  unfold fld
  rw [h o fun e => by subst e; rw [ho] at ha; cases ha]
/-- a place behind the last element of the tree is written -/
theorem TR_11 {i : Int} {c1 : List va_E} {w : Int} (hW : WT G B τ cs) (h : ∀ b, b ≠ 11 → c1[b]? = cs[b]?) (he : ∀ j : Int, 0 ≤ j → (j = i ∧ elt c1 11 j = w) ∨ (¬ j = i ∧ elt c1 11 j = elt cs 11 j)) (hi : fld cs 3 16 ≤ i) : TR c1 := by
  have h6 := hW.2.2.2.2.2.1
  intro e e0 e1
  have q3 : c1[3]? = cs[3]? := h 3 (by decide)
  have a1 : fld c1 3 16 = fld cs 3 16 := by unfold fld; rw [q3]
  have a2 : fld c1 3 17 = fld cs 3 17 := by unfold fld; rw [q3]
  have a3 : elt c1 12 e = elt cs 12 e := by unfold elt; rw [h 12 (by decide)]
  have a4 := he e e0
  have a5 := h6 e e0 (by omega)
  omega
theorem TR_12 {i : Int} {c1 : List va_E} {w : Int} (hW : WT G B τ cs) (h : ∀ b, b ≠ 12 → c1[b]? = cs[b]?) (he : ∀ j : Int, 0 ≤ j → (j = i ∧ elt c1 12 j = w) ∨ (¬ j = i ∧ elt c1 12 j = elt cs 12 j)) (hi : fld cs 3 16 ≤ i ∨ elt cs 11 i + w ≤ fld cs 3 17) : TR c1 := by
  have h6 := hW.2.2.2.2.2.1
  intro e e0 e1
  have q3 : c1[3]? = cs[3]? := h 3 (by decide)
  have a1 : fld c1 3 16 = fld cs 3 16 := by unfold fld; rw [q3]
  have a2 : fld c1 3 17 = fld cs 3 17 := by unfold fld; rw [q3]
  have a3 : elt c1 11 e = elt cs 11 e := by unfold elt; rw [h 11 (by decide)]
  have a4 := he e e0
  have a5 := h6 e e0 (by omega)
  by_cases q : e = i
  · subst q
    omega
  · omega
theorem TR_s {c1 : List va_E} (hW : WT G B τ cs) (h : ∀ b, b ≠ 3 → c1[b]? = cs[b]?) (hm : ∀ e : Int, 0 ≤ e → e < fld c1 3 16 → elt cs 11 e + elt cs 12 e ≤ fld c1 3 17) : TR c1 := by
  intro e e0 e1
  have a3 : elt c1 11 e = elt cs 11 e := by unfold elt; rw [h 11 (by decide)]
  have a4 : elt c1 12 e = elt cs 12 e := by unfold elt; rw [h 12 (by decide)]
  have := hm e e0 e1
  omega
theorem WT.fiv {ci k a p : Nat} {lo hi : Int} (hW : WT G B τ cs) (h0 : τ a = some (.inl (ci, p))) (h5 : ci ≠ 5) (h1 : ci < 100) (ht : (fT ci p)[k]? = some (.inl (lo, hi))) : iv lo hi (fld cs a k) := by
  obtain ⟨vs, e, hF⟩ := hW.2.2.2.2.1 a ci p h0 h5 h1
  obtain ⟨v, e1, w, e2, hi⟩ := hF.2 k _ ht
  have : fld cs a k = w.toInt := by unfold fld; rw [e]; simp [e1, e2]
  rw [this]
  exact hi
theorem WT.eiv {a k n : Nat} {lo hi : Int} (hW : WT G B τ cs) (h0 : τ a = some (.inr (k, n, lo, hi))) (i : Int) : iv lo hi (elt cs a i) := by
  obtain ⟨hn, f, e, hf⟩ := hW.2.2.2.1 a k n lo hi h0
  have : elt cs a i = (f i.toNat).toInt := by unfold elt; rw [e]
  rw [this]
  exact hf _
theorem elt_c {b : Nat} {i : Int} {c1 : List va_E} (h : c1[b]? = cs[b]?) : elt c1 b i = elt cs b i := by
  unfold elt
  rw [h]
theorem TR_text {a p : Nat} {c1 : List va_E} (hW : WT G B τ cs) (h0 : τ a = some (.inl (6, p))) (q : ∀ b, b ≠ a → c1[b]? = cs[b]?) (qj : ∀ j, j ≠ 1 → fld c1 a j = fld cs a j) : TR c1 := by
  obtain rfl := hW.2.1.1 _ _ h0
  refine TR_s hW q fun e e0 e1 => ?_
  rw [qj 16 (by decide)] at e1
  rw [qj 17 (by decide)]
  exact hW.2.2.2.2.2.1 e e0 e1
theorem TR_sz0 {a p : Nat} {c1 : List va_E} (hW : WT G B τ cs) (h0 : τ a = some (.inl (6, p))) (q : ∀ b, b ≠ a → c1[b]? = cs[b]?) (qv : fld c1 a 16 = 0) : TR c1 := by
  obtain rfl := hW.2.1.1 _ _ h0
  refine TR_s hW q fun e e0 e1 => ?_
  omega
theorem TR_sz {a p : Nat} {c1 : List va_E} {x : Int} (hW : WT G B τ cs) (h0 : τ a = some (.inl (6, p))) (q : ∀ b, b ≠ a → c1[b]? = cs[b]?) (qj : ∀ j, j ≠ 16 → fld c1 a j = fld cs a j) (hx : fld cs a 16 = x) (qv : fld c1 a 16 = x + 1) (h : elt cs 11 x + elt cs 12 x ≤ fld cs a 17) : TR c1 := by
  obtain rfl := hW.2.1.1 _ _ h0
  refine TR_s hW q fun e e0 e1 => ?_
  rw [qj 17 (by decide)]
  by_cases k : e = x
  · rw [k]; exact h
  · exact hW.2.2.2.2.2.1 e e0 (by omega)
theorem TR_as {a p : Nat} {c1 : List va_E} (hW : WT G B τ cs) (h0 : τ a = some (.inl (6, p))) (q : ∀ b, b ≠ a → c1[b]? = cs[b]?) (qj : ∀ j, j ≠ 17 → fld c1 a j = fld cs a j) (qv : fld cs a 17 ≤ fld c1 a 17 ∨ fld cs a 16 = 0) : TR c1 := by
  obtain rfl := hW.2.1.1 _ _ h0
  refine TR_s hW q fun e e0 e1 => ?_
  rw [qj 16 (by decide)] at e1
  have := hW.2.2.2.2.2.1 e e0 e1
  omega
end ZT

