/-! THE CLASS BY TYPES: a cell of the class has a type: an object's class (and a number that its type hangs on: of a Signs how long its row is, of a Meaning how many elements it has, of the class itself its limit), or an array's kind, length and the bounds of its elements. The rows of Signs have the class 100 + the cell of their Signs. Cells without a type are not the class's. -/
abbrev Ty : Type := (Nat × Nat) ⊕ (Nat × Nat × Int × Int)
abbrev FT : Type := (Int × Int) ⊕ Ty
abbrev Tau : Type := Nat → Option Ty
def oT (τ : Tau) (a ci : Nat) : Prop := ∃ p, τ a = some (.inl (ci, p))
def rT (τ : Tau) (a : Nat) : Ty → Prop
  | .inl q => oT τ a q.1
  | .inr q => τ a = some (.inr q)
def fT (ci p : Nat) : List FT := match ci with
  | 0 => [.inr (.inl (5, 0)), .inr (.inl (4, 0)), .inl ((-2147483648), 2147483647)]
  | 1 => [.inr (.inr (0, 30, (-2147483648), 2147483648)), .inr (.inr (0, 120, (-2147483648), 2147483648)), .inr (.inr (0, 2400, (-2147483648), 2147483648)), .inl (0, 30)]
  | 2 => [.inr (.inl (4, 0)), .inr (.inl (1, 0)), .inr (.inl (1, 0)), .inr (.inr (0, 30, (-2147483648), 2147483647)), .inr (.inr (0, 30, (-2147483648), 2147483647)), .inr (.inr (0, 30, 0, 29)), .inl (0, 30)]
  | 3 => [.inr (.inl (4, 0)), .inr (.inl (6, 0)), .inr (.inl (5, 0)), .inr (.inl (5, 0)), .inr (.inl (1, 0)), .inr (.inl (7, 0)), .inr (.inr (0, p, (-2147483648), 2147483647)), .inr (.inr (0, p, 0, 29)), .inr (.inr (0, p, (-2147483648), 2147483647)), .inr (.inr (0, p, (-2147483648), 2147483647)), .inr (.inr (0, p, (-2147483648), 2147483647)), .inr (.inr (0, 30, (-2147483648), 2147483647))]
  | 4 => [.inr (.inr (1, 480, 0, 65535)), .inr (.inr (0, 30, 0, 16)), .inr (.inr (0, 24, (-2147483648), 2147483649)), .inr (.inr (2, 24, 0, 1)), .inr (.inr (0, 6, 0, 4)), .inr (.inr (0, 6, (-2147483648), 2147483649)), .inr (.inr (0, 6, (-2147483648), 2147483649)), .inr (.inr (2, 6, 0, 1)), .inl (0, 6)]
  | 6 => [.inr (.inl (5, 0)), .inr (.inl (5, 0)), .inr (.inr (0, 200, (-2147483648), 2147483647)), .inr (.inr (0, 200, (-2147483648), 2147483647)), .inr (.inr (0, 200, (-2147483648), 2147483647)), .inr (.inr (0, 200, (-1), 199)), .inr (.inr (0, 200, (-2147483648), 2147483647)), .inr (.inr (0, 200, 0, 600)), .inr (.inr (0, 200, 0, 601)), .inr (.inr (0, 200, (-2147483648), 2147483647)), .inr (.inr (0, 200, (-2147483648), 2147483647)), .inr (.inr (2, 200, 0, 1)), .inr (.inr (0, 600, (-2147483648), 2147483647)), .inr (.inr (0, 600, (-2147483648), 2147483647)), .inr (.inr (0, 600, (-2147483648), 2147483647)), .inr (.inr (0, 600, 0, 3000)), .inl (0, 200), .inl (0, 600)]
  | 7 => [.inr (.inl (6, 0)), .inr (.inl (5, 0))]
  | 8 => [.inr (.inl (4, 0)), .inr (.inl (1, 0)), .inr (.inl (5, 0)), .inl ((-2147483648), 2147483647), .inl (1, 20), .inr (.inr (0, 30, (-2147483648), 2147483647)), .inr (.inr (0, 30, (-2147483648), 2147483647)), .inr (.inr (0, 30, (-2147483648), 2147483647)), .inr (.inr (0, 30, 0, 7)), .inr (.inr (0, 62, (-2147483648), 2147483647)), .inr (.inr (0, 62, (-2147483648), 2147483647)), .inl ((-2147483648), 2147483647), .inl (0, 1)]
  | 9 => [.inr (.inl (5, 0)), .inr (.inl (6, 0)), .inr (.inl (5, 0)), .inl ((-2147483648), 2147483647), .inl ((-1), 199), .inl ((-2147483648), 2147483647), .inl ((-2147483648), 2147483647)]
  | 10 => [.inr (.inl (5, 0)), .inr (.inl (6, 0)), .inr (.inl (5, 0)), .inr (.inl (5, 0)), .inr (.inl (4, 0)), .inr (.inl (4, 0)), .inr (.inl (1, 0)), .inr (.inl (1, 0)), .inr (.inl (1, 0)), .inl (p, p)]
  | _ => []
def wVl (G : xG) (τ : Tau) : FT → Value → Prop
  | .inl q, v => ∃ x : Int32, v = .int x ∧ iv q.1 q.2 x.toInt
  | .inr t, v => ∃ b : Nat, v = .ref (G.1 + b) ∧ rT τ b t
def wF (G : xG) (τ : Tau) (ts : List FT) (vs : List Value) : Prop := vs.length = ts.length ∧ ∀ (k : Nat) (t : FT), ts[k]? = some t → ∃ v, vs[k]? = some v ∧ wVl G τ t v
def fld (cs : List va_E) (a k : Nat) : Int := match cs[a]? with
  | some (.inr q) => (match q.2[k]? with | some (.int x) => x.toInt | _ => 0)
  | _ => 0
def fldR (cs : List va_E) (a k : Nat) : Nat := match cs[a]? with
  | some (.inr q) => (match q.2[k]? with | some (.ref x) => x | _ => 0)
  | _ => 0
def elt (cs : List va_E) (a : Nat) (i : Int) : Int := match cs[a]? with
  | some (.inl (_, _, .inl f)) => (f i.toNat).toInt
  | _ => 0
/-- the tree: the attributes of an element are attributes -/
def TR (cs : List va_E) : Prop := ∀ e : Int, 0 ≤ e → e < fld cs 3 16 → elt cs 11 e + elt cs 12 e ≤ fld cs 3 17
def nO (τ : Tau) (a : Nat) : Nat := match τ a with
  | some (.inl q) => q.2
  | _ => 0
def rho1 (τ : Tau) (cs : List va_E) : Nat := cs.length + (3000 - nO τ 1) + (3000 - nO τ 4) + (3000 - nO τ 20) + (3000 - nO τ 22)
def rho2 (τ : Tau) (cs : List va_E) : Nat := xZ cs + pz (nO τ 1) + pz (nO τ 4) + pz (nO τ 20) + pz (nO τ 22)
def isS (a : Nat) : Prop := a = 1 ∨ a = 4 ∨ a = 20 ∨ a = 22
/-- what is the same of every typing: where the tree lies -/
def wU (τ : Tau) : Prop := (∀ a p, τ a = some (.inl (6, p)) → a = 3) ∧ oT τ 3 6 ∧ (∀ a, τ a = some (.inr (0, 200, 0, 600)) → a = 11) ∧ τ 11 = some (.inr (0, 200, 0, 600)) ∧ (∀ a, τ a = some (.inr (0, 200, 0, 601)) → a = 12) ∧ τ 12 = some (.inr (0, 200, 0, 601)) ∧ (∀ a p, τ a = some (.inl (3, p)) → p ≤ 200) ∧ (∀ a p, τ a = some (.inl (10, p)) → 1 ≤ p ∧ p ≤ 20) ∧ (∀ a n, τ a = some (.inl (5, n)) → isS a) ∧ (∀ a, isS a → oT τ a 5 ∨ τ a = none) ∧ ∃ c t, 23 ≤ c ∧ τ c = some t
def wS (G : xG) (τ : Tau) (cs : List va_E) : Prop := ∀ a n, τ a = some (.inl (5, n)) → ∃ r t ov, Sg G cs a r n t ov ∧ τ r = some (.inl (100 + a, 0))
def wA (G : xG) (τ : Tau) (cs : List va_E) : Prop := ∀ a k n lo hi, τ a = some (.inr (k, n, lo, hi)) → n < 2147483648 ∧ ∃ f : Nat → Int32, cs[a]? = some (.inl (G.2.2.1 k, n, .inl f)) ∧ ∀ i, iv lo hi (f i).toInt
def wO (G : xG) (τ : Tau) (cs : List va_E) : Prop := ∀ a ci p, τ a = some (.inl (ci, p)) → ci ≠ 5 → ci < 100 → ∃ vs, cs[a]? = some (.inr (ci, vs)) ∧ wF G τ (fT ci p) vs
def WT (G : xG) (B : Nat × Nat) (τ : Tau) (cs : List va_E) : Prop := (∀ a t, τ a = some t → a < cs.length) ∧ wU τ ∧ wS G τ cs ∧ wA G τ cs ∧ wO G τ cs ∧ TR cs ∧ (rho1 τ cs ≤ B.1 ∧ rho2 τ cs ≤ B.2 ∧ B.1 ≤ 600000 ∧ B.2 ≤ 7302250)
/-- types stay; only a Signs' row may be another -/
def Sub (τ τ1 : Tau) : Prop := (∀ a q, τ a = some (.inr q) → τ1 a = some (.inr q)) ∧ (∀ a ci p, τ a = some (.inl (ci, p)) → ∃ p1, τ1 a = some (.inl (ci, p1)) ∧ (ci = 5 ∨ p1 = p))
/-- whose a cell is: of a row its Signs' class, of an array of Heap or Schema that class -/
def gC (ci : Nat) : Nat := if ci < 100 then ci else 5
def gA (q : Nat × Nat × Int × Int) : Nat := if q.2.2.2 = 2147483648 then 1 else if q.2.2.2 = 2147483649 ∨ q.1 = 1 ∨ q.2.2.2 = 16 ∨ q.2.2.2 = 4 ∨ (q.1 = 2 ∧ q.2.1 ≠ 200) then 4 else 99
/-- what a call leaves: types, cells without a type, what belongs to classes that are not in W -/
def Fx (W : List Nat) (τ : Tau) (cs : List va_E) (τ1 : Tau) (cs1 : List va_E) : Prop := Sub τ τ1 ∧ cs.length ≤ cs1.length ∧ (∀ a, a < cs.length → τ a = none → cs1[a]? = cs[a]? ∧ τ1 a = none) ∧ (∀ a ci p, τ a = some (.inl (ci, p)) → gC ci ∉ W → cs1[a]? = cs[a]?) ∧ ∀ a q, τ a = some (.inr q) → gA q ≠ 99 → gA q ∉ W → cs1[a]? = cs[a]?
theorem Sub.rf {τ : Tau} : Sub τ τ := ⟨fun _ _ h => h, fun _ _ p h => ⟨p, h, Or.inr rfl⟩⟩
theorem Sub.tr {τ τ1 τ2 : Tau} (h : Sub τ τ1) (k : Sub τ1 τ2) : Sub τ τ2 := by
  refine ⟨fun a q e => k.1 a q (h.1 a q e), fun a ci p e => ?_⟩
  obtain ⟨p1, e1, c1⟩ := h.2 a ci p e
  obtain ⟨p2, e2, c2⟩ := k.2 a ci p1 e1
  exact ⟨p2, e2, by omega⟩
theorem Sub.ex {τ τ1 : Tau} (h : Sub τ τ1) (k : ∃ c t, 23 ≤ c ∧ τ c = some t) : ∃ c t, 23 ≤ c ∧ τ1 c = some t := by
  obtain ⟨c, t, hc, ht⟩ := k
  cases t with
  | inl q =>
    obtain ⟨p1, e, -⟩ := h.2 c q.1 q.2 ht
    exact ⟨c, _, hc, e⟩
  | inr q => exact ⟨c, _, hc, h.1 c q ht⟩
theorem Sub.e {τ τ1 : Tau} (h : Sub τ τ1) {a ci p : Nat} (e : τ a = some (.inl (ci, p))) (hc : ci ≠ 5) : τ1 a = some (.inl (ci, p)) := by
  obtain ⟨p1, e1, c1⟩ := h.2 a ci p e
  rw [e1, c1.resolve_left hc]
theorem Sub.s {τ τ1 : Tau} (h : Sub τ τ1) {a ci : Nat} (e : oT τ a ci) : oT τ1 a ci := by
  obtain ⟨p, e⟩ := e
  obtain ⟨p1, e1, c1⟩ := h.2 a ci p e
  exact ⟨p1, e1⟩
theorem Sub.a {τ τ1 : Tau} (h : Sub τ τ1) {a : Nat} {q : Nat × Nat × Int × Int} (e : τ a = some (.inr q)) : τ1 a = some (.inr q) := h.1 a q e
theorem Sub.rT {τ τ1 : Tau} (h : Sub τ τ1) {a : Nat} {t : Ty} (e : rT τ a t) : rT τ1 a t := by
  cases t with
  | inl q => exact h.s e
  | inr q => exact h.a e
theorem Fx.rf {W : List Nat} {τ : Tau} {cs : List va_E} : Fx W τ cs τ cs := ⟨Sub.rf, Nat.le_refl _, fun _ _ h => ⟨rfl, h⟩, fun _ _ _ _ _ => rfl, fun _ _ _ _ _ => rfl⟩
theorem Fx.tr {W W1 : List Nat} {τ τ1 τ2 : Tau} {c c1 c2 : List va_E} (h : Fx W τ c τ1 c1) (k : Fx W1 τ1 c1 τ2 c2) (hw : ∀ x ∈ W1, x ∈ W) : Fx W τ c τ2 c2 := by
  refine ⟨h.1.tr k.1, Nat.le_trans h.2.1 k.2.1, fun a ha e => ?_, fun a ci p e hn => ?_, fun a q e h9 hn => ?_⟩
  · obtain ⟨e1, e2⟩ := h.2.2.1 a ha e
    obtain ⟨e3, e4⟩ := k.2.2.1 a (Nat.lt_of_lt_of_le ha h.2.1) e2
    exact ⟨e3.trans e1, e4⟩
  · obtain ⟨p1, e1, -⟩ := h.1.2 a ci p e
    exact (k.2.2.2.1 a ci p1 e1 (fun q => hn (hw _ q))).trans (h.2.2.2.1 a ci p e hn)
  · exact (k.2.2.2.2 a q (h.1.1 a q e) h9 (fun r => hn (hw _ r))).trans (h.2.2.2.2 a q e h9 hn)
theorem rT_s {τ τ1 : Tau} (h : Sub τ τ1) {G : xG} {t : FT} {v : Value} (e : wVl G τ t v) : wVl G τ1 t v := by
  cases t with
  | inl q => exact e
  | inr q =>
    obtain ⟨b, e1, e2⟩ := e
    exact ⟨b, e1, h.rT e2⟩
theorem wF.sub {G : xG} {τ τ1 : Tau} {ts : List FT} {vs : List Value} (h : wF G τ ts vs) (k : Sub τ τ1) : wF G τ1 ts vs := by
  refine ⟨h.1, fun j t e => ?_⟩
  obtain ⟨v, e1, e2⟩ := h.2 j t e
  exact ⟨v, e1, rT_s k e2⟩
theorem WT.ob {G : xG} {B : Nat × Nat} {τ : Tau} {cs : List va_E} {a ci p : Nat} (h : WT G B τ cs) (e : τ a = some (.inl (ci, p))) (h1 : ci < 100) : ∃ fs, cs[a]? = some (.inr (ci, fs)) := by
  by_cases h5 : ci = 5
  · subst h5
    obtain ⟨r, t, ov, ⟨f, e1, -⟩, -⟩ := h.2.2.1 a p e
    exact ⟨_, e1⟩
  · obtain ⟨vs, e1, -⟩ := h.2.2.2.2.1 a ci p e h5 h1
    exact ⟨vs, e1⟩
/-- the tree's own three cells are as they were -/
theorem TR.ne {cs c1 : List va_E} (h : TR cs) (e3 : c1[3]? = cs[3]?) (e11 : c1[11]? = cs[11]?) (e12 : c1[12]? = cs[12]?) : TR c1 := by
  unfold TR fld elt
  rw [e3, e11, e12]
  exact h
theorem TR.set {G : xG} {B : Nat × Nat} {τ : Tau} {cs : List va_E} {a : Nat} {e : va_E} {t : Ty} (h : WT G B τ cs) (ha : τ a = some t) (h6 : ∀ p, t ≠ .inl (6, p)) (h11 : t ≠ .inr (0, 200, 0, 600)) (h12 : t ≠ .inr (0, 200, 0, 601)) : TR (cs.set a e) := by
  obtain ⟨u1, ⟨p3, u2⟩, u3, u4, u5, u6, -⟩ := h.2.1
  refine h.2.2.2.2.2.1.ne ?_ ?_ ?_
  · exact List.getElem?_set_ne fun q => by subst q; rw [ha] at u2; exact h6 p3 (Option.some.inj u2)
  · exact List.getElem?_set_ne fun q => by subst q; rw [ha] at u4; exact h11 (Option.some.inj u4)
  · exact List.getElem?_set_ne fun q => by subst q; rw [ha] at u6; exact h12 (Option.some.inj u6)
/-- a cell that is no Signs and no row gets another content of its type -/
theorem WT.set {G : xG} {B : Nat × Nat} {τ : Tau} {cs : List va_E} {a : Nat} {e0 e : va_E} {t : Ty} (h : WT G B τ cs) (ha : τ a = some t) (hn : ∀ ci p, t = .inl (ci, p) → ci ≠ 5 ∧ ci < 100) (h0 : cs[a]? = some e0) (hz : xSzE e = xSzE e0)
    (hA : ∀ k n lo hi, t = .inr (k, n, lo, hi) → ∃ f : Nat → Int32, e = .inl (G.2.2.1 k, n, .inl f) ∧ ∀ i, iv lo hi (f i).toInt) (hO : ∀ ci p, t = .inl (ci, p) → ∃ vs, e = .inr (ci, vs) ∧ wF G τ (fT ci p) vs) (hT : TR (cs.set a e)) : WT G B τ (cs.set a e) := by
  obtain ⟨h1, h2, h3, h4, h5, h6, h7⟩ := h
  refine ⟨fun b u hb => by rw [List.length_set]; exact h1 b u hb, h2, fun b n hb => ?_, fun b k n lo hi hb => ?_, fun b ci p hb g5 g1 => ?_, hT, ?_⟩
  · obtain ⟨r, tt, ov, ⟨f, q1, q2, q3⟩, hr⟩ := h3 b n hb
    have na : a ≠ b := fun q => by subst q; rw [ha] at hb; exact (hn _ _ (Option.some.inj hb)).1 rfl
    have nr : a ≠ r := fun q => by subst q; rw [ha] at hr; have := (hn _ _ (Option.some.inj hr)).2; omega
    exact ⟨r, tt, ov, ⟨f, (List.getElem?_set_ne na).trans q1, (List.getElem?_set_ne nr).trans q2, q3⟩, hr⟩
  · obtain ⟨hn1, f, q1, q2⟩ := h4 b k n lo hi hb
    refine ⟨hn1, ?_⟩
    by_cases q : a = b
    · subst q
      rw [ha] at hb
      obtain ⟨f', e1, e2⟩ := hA k n lo hi (Option.some.inj hb)
      exact ⟨f', by rw [set_at h0, e1], e2⟩
    · exact ⟨f, (List.getElem?_set_ne q).trans q1, q2⟩
  · obtain ⟨vs, q1, q2⟩ := h5 b ci p hb g5 g1
    by_cases q : a = b
    · subst q
      rw [ha] at hb
      obtain ⟨vs', e1, e2⟩ := hO ci p (Option.some.inj hb)
      exact ⟨vs', by rw [set_at h0, e1], e2⟩
    · exact ⟨vs, (List.getElem?_set_ne q).trans q1, q2⟩
  · unfold rho1 rho2 at *
    rw [List.length_set, xZ_set h0 hz]
    exact h7
theorem Fx.set {W : List Nat} {τ0 τ : Tau} {c0 cs : List va_E} {a : Nat} {e : va_E} {t : Ty} (h : Fx W τ0 c0 τ cs) (ha : τ a = some t) (hw : ∀ ci p, t = .inl (ci, p) → gC ci ∈ W) (hq : ∀ q, t = .inr q → gA q = 99 ∨ gA q ∈ W) : Fx W τ0 c0 τ (cs.set a e) := by
  refine h.tr (W1 := W) ⟨Sub.rf, by simp, fun b hb e1 => ⟨?_, e1⟩, fun b ci p e1 hn => ?_, fun b q e1 h9 hn => ?_⟩ (fun _ q => q)
  · exact List.getElem?_set_ne fun q => by subst q; rw [ha] at e1; cases e1
  · exact List.getElem?_set_ne fun q => by subst q; rw [ha] at e1; exact hn (hw ci p (Option.some.inj e1))
  · exact List.getElem?_set_ne fun k => by subst k; rw [ha] at e1; exact (hq q (Option.some.inj e1)).elim h9 hn
theorem any_ok (x : Int32) : iv (-2147483648) 2147483647 x.toInt := by
  have := rng_of x
  omega
theorem any_okT {hi : Int} (h : 2147483647 ≤ hi) (x : Int32) : iv (-2147483648) hi x.toInt := by
  have := rng_of x
  omega
theorem iv_ok {lo hi v : Int} (h : iv lo hi v) (h1 : -2147483648 ≤ lo) (h2 : hi ≤ 2147483647) : iv lo hi (Int32.ofInt v).toInt := by
  rw [rng_toInt ⟨by omega, by omega⟩]
  exact h
theorem nrm (v : Int) : ∃ z : Int, Int32.ofInt v = Int32.ofInt z ∧ rng z ∧ (rng v → z = v) := ⟨(Int32.ofInt v).toInt, (Int32.ofInt_toInt _).symm, rng_of _, fun h => rng_toInt h⟩
/-- what a method says: rI, rV: it changes nothing; wI, wN: it keeps the types -/
def rI (cs : List va_E) (P : Int → Prop) : xP := fun v c1 => c1 = cs ∧ ∃ r : Int, v = some (.int (Int32.ofInt r)) ∧ rng r ∧ P r
def wI (G : xG) (B : Nat × Nat) (τ : Tau) (cs : List va_E) (W : List Nat) (P : Int → Prop) : xP := fun v c1 => ∃ (τ1 : Tau) (r : Int), v = some (.int (Int32.ofInt r)) ∧ rng r ∧ WT G B τ1 c1 ∧ Fx W τ cs τ1 c1 ∧ P r
def wN (G : xG) (B : Nat × Nat) (τ : Tau) (cs : List va_E) (W : List Nat) : xP := fun v c1 => ∃ τ1 : Tau, v = none ∧ WT G B τ1 c1 ∧ Fx W τ cs τ1 c1
section ZT
variable {own : String} {cc : ByteArray} {nL : Nat} {ret : Option FieldType} {ini : Bool} {G : xG} {d : Nat} {Post : xP} {pc : Nat} {L : List (Nat × Value)} {rest : List Value} {cs c0 : List va_E} {B : Nat × Nat} {τ τ0 : Tau} {W : List Nat}

theorem kz {w : Int32} (kk : ∀ z : Int, rng z → Z (own, cc, nL, ret, ini) G d Post (pc) L (.int (Int32.ofInt z) :: rest) cs) : Z (own, cc, nL, ret, ini) G d Post (pc) L (.int w :: rest) cs := by
  have := kk w.toInt (rng_of w)
  rwa [Int32.ofInt_toInt] at this
theorem tw_look {dflt : Int} {ps : Array (Int × Int)} {len : Nat} {x off : Int} {tgt : Nat} (hdg : decode cc pc = .ok (.lookupswitch dflt ps, len)) (hp : (ps.toList.zip (ps.toList.drop 1)).all (fun (a, next) => a.1 < next.1) = true) (hx : rng x) (ho : Op.lookupswitch.offset ps.toList dflt x = off) (ht : (pc : Int) + off = (tgt : Int)) (kk : Z (own, cc, nL, ret, ini) G d Post (tgt) L (rest) cs) : Z (own, cc, nL, ret, ini) G d Post (pc) L (.int (Int32.ofInt x) :: rest) cs := z_lookup hdg hp (by rw [rng_toInt hx]; exact ho) ht kk
theorem tw_getI {C : String} {TT : u_T} {N ci index k a p : Nat} {ty : Nat → FieldType} {lo hi : Int} (hW : WT G B τ cs) (h0 : τ a = some (.inl (ci, p))) (h5 : ci ≠ 5) (h1 : ci < 100) (ht : (fT ci p)[k]? = some (.inl (lo, hi))) (hc : xCl ci C TT N ty) (hf : xFl own index TT N k) (hdg : decode cc pc = .ok (.getfield index, 3)) (kk : ∀ x : Int, x = fld cs a k → iv lo hi x → rng x → Z (own, cc, nL, ret, ini) G d Post (pc + 3) L (.int (Int32.ofInt x) :: rest) cs) : Z (own, cc, nL, ret, ini) G d Post (pc) L (.ref (G.1 + a) :: rest) cs := by
  obtain ⟨vs, e, hF⟩ := hW.2.2.2.2.1 a ci p h0 h5 h1
  obtain ⟨v, e1, w, e2, hi⟩ := hF.2 k _ ht
  have key := kk w.toInt (by unfold fld; rw [e]; simp [e1, e2]) hi (rng_of w)
  rw [Int32.ofInt_toInt, ← e2] at key
  exact z_get hc hf hdg e e1 key
theorem tw_getA {C : String} {TT : u_T} {N ci index k a p : Nat} {q : Nat × Nat × Int × Int} {ty : Nat → FieldType} (hW : WT G B τ cs) (h0 : τ a = some (.inl (ci, p))) (h5 : ci ≠ 5) (h1 : ci < 100) (ht : (fT ci p)[k]? = some (.inr (.inr q))) (hc : xCl ci C TT N ty) (hf : xFl own index TT N k) (hdg : decode cc pc = .ok (.getfield index, 3)) (kk : ∀ b, G.1 + b = fldR cs a k → τ b = some (.inr q) → Z (own, cc, nL, ret, ini) G d Post (pc + 3) L (.ref (G.1 + b) :: rest) cs) : Z (own, cc, nL, ret, ini) G d Post (pc) L (.ref (G.1 + a) :: rest) cs := by
  obtain ⟨vs, e, hF⟩ := hW.2.2.2.2.1 a ci p h0 h5 h1
  obtain ⟨v, e1, b, e2, hb⟩ := hF.2 k _ ht
  have key := kk b (by unfold fldR; rw [e]; simp [e1, e2]) hb
  rw [← e2] at key
  exact z_get hc hf hdg e e1 key
/-- an object that is not the tree -/
theorem nT {a ci p : Nat} (hW : WT G B τ cs) (h0 : τ a = some (.inl (ci, p))) (h6 : ci ≠ 6) : ∀ c1 : List va_E, (∀ b, b ≠ a → c1[b]? = cs[b]?) → TR c1 := by
  intro c1 hc
  obtain ⟨u1, ⟨p3, u2⟩, u3, u4, u5, u6, -⟩ := hW.2.1
  exact hW.2.2.2.2.2.1.ne (hc 3 fun q => by subst q; rw [h0] at u2; cases u2; exact h6 rfl) (hc 11 fun q => by subst q; rw [h0] at u4; cases u4) (hc 12 fun q => by subst q; rw [h0] at u6; cases u6)
/-- an array that is not one of the tree's two -/
theorem nA {a : Nat} {q : Nat × Nat × Int × Int} (hW : WT G B τ cs) (h0 : τ a = some (.inr q)) (h1 : q.2.2.2 ≠ 600) (h2 : q.2.2.2 ≠ 601) : ∀ c1 : List va_E, (∀ b, b ≠ a → c1[b]? = cs[b]?) → TR c1 := by
  intro c1 hc
  obtain ⟨u1, ⟨p3, u2⟩, u3, u4, u5, u6, -⟩ := hW.2.1
  exact hW.2.2.2.2.2.1.ne (hc 3 fun q => by subst q; rw [h0] at u2; cases u2) (hc 11 fun q => by subst q; rw [h0] at u4; cases u4; exact h1 rfl) (hc 12 fun q => by subst q; rw [h0] at u6; cases u6; exact h2 rfl)
theorem tw_iald {a n : Nat} {lo hi i : Int} (hW : WT G B τ cs) (h0 : τ a = some (.inr (0, n, lo, hi))) (g0 : 0 ≤ i) (g1 : i < (n : Int)) (hdg : decode cc pc = .ok (.iaload, 1)) (kk : ∀ x : Int, x = elt cs a i → iv lo hi x → rng x → Z (own, cc, nL, ret, ini) G d Post (pc + 1) L (.int (Int32.ofInt x) :: rest) cs) : Z (own, cc, nL, ret, ini) G d Post (pc) L (.int (Int32.ofInt i) :: .ref (G.1 + a) :: rest) cs := by
  obtain ⟨hn, f, e, hf⟩ := hW.2.2.2.1 a 0 n lo hi h0
  have key := kk (f i.toNat).toInt (by unfold elt; rw [e]) (hf _) (rng_of _)
  rw [Int32.ofInt_toInt] at key
  refine z_iald hdg e (oI_in g0 g1 hn) ?_
  rw [oI_cl g0 g1 hn]
  exact key
theorem WT.fiv {ci k a p : Nat} {lo hi : Int} (hW : WT G B τ cs) (h0 : τ a = some (.inl (ci, p))) (h5 : ci ≠ 5) (h1 : ci < 100) (ht : (fT ci p)[k]? = some (.inl (lo, hi))) : iv lo hi (fld cs a k) := by
  obtain ⟨vs, e, hF⟩ := hW.2.2.2.2.1 a ci p h0 h5 h1
  obtain ⟨v, e1, w, e2, hi⟩ := hF.2 k _ ht
  have : fld cs a k = w.toInt := by unfold fld; rw [e]; simp [e1, e2]
  rw [this]
  exact hi
end ZT

