/-! HEAP -/
/-- one cell is another one, all else is as it was -/
def Fo (p : Nat) (cs c1 : List va_E) : Prop := c1.length = cs.length ∧ xZ c1 = xZ cs ∧ ∀ k, k ≠ p → c1[k]? = cs[k]?
theorem Fo.rf {p : Nat} {cs : List va_E} : Fo p cs cs := ⟨rfl, rfl, fun _ _ => rfl⟩
theorem Fo.set {p : Nat} {cs : List va_E} {e0 e : va_E} (h : cs[p]? = some e0) (hz : xSzE e = xSzE e0) : Fo p cs (cs.set p e) := ⟨by simp, xZ_set h hz, fun k hk => List.getElem?_set_ne (Ne.symm hk)⟩
theorem Fo.tr {p q : Nat} {c0 c1 c2 : List va_E} (h : Fo p c0 c1) (k : Fo q c1 c2) : c2.length = c0.length ∧ xZ c2 = xZ c0 ∧ ∀ i, i ≠ p → i ≠ q → c2[i]? = c0[i]? := ⟨k.1.trans h.1, k.2.1.trans h.2.1, fun i h1 h2 => (k.2.2 i h2).trans (h.2.2 i h1)⟩
/-- only the three arrays of the Heap at h may have changed -/
def Fh (h : Nat) (cs c1 : List va_E) : Prop := c1.length = cs.length ∧ xZ c1 = xZ cs ∧ ∀ k, k < h ∨ h + 4 ≤ k → c1[k]? = cs[k]?
theorem Fh.rf {h : Nat} {cs : List va_E} : Fh h cs cs := ⟨rfl, rfl, fun _ _ => rfl⟩
theorem Fh.tr {h : Nat} {c0 c1 c2 : List va_E} (a : Fh h c0 c1) (b : Fh h c1 c2) : Fh h c0 c2 := ⟨b.1.trans a.1, b.2.1.trans a.2.1, fun i hi => (b.2.2 i hi).trans (a.2.2 i hi)⟩
