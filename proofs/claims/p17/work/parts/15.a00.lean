/-! HEAPS: heap h lies from object o on -/
def OKg (S : St) (h o : Int) : Prop := ∀ x y : Int, x < 0 ∨ S.2 67 h ≤ x ∨ y < 0 ∨ 3 < y ∨ tyV (S.2 67 h) (S.2 59 (4 * S.2 68 (o + x) + y)) (S.2 69 (4 * (o + x) + y))
def OLg (S : St) (h o : Int) : Prop := ∀ x y z : Int, x < 0 ∨ S.2 67 h ≤ x ∨ y < 0 ∨ 3 < y ∨ ¬ S.2 59 (4 * S.2 68 (o + x) + y) = 3 ∨ z < 0 ∨ S.2 69 (4 * (o + x) + y) ≤ z ∨ S.2 70 (20 * (4 * (o + x) + y) + z) = -2 ∨ (0 ≤ S.2 70 (20 * (4 * (o + x) + y) + z) ∧ S.2 70 (20 * (4 * (o + x) + y) + z) < S.2 67 h)
/-- heap 0: a list has no empty place -/
def OLs (S : St) : Prop := ∀ x y z : Int, x < 0 ∨ S.2 67 0 ≤ x ∨ y < 0 ∨ 3 < y ∨ ¬ S.2 59 (4 * S.2 68 x + y) = 3 ∨ z < 0 ∨ S.2 69 (4 * x + y) ≤ z ∨ 0 ≤ S.2 70 (20 * (4 * x + y) + z)
/-- what is kept between calls -/
def HV (S : St) : Prop := OKg S 0 0 ∧ OLg S 0 0 ∧ OLs S ∧ OC0 S ∧ OKg S 1 30 ∧ OLg S 1 30
theorem HV.mv {S S' : St} (h : HV S) (e0 : S'.1 54 2 = S.1 54 2) (e1 : S'.2 59 = S.2 59) (e2 : S'.2 67 = S.2 67) (e3 : S'.2 68 = S.2 68) (e4 : S'.2 69 = S.2 69) (e5 : S'.2 70 = S.2 70) : HV S' := by
  unfold HV OKg OLg OLs OC0
  rw [e0, e1, e2, e3, e4, e5]
  exact h
theorem PI0.mv {S S' : St} (h : PI0 S) (e1 : S'.1 54 71 = S.1 54 71) (e2 : S'.2 67 = S.2 67) (e3 : S'.2 105 = S.2 105) (e4 : S'.2 106 = S.2 106) : PI0 S' := by
  unfold PI0
  rw [e1, e2, e3, e4]
  exact h
theorem PD0.mv {S S' : St} (h : PD0 S) (e1 : S'.1 54 71 = S.1 54 71) (e3 : S'.2 105 = S.2 105) : PD0 S' := by
  unfold PD0
  rw [e1, e3]
  exact h

