/-! SAME: the pairs have different first objects, so there are no more than objects -/
def PI0 (S : St) : Prop := ∀ x : Int, x < 0 ∨ S.1 54 71 ≤ x ∨ (0 ≤ S.2 105 x ∧ S.2 105 x < S.2 67 0 ∧ 0 ≤ S.2 106 x ∧ S.2 106 x < S.2 67 1)
def PD0 (S : St) : Prop := ∀ x y : Int, x < 0 ∨ y ≤ x ∨ S.1 54 71 ≤ y ∨ ¬ S.2 105 x = S.2 105 y
def OL1 (S : St) : Prop := ∀ x y z : Int, x < 0 ∨ S.2 67 1 ≤ x ∨ y < 0 ∨ 3 < y ∨ ¬ S.2 59 (4 * S.2 68 (30 + x) + y) = 3 ∨ z < 0 ∨ S.2 69 (4 * (30 + x) + y) ≤ z ∨ S.2 70 (20 * (4 * (30 + x) + y) + z) = -2 ∨ (0 ≤ S.2 70 (20 * (4 * (30 + x) + y) + z) ∧ S.2 70 (20 * (4 * (30 + x) + y) + z) < S.2 67 1)
theorem OK1.mv {S S' : St} (h : OK1 S) (e1 : S'.2 59 = S.2 59) (e2 : S'.2 67 = S.2 67) (e3 : S'.2 68 = S.2 68) (e4 : S'.2 69 = S.2 69) : OK1 S' := by
  unfold OK1
  rw [e1, e2, e3, e4]
  exact h
theorem OL1.mv {S S' : St} (h : OL1 S) (e1 : S'.2 59 = S.2 59) (e2 : S'.2 67 = S.2 67) (e3 : S'.2 68 = S.2 68) (e4 : S'.2 69 = S.2 69) (e5 : S'.2 70 = S.2 70) : OL1 S' := by
  unfold OL1
  rw [e1, e2, e3, e4, e5]
  exact h

