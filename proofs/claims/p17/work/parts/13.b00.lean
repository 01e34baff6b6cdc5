/-! WRITING: parents lie ahead, what is begun is an element, an element costs four signs, or three while it is open -/
def PW (S : St) : Prop := ∀ x : Int, x < 0 ∨ S.1 54 25 ≤ x ∨ S.2 72 x < x
def BW (S : St) : Prop := ∀ x : Int, x < 0 ∨ 29 < x ∨ S.2 75 x = -2 ∨ (0 ≤ S.2 75 x ∧ S.2 75 x < S.1 54 25)
theorem PW.mv {S S' : St} (h : PW S) (e1 : S'.1 54 25 = S.1 54 25) (e2 : S'.2 72 = S.2 72) : PW S' := by
  unfold PW
  rw [e1, e2]
  exact h
theorem BW.mv {S S' : St} (h : BW S) (e1 : S.1 54 25 ≤ S'.1 54 25) (e2 : S'.2 75 = S.2 75) : BW S' := by
  unfold BW
  rw [e2]
  intro x
  have := h x
  omega
/-- the names of the living objects' kinds and fields are not empty -/
def NMS (S : St) : Prop := ∀ x y : Int, x < 0 ∨ S.2 67 0 ≤ x ∨ (1 ≤ S.2 57 (S.2 68 x) ∧ (y < 0 ∨ S.2 56 (S.2 68 x) ≤ y ∨ 1 ≤ S.2 57 (6 + (4 * S.2 68 x + y))))
/-- whether an open object has a list that is open -/
def fl (S : St) (x : Int) : Int := if 0 < S.2 81 x ∧ S.2 60 (4 * S.2 68 (S.2 77 x) + S.2 80 x) = 0 then 1 else 0
theorem OK0.mv {S S' : St} (h : OK0 S) (e1 : S'.2 59 = S.2 59) (e2 : S'.2 67 = S.2 67) (e3 : S'.2 68 = S.2 68) (e4 : S'.2 69 = S.2 69) : OK0 S' := by
  unfold OK0
  rw [e1, e2, e3, e4]
  exact h
theorem OL0.mv {S S' : St} (h : OL0 S) (e1 : S'.2 59 = S.2 59) (e2 : S'.2 67 = S.2 67) (e3 : S'.2 68 = S.2 68) (e4 : S'.2 69 = S.2 69) (e5 : S'.2 70 = S.2 70) : OL0 S' := by
  unfold OL0
  rw [e1, e2, e3, e4, e5]
  exact h
theorem NMS.mv {S S' : St} (h : NMS S) (e1 : S'.2 56 = S.2 56) (e2 : S'.2 57 = S.2 57) (e3 : S'.2 67 = S.2 67) (e4 : S'.2 68 = S.2 68) : NMS S' := by
  unfold NMS
  rw [e1, e2, e3, e4]
  exact h
