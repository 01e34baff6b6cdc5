/-! READING: the parse. PR: elements; PA: attributes; PO: who has children has one right behind it; PE: the element that is open -/
def NB (v : Int) : Prop := ((97 ≤ v ∧ v ≤ 122) ∨ (65 ≤ v ∧ v ≤ 90)) ∨ v = 95
def PR (S : St) : Prop := ∀ x : Int, x < 0 ∨ S.1 54 43 ≤ x ∨ ((S.2 88 x = -2 ∨ 0 ≤ S.2 88 x) ∧ S.2 88 x < x ∧ S.2 86 x + S.2 87 x ≤ 3000 ∧ S.2 90 x + S.2 91 x ≤ S.1 54 51)
def PA (S : St) : Prop := ∀ x : Int, x < 0 ∨ S.1 54 51 ≤ x ∨ (S.2 92 x + S.2 93 x ≤ 3000 ∧ S.2 94 x + S.2 95 x ≤ S.1 54 56)
def PO (S : St) : Prop := ∀ x : Int, x < 0 ∨ S.1 54 43 ≤ x ∨ S.2 88 x = -2 ∨ S.2 88 (S.2 88 x + 1) = S.2 88 x
def PE (S : St) (e : Int) : Prop := e < S.1 54 43 ∧ (e = -2 ∨ (0 ≤ e ∧ (e + 1 = S.1 54 43 ∨ S.2 88 (e + 1) = e)))
theorem PR.mv {S S' : St} (h : PR S) (e1 : S'.1 54 43 = S.1 54 43) (e2 : S'.1 54 51 = S.1 54 51) (e3 : S'.2 86 = S.2 86) (e4 : S'.2 87 = S.2 87) (e5 : S'.2 88 = S.2 88) (e6 : S'.2 90 = S.2 90) (e7 : S'.2 91 = S.2 91) : PR S' := by
  unfold PR
  rw [e1, e2, e3, e4, e5, e6, e7]
  exact h
theorem PA.mv {S S' : St} (h : PA S) (e1 : S'.1 54 51 = S.1 54 51) (e2 : S.1 54 56 ≤ S'.1 54 56) (e3 : S'.2 92 = S.2 92) (e4 : S'.2 93 = S.2 93) (e5 : S'.2 94 = S.2 94) (e6 : S'.2 95 = S.2 95) : PA S' := by
  unfold PA
  rw [e1, e3, e4, e5, e6]
  intro x
  rcases h x with h | h | h
  · exact Or.inl h
  · exact Or.inr (Or.inl h)
  · exact Or.inr (Or.inr ⟨h.1, by omega⟩)
theorem PO.mv {S S' : St} (h : PO S) (e1 : S'.1 54 43 = S.1 54 43) (e5 : S'.2 88 = S.2 88) : PO S' := by
  unfold PO
  rw [e1, e5]
  exact h
theorem PE.mv {S S' : St} {e : Int} (h : PE S e) (e1 : S'.1 54 43 = S.1 54 43) (e5 : S'.2 88 = S.2 88) : PE S' e := by
  unfold PE
  rw [e1, e5]
  exact h
theorem PR.at {S : St} (h : PR S) {x : Int} (h0 : 0 ≤ x) (h1 : x < S.1 54 43) : (S.2 88 x = -2 ∨ 0 ≤ S.2 88 x) ∧ S.2 88 x < x ∧ S.2 86 x + S.2 87 x ≤ 3000 ∧ S.2 90 x + S.2 91 x ≤ S.1 54 51 := by
  rcases h x with h | h | h
  · omega
  · omega
  · exact h
theorem PA.at {S : St} (h : PA S) {x : Int} (h0 : 0 ≤ x) (h1 : x < S.1 54 51) : S.2 92 x + S.2 93 x ≤ 3000 ∧ S.2 94 x + S.2 95 x ≤ S.1 54 56 := by
  rcases h x with h | h | h
  · omega
  · omega
  · exact h
/-- an element has begun, or the first sign is still to come -/
def P1 (S : St) (p e : Int) : Prop := 1 ≤ S.1 54 43 ∨ -1 ≤ S.1 54 59 ∨ (e = -2 ∧ p < S.1 54 41 ∧ S.2 84 p = 60)
