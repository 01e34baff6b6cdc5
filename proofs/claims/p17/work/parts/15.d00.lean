/-! READING: references lead; what was read becomes heap 1 -/
theorem EA.mv {S S' : St} {e : Int} (h : EA S e) (e1 : S'.2 98 = S.2 98) (e2 : S'.2 99 = S.2 99) (e3 : S'.2 100 = S.2 100) (e4 : S'.2 101 = S.2 101) (e5 : S'.1 54 43 = S.1 54 43) (e6 : S'.2 88 = S.2 88) (e7 : S'.2 91 = S.2 91) (e8 : S'.2 59 = S.2 59) (e9 : S'.2 67 = S.2 67) (e10 : S'.2 68 = S.2 68) : EA S' e := by
  intro x
  rcases h x with q | q | q
  · exact Or.inl q
  · exact Or.inr (Or.inl q)
  · refine Or.inr (Or.inr (EI_mono q (by rw [e1]) (by rw [e2]) (by rw [e3]) (by rw [e4]) e5 e6 e7 e8 (by rw [e9]; exact Int.le_refl _) (fun i _ _ => by rw [e10])))
theorem EA.to {S : St} {e f : Int} (h : EA S e) (q : f ≤ e) : EA S f := by
  intro x
  rcases h x with a | a | a
  · exact Or.inl a
  · exact Or.inr (Or.inl (by omega))
  · exact Or.inr (Or.inr a)
theorem EA.at {S : St} {e x : Int} (h : EA S e) (x0 : 0 ≤ x) (x1 : x < e) : EI S x := ((h x).resolve_left (by omega)).resolve_left (by omega)
