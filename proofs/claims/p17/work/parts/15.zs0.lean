/-! THE MODEL'S read leaves heap 0 -/
def FH (S S' : St) : Prop := S'.2 67 0 = S.2 67 0 ∧ (∀ x : Int, x < 30 → S'.2 68 x = S.2 68 x) ∧ (∀ x : Int, x < 120 → S'.2 69 x = S.2 69 x) ∧ ∀ x : Int, x < 2400 → S'.2 70 x = S.2 70 x
theorem FH.mv {S S' : St} (e67 : S'.2 67 = S.2 67) (e68 : S'.2 68 = S.2 68) (e69 : S'.2 69 = S.2 69) (e70 : S'.2 70 = S.2 70) : FH S S' := by
  unfold FH
  rw [e67, e68, e69, e70]
  exact ⟨rfl, fun _ _ => rfl, fun _ _ => rfl, fun _ _ => rfl⟩
theorem FH.tr {S S1 S2 : St} (h : FH S S1) (k : FH S1 S2) : FH S S2 := ⟨k.1.trans h.1, fun x q => (k.2.1 x q).trans (h.2.1 x q), fun x q => (k.2.2.1 x q).trans (h.2.2.1 x q), fun x q => (k.2.2.2 x q).trans (h.2.2.2 x q)⟩
theorem FH.fr {S S' : St} (k : FR S S') : FH S S' := ⟨(k.1 0).resolve_left (by decide), fun x q => (k.2.1 x).resolve_left (by omega), fun x q => (k.2.2.1 x).resolve_left (by omega), fun x q => (k.2.2.2 x).resolve_left (by omega)⟩
