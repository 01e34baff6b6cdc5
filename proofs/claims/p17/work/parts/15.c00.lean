/-! READING: the elements' meaning; heap 2 grows; what was read before and the heap stay -/
/-- an object may have been made in heap 2; its lists are empty -/
def OE (S S' : St) : Prop := (S'.2 67 2 = S.2 67 2 ∨ S'.2 67 2 = S.2 67 2 + 1) ∧ (∀ x : Int, x = 2 ∨ S'.2 67 x = S.2 67 x) ∧ (∀ x : Int, x = 60 + S.2 67 2 ∨ S'.2 68 x = S.2 68 x) ∧ (∀ x : Int, (4 * (60 + S.2 67 2) ≤ x ∧ x ≤ 4 * (60 + S.2 67 2) + 3) ∨ S'.2 69 x = S.2 69 x) ∧ (∀ x : Int, (80 * (60 + S.2 67 2) ≤ x ∧ x < 80 * (60 + S.2 67 2) + 80) ∨ S'.2 70 x = S.2 70 x) ∧ ∀ y : Int, S'.2 67 2 = S.2 67 2 ∨ y < 0 ∨ 3 < y ∨ ¬ S.2 59 (4 * S'.2 68 (60 + S.2 67 2) + y) = 3 ∨ S'.2 69 (4 * (60 + S.2 67 2) + y) = 0
theorem OE.rf {S S' : St} (e1 : S'.2 67 = S.2 67) (e2 : S'.2 68 = S.2 68) (e3 : S'.2 69 = S.2 69) (e4 : S'.2 70 = S.2 70) : OE S S' := by
  unfold OE
  rw [e1, e2, e3, e4]
  exact ⟨Or.inl rfl, fun x => Or.inr rfl, fun x => Or.inr rfl, fun x => Or.inr rfl, fun x => Or.inr rfl, fun y => Or.inl rfl⟩
/-- heaps 0 and 1 are as they were -/
def FR (S S' : St) : Prop := (∀ x : Int, x = 2 ∨ S'.2 67 x = S.2 67 x) ∧ (∀ x : Int, 60 ≤ x ∨ S'.2 68 x = S.2 68 x) ∧ (∀ x : Int, 240 ≤ x ∨ S'.2 69 x = S.2 69 x) ∧ ∀ x : Int, 4800 ≤ x ∨ S'.2 70 x = S.2 70 x
theorem FR.tr {S S1 S2 : St} (h : FR S S1) (k : FR S1 S2) : FR S S2 := by
  obtain ⟨h1, h2, h3, h4⟩ := h
  obtain ⟨k1, k2, k3, k4⟩ := k
  refine ⟨fun x => ?_, fun x => ?_, fun x => ?_, fun x => ?_⟩
  · have a := h1 x; have b := k1 x; omega
  · have a := h2 x; have b := k2 x; omega
  · have a := h3 x; have b := k3 x; omega
  · have a := h4 x; have b := k4 x; omega
theorem OE.fr {S S' : St} (h : OE S S') (h0 : 0 ≤ S.2 67 2) : FR S S' := by
  obtain ⟨h1, h2, h3, h4, h5, h6⟩ := h
  refine ⟨h2, fun x => ?_, fun x => ?_, fun x => ?_⟩
  · have := h3 x; omega
  · have := h4 x; omega
  · have := h5 x; omega
/-- the kind of a field of heap 2 -/
def rk (S : St) (k : Int) : Int := S.2 59 (4 * S.2 68 (60 + (k - 240) / 4) + (k - 240) % 4)
def EI (S : St) (x : Int) : Prop := (¬ S.2 98 x = 3 ∨ (0 ≤ S.2 99 x ∧ S.2 99 x < S.2 67 2 ∧ 0 ≤ S.2 100 x - 4 * (60 + S.2 99 x) ∧ S.2 100 x - 4 * (60 + S.2 99 x) ≤ 3 ∧ S.2 59 (4 * S.2 68 (60 + S.2 99 x) + (S.2 100 x - 4 * (60 + S.2 99 x))) = 3)) ∧ (¬ S.2 98 x = 4 ∨ (0 ≤ S.2 99 x ∧ S.2 99 x < S.2 67 2)) ∧ (¬ S.2 98 x = 5 ∨ (S.2 91 x = 1 ∧ (S.2 100 x = -2 ∨ (240 ≤ S.2 100 x ∧ S.2 100 x < 240 + 4 * S.2 67 2 ∧ (0 ≤ S.2 101 x ∨ (S.2 101 x = -2 ∧ rk S (S.2 100 x) = 2)))))) ∧ (S.2 98 x = 3 ∨ S.2 98 x = 4 ∨ ¬ (x + 1 < S.1 54 43 ∧ S.2 88 (x + 1) = x))
def EA (S : St) (e : Int) : Prop := ∀ x : Int, x < 0 ∨ e ≤ x ∨ EI S x
theorem EI_mono {S S' : St} {x : Int} (h : EI S x) (e98 : S'.2 98 x = S.2 98 x) (e99 : S'.2 99 x = S.2 99 x) (e100 : S'.2 100 x = S.2 100 x) (e101 : S'.2 101 x = S.2 101 x) (e43 : S'.1 54 43 = S.1 54 43) (e88 : S'.2 88 = S.2 88) (e91 : S'.2 91 = S.2 91) (e59 : S'.2 59 = S.2 59) (hc : S.2 67 2 ≤ S'.2 67 2) (hk : ∀ i : Int, 0 ≤ i → i < S.2 67 2 → S'.2 68 (60 + i) = S.2 68 (60 + i)) : EI S' x := by
  obtain ⟨h1, h2, h3, h4⟩ := h
  unfold EI rk
  rw [e98, e99, e100, e101, e43, e88, e91, e59]
  refine ⟨?_, ?_, ?_, h4⟩
  · rcases h1 with h | h
    · exact Or.inl h
    · rw [hk _ h.1 h.2.1]
      exact Or.inr ⟨h.1, by omega, h.2.2⟩
  · rcases h2 with h | h
    · exact Or.inl h
    · exact Or.inr ⟨h.1, by omega⟩
  · rcases h3 with h | ⟨a, h⟩
    · exact Or.inl h
    · refine Or.inr ⟨a, ?_⟩
      rcases h with h | ⟨b1, b2, b3⟩
      · exact Or.inl h
      · rw [hk _ (by omega) (by omega)]
        exact Or.inr ⟨b1, by omega, b3⟩
theorem OKg.mv {S S' : St} {h o : Int} (k : OKg S h o) (e1 : S'.2 59 = S.2 59) (e2 : S'.2 67 = S.2 67) (e3 : S'.2 68 = S.2 68) (e4 : S'.2 69 = S.2 69) : OKg S' h o := by
  unfold OKg
  rw [e1, e2, e3, e4]
  exact k
theorem OLg.mv {S S' : St} {h o : Int} (k : OLg S h o) (e1 : S'.2 59 = S.2 59) (e2 : S'.2 67 = S.2 67) (e3 : S'.2 68 = S.2 68) (e4 : S'.2 69 = S.2 69) (e5 : S'.2 70 = S.2 70) : OLg S' h o := by
  unfold OLg
  rw [e1, e2, e3, e4, e5]
  exact k
