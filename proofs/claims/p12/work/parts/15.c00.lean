/-! READING: the elements' meaning; heap 2 grows; what was read before and the heap stay -/
/-- an object may have been made in heap 2; its lists are empty -/
def OE (S S' : St) : Prop := (S'.2 67 2 = S.2 67 2 ∨ S'.2 67 2 = S.2 67 2 + 1) ∧ (∀ x : Int, x = 2 ∨ S'.2 67 x = S.2 67 x) ∧ (∀ x : Int, x = 60 + S.2 67 2 ∨ S'.2 68 x = S.2 68 x) ∧ (∀ x : Int, (4 * (60 + S.2 67 2) ≤ x ∧ x ≤ 4 * (60 + S.2 67 2) + 3) ∨ S'.2 69 x = S.2 69 x) ∧ (∀ x : Int, (80 * (60 + S.2 67 2) ≤ x ∧ x < 80 * (60 + S.2 67 2) + 80) ∨ S'.2 70 x = S.2 70 x) ∧ ∀ y : Int, S'.2 67 2 = S.2 67 2 ∨ y < 0 ∨ 3 < y ∨ ¬ S.2 59 (4 * S'.2 68 (60 + S.2 67 2) + y) = 3 ∨ S'.2 69 (4 * (60 + S.2 67 2) + y) = 0
theorem OE.rf {S S' : St} (e1 : S'.2 67 = S.2 67) (e2 : S'.2 68 = S.2 68) (e3 : S'.2 69 = S.2 69) (e4 : S'.2 70 = S.2 70) : OE S S' := by
  unfold OE
  rw [e1, e2, e3, e4]
  exact ⟨Or.inl rfl, fun x => Or.inr rfl, fun x => Or.inr rfl, fun x => Or.inr rfl, fun x => Or.inr rfl, fun y => Or.inl rfl⟩
/-- heaps 0 and 1 are as they were -/
def FR (S S' : St) : Prop := (∀ x : Int, x = 2 ∨ S'.2 67 x = S.2 67 x) ∧ (∀ x : Int, 60 ≤ x ∨ S'.2 68 x = S.2 68 x) ∧ (∀ x : Int, 240 ≤ x ∨ S'.2 69 x = S.2 69 x) ∧ ∀ x : Int, 4800 ≤ x ∨ S'.2 70 x = S.2 70 x
theorem FR.re {S S' : St} (e1 : S'.2 67 = S.2 67) (e2 : S'.2 68 = S.2 68) (e3 : S'.2 69 = S.2 69) (e4 : S'.2 70 = S.2 70) : FR S S' := by
  unfold FR
  rw [e1, e2, e3, e4]
  exact ⟨fun x => Or.inr rfl, fun x => Or.inr rfl, fun x => Or.inr rfl, fun x => Or.inr rfl⟩
theorem FR.tr {S S1 S2 : St} (h : FR S S1) (k : FR S1 S2) : FR S S2 := by
  obtain ⟨h1, h2, h3, h4⟩ := h
  obtain ⟨k1, k2, k3, k4⟩ := k
  refine ⟨fun x => ?_, fun x => ?_, fun x => ?_, fun x => ?_⟩
  · have a := h1 x; have b := k1 x; omega
  · have a := h2 x; have b := k2 x; omega
  · have a := h3 x; have b := k3 x; omega
  · have a := h4 x; have b := k4 x; omega
theorem OE.fr {S S' : St} (h : OE S S') (h0 : 0 ≤ S.2 67 2) : FR S S' := by
  obtain ⟨h1, h2, h3, h4, h5, h6⟩ := h
  refine ⟨h2, fun x => ?_, fun x => ?_, fun x => ?_⟩
  · have := h3 x; omega
  · have := h4 x; omega
  · have := h5 x; omega
/-- the kind of a field of heap 2 -/
def rk (S : St) (k : Int) : Int := S.2 59 (4 * S.2 68 (60 + (k - 240) / 4) + (k - 240) % 4)
def EI (S : St) (x : Int) : Prop := (¬ S.2 98 x = 3 ∨ (0 ≤ S.2 99 x ∧ S.2 99 x < S.2 67 2 ∧ 0 ≤ S.2 100 x - 4 * (60 + S.2 99 x) ∧ S.2 100 x - 4 * (60 + S.2 99 x) ≤ 3 ∧ S.2 59 (4 * S.2 68 (60 + S.2 99 x) + (S.2 100 x - 4 * (60 + S.2 99 x))) = 3)) ∧ (¬ S.2 98 x = 4 ∨ (0 ≤ S.2 99 x ∧ S.2 99 x < S.2 67 2)) ∧ (¬ S.2 98 x = 5 ∨ (S.2 91 x = 1 ∧ (S.2 100 x = -2 ∨ (240 ≤ S.2 100 x ∧ S.2 100 x < 240 + 4 * S.2 67 2 ∧ (0 ≤ S.2 101 x ∨ (S.2 101 x = -2 ∧ rk S (S.2 100 x) = 2)))))) ∧ (S.2 98 x = 3 ∨ S.2 98 x = 4 ∨ ¬ (x + 1 < S.1 54 43 ∧ S.2 88 (x + 1) = x))
def EA (S : St) (e : Int) : Prop := ∀ x : Int, x < 0 ∨ e ≤ x ∨ EI S x
theorem EI_mono {S S' : St} {x : Int} (h : EI S x) (e98 : S'.2 98 x = S.2 98 x) (e99 : S'.2 99 x = S.2 99 x) (e100 : S'.2 100 x = S.2 100 x) (e101 : S'.2 101 x = S.2 101 x) (e43 : S'.1 54 43 = S.1 54 43) (e88 : S'.2 88 = S.2 88) (e91 : S'.2 91 = S.2 91) (e59 : S'.2 59 = S.2 59) (hc : S.2 67 2 ≤ S'.2 67 2) (hk : ∀ i : Int, 0 ≤ i → i < S.2 67 2 → S'.2 68 (60 + i) = S.2 68 (60 + i)) : EI S' x := by
  obtain ⟨h1, h2, h3, h4⟩ := h
  unfold EI rk
  rw [e98, e99, e100, e101, e43, e88, e91, e59]
  refine ⟨?_, ?_, ?_, h4⟩
  · rcases h1 with h | h
    · exact Or.inl h
    · rw [hk _ h.1 h.2.1]
      exact Or.inr ⟨h.1, by omega, h.2.2⟩
  · rcases h2 with h | h
    · exact Or.inl h
    · exact Or.inr ⟨h.1, by omega⟩
  · rcases h3 with h | ⟨a, h⟩
    · exact Or.inl h
    · refine Or.inr ⟨a, ?_⟩
      rcases h with h | ⟨b1, b2, b3⟩
      · exact Or.inl h
      · rw [hk _ (by omega) (by omega)]
        exact Or.inr ⟨b1, by omega, b3⟩
theorem EA_step {S S' : St} {e : Int} (h : EA S e) (hn : EI S' e) (e98 : ∀ x : Int, x = e ∨ S'.2 98 x = S.2 98 x) (e99 : ∀ x : Int, x = e ∨ S'.2 99 x = S.2 99 x) (e100 : ∀ x : Int, x = e ∨ S'.2 100 x = S.2 100 x) (e101 : ∀ x : Int, x = e ∨ S'.2 101 x = S.2 101 x) (e43 : S'.1 54 43 = S.1 54 43) (e88 : S'.2 88 = S.2 88) (e91 : S'.2 91 = S.2 91) (e59 : S'.2 59 = S.2 59) (hc : S.2 67 2 ≤ S'.2 67 2) (hk : ∀ i : Int, 0 ≤ i → i < S.2 67 2 → S'.2 68 (60 + i) = S.2 68 (60 + i)) : EA S' (e + 1) := by
  intro x
  by_cases x0 : x < 0
  · exact Or.inl x0
  by_cases x1 : e + 1 ≤ x
  · exact Or.inr (Or.inl x1)
  by_cases x2 : x = e
  · subst x2
    exact Or.inr (Or.inr hn)
  · have q := ((h x).resolve_left x0).resolve_left (by omega)
    exact Or.inr (Or.inr (EI_mono q ((e98 x).resolve_left x2) ((e99 x).resolve_left x2) ((e100 x).resolve_left x2) ((e101 x).resolve_left x2) e43 e88 e91 e59 hc hk))
/-- a field of the new object becomes a number or a text -/
theorem OKg_bec {S S' : St} {o f : Int} (h : OKg S 2 60) (e59 : S'.2 59 = S.2 59) (e67 : S'.2 67 = S.2 67) (e68 : S'.2 68 = S.2 68) (h69 : ∀ x : Int, x = 4 * (60 + o) + f ∨ S'.2 69 x = S.2 69 x) (f0 : 0 ≤ f) (f3 : f ≤ 3) (hk : S.2 59 (4 * S.2 68 (60 + o) + f) ≤ 1) (hv : S'.2 69 (4 * (60 + o) + f) = S.2 69 (4 * (60 + o) + f) ∨ ¬ S.2 59 (4 * S.2 68 (60 + o) + f) = 1 ∨ iv 0 20 (S'.2 69 (4 * (60 + o) + f))) : OKg S' 2 60 := by
  refine OK_slot h e59 e67 e68 h69 (fun x y x0 x1 y0 y1 q => ?_)
  have ex : x = o := by omega
  have ey : y = f := by omega
  subst ex
  subst ey
  have t := (((h x y).resolve_left (by omega)).resolve_left (by omega)).resolve_left (by omega)
  have t := t.resolve_left (by omega)
  unfold tyV at t ⊢
  rcases hv with v | v | v
  · rw [v]; omega
  · omega
  · omega
theorem OLg_bec {S S' : St} {o f : Int} (hl : OLg S 2 60) (h : OKg S 2 60) (e59 : S'.2 59 = S.2 59) (e67 : S'.2 67 = S.2 67) (e68 : S'.2 68 = S.2 68) (h69 : ∀ x : Int, x = 4 * (60 + o) + f ∨ S'.2 69 x = S.2 69 x) (h70 : ∀ x : Int, (20 * (4 * (60 + o) + f) ≤ x ∧ x < 20 * (4 * (60 + o) + f) + 20) ∨ S'.2 70 x = S.2 70 x) (f0 : 0 ≤ f) (f3 : f ≤ 3) (hk : ¬ S.2 59 (4 * S.2 68 (60 + o) + f) = 3) : OLg S' 2 60 := by
  refine OL_slot hl h e59 e67 e68 h69 h70 (fun x y z x0 x1 y0 y1 q k3 z0 z1 => ?_)
  have ex : x = o := by omega
  have ey : y = f := by omega
  subst ex
  subst ey
  exact absurd k3 hk
/-- what object(2, cls) made -/
theorem OE_obj {S S' : St} {c : Int} (n : nObj S S' 2 (60 + S.2 67 2) c) (e70 : S'.2 70 = S.2 70) : OE S S' := by
  obtain ⟨n1, n2, n3⟩ := n
  have a1 := n1 2
  refine ⟨by omega, fun x => ?_, fun x => ?_, fun x => ?_, fun x => Or.inr (by rw [e70]), fun y => ?_⟩
  · have := n1 x; omega
  · have := n2 x; omega
  · have := n3 x; omega
  · have b2 := n2 (60 + S.2 67 2)
    have b3 := n3 (4 * (60 + S.2 67 2) + y)
    rw [show 4 * (60 + S.2 67 2) + y - 4 * (60 + S.2 67 2) = y by omega] at b3
    have e2 : S'.2 68 (60 + S.2 67 2) = c := by omega
    rw [e2]
    omega
/-- and what its attributes made of it -/
theorem OE_more {S S1 S2 : St} (h : OE S S1) (e59 : S1.2 59 = S.2 59) (hc : S1.2 67 2 = S.2 67 2 + 1) (e67 : S2.2 67 = S1.2 67) (e68 : S2.2 68 = S1.2 68) (h69 : ∀ x : Int, (4 * (60 + S.2 67 2) ≤ x ∧ x ≤ 4 * (60 + S.2 67 2) + 3) ∨ S2.2 69 x = S1.2 69 x) (h70 : ∀ x : Int, (80 * (60 + S.2 67 2) ≤ x ∧ x < 80 * (60 + S.2 67 2) + 80) ∨ S2.2 70 x = S1.2 70 x) (hl : ∀ y : Int, y < 0 ∨ 3 < y ∨ ¬ S.2 59 (4 * S1.2 68 (60 + S.2 67 2) + y) = 3 ∨ S2.2 69 (4 * (60 + S.2 67 2) + y) = S1.2 69 (4 * (60 + S.2 67 2) + y)) : OE S S2 := by
  obtain ⟨h1, h2, h3, h4, h5, h6⟩ := h
  unfold OE
  rw [e67, e68]
  refine ⟨h1, h2, h3, fun x => ?_, fun x => ?_, fun y => ?_⟩
  · have a := h4 x; have b := h69 x; omega
  · have a := h5 x; have b := h70 x; omega
  · have a := h6 y; have b := hl y; omega
theorem OKg.at2 {S : St} (h : OKg S 2 60) {x y : Int} (x0 : 0 ≤ x) (x1 : x < S.2 67 2) (y0 : 0 ≤ y) (y1 : y ≤ 3) : tyV (S.2 67 2) (S.2 59 (4 * S.2 68 (60 + x) + y)) (S.2 69 (4 * (60 + x) + y)) := (((h x y).resolve_left (by omega)).resolve_left (by omega)).resolve_left (by omega) |>.resolve_left (by omega)
/-- an object of a list: the list grows, the object is made, it comes into the list -/
theorem OLg_list {S S5 S9 S' : St} {o f v w : Int} (hl : OLg S 2 60) (hk : OKg S 2 60) (e59 : S'.2 59 = S.2 59) (o0 : 0 ≤ o) (o1 : o < S.2 67 2) (f0 : 0 ≤ f) (f3 : f ≤ 3) (hv : v = S.2 69 (4 * (60 + o) + f)) (hk3 : S.2 59 (4 * S.2 68 (60 + o) + f) = 3)
    (a67 : S5.2 67 = S.2 67) (a68 : S5.2 68 = S.2 68) (a70 : S5.2 70 = S.2 70) (a59 : S5.2 59 = S.2 59) (a69 : ∀ x : Int, (x = 4 * (60 + o) + f ∧ S5.2 69 x = v + 1) ∨ (¬ x = 4 * (60 + o) + f ∧ S5.2 69 x = S.2 69 x)) (hE : OE S5 S9) (b67 : S'.2 67 = S9.2 67) (b68 : S'.2 68 = S9.2 68) (b69 : S'.2 69 = S9.2 69) (b70 : ∀ x : Int, (x = 20 * (4 * (60 + o) + f) + v ∧ S'.2 70 x = w) ∨ (¬ x = 20 * (4 * (60 + o) + f) + v ∧ S'.2 70 x = S9.2 70 x)) (hw : w = -2 ∨ (0 ≤ w ∧ w < S9.2 67 2)) : OLg S' 2 60 := by
  obtain ⟨c1, c2, c3, c4, c5, c6⟩ := hE
  rw [a67] at c1 c3 c4 c5 c6
  rw [a68] at c3
  rw [a70] at c5
  rw [a59] at c6
  have hkt := hk.at2 o0 o1 f0 f3
  unfold tyV at hkt
  have hv8 := hkt.2.2.resolve_left (fun h => h hk3)
  intro x y z
  rw [e59, b67, b68, b69]
  by_cases x0 : x < 0
  · exact Or.inl x0
  by_cases x1 : S9.2 67 2 ≤ x
  · exact Or.inr (Or.inl x1)
  by_cases y0 : y < 0
  · exact Or.inr (Or.inr (Or.inl y0))
  by_cases y1 : 3 < y
  · exact Or.inr (Or.inr (Or.inr (Or.inl y1)))
  by_cases xn : x = S.2 67 2
  · have d6 := ((c6 y).resolve_left (by omega)).resolve_left y0
    have d6 := d6.resolve_left y1
    rw [← xn] at d6
    rcases d6 with d | d
    · exact Or.inr (Or.inr (Or.inr (Or.inr (Or.inl d))))
    · rw [d]
      by_cases z0 : z < 0
      · exact Or.inr (Or.inr (Or.inr (Or.inr (Or.inr (Or.inl z0)))))
      · exact Or.inr (Or.inr (Or.inr (Or.inr (Or.inr (Or.inr (Or.inl (by omega)))))))
  · have xl : x < S.2 67 2 := by omega
    rw [(c3 (60 + x)).resolve_left (by omega)]
    have d4 := (c4 (4 * (60 + x) + y)).resolve_left (by omega)
    rw [d4]
    by_cases k3 : S.2 59 (4 * S.2 68 (60 + x) + y) = 3
    · by_cases z0 : z < 0
      · exact Or.inr (Or.inr (Or.inr (Or.inr (Or.inr (Or.inl z0)))))
      have t := hk.at2 (x := x) (y := y) (by omega) (by omega) (by omega) (by omega)
      unfold tyV at t
      have t3 := t.2.2.resolve_left (fun h => h k3)
      have a := a69 (4 * (60 + x) + y)
      by_cases z1 : S5.2 69 (4 * (60 + x) + y) ≤ z
      · exact Or.inr (Or.inr (Or.inr (Or.inr (Or.inr (Or.inr (Or.inl z1))))))
      have b := b70 (20 * (4 * (60 + x) + y) + z)
      have c := (c5 (20 * (4 * (60 + x) + y) + z)).resolve_left (by omega)
      have g := hl x y z
      refine Or.inr (Or.inr (Or.inr (Or.inr (Or.inr (Or.inr (Or.inr ?_))))))
      by_cases q : 4 * (60 + x) + y = 4 * (60 + o) + f
      · have ex : x = o := by omega
        have ey : y = f := by omega
        subst ex
        subst ey
        by_cases qz : z = v
        · have e1 : S'.2 70 (20 * (4 * (60 + x) + y) + z) = w := by omega
          rw [e1]
          exact hw
        · have e1 : S'.2 70 (20 * (4 * (60 + x) + y) + z) = S.2 70 (20 * (4 * (60 + x) + y) + z) := by omega
          rw [e1]
          omega
      · have e1 : S'.2 70 (20 * (4 * (60 + x) + y) + z) = S.2 70 (20 * (4 * (60 + x) + y) + z) := by omega
        rw [e1]
        omega
    · exact Or.inr (Or.inr (Or.inr (Or.inr (Or.inl k3))))
theorem OKg.mv {S S' : St} {h o : Int} (k : OKg S h o) (e1 : S'.2 59 = S.2 59) (e2 : S'.2 67 = S.2 67) (e3 : S'.2 68 = S.2 68) (e4 : S'.2 69 = S.2 69) : OKg S' h o := by
  unfold OKg
  rw [e1, e2, e3, e4]
  exact k
theorem OLg.mv {S S' : St} {h o : Int} (k : OLg S h o) (e1 : S'.2 59 = S.2 59) (e2 : S'.2 67 = S.2 67) (e3 : S'.2 68 = S.2 68) (e4 : S'.2 69 = S.2 69) (e5 : S'.2 70 = S.2 70) : OLg S' h o := by
  unfold OLg
  rw [e1, e2, e3, e4, e5]
  exact k
/-- an object that no list holds: the lists are as they were -/
theorem OLg_OE {S S' : St} (hl : OLg S 2 60) (hk : OKg S 2 60) (e59 : S'.2 59 = S.2 59) (hE : OE S S') : OLg S' 2 60 := by
  obtain ⟨c1, c2, c3, c4, c5, c6⟩ := hE
  intro x y z
  rw [e59]
  by_cases x0 : x < 0
  · exact Or.inl x0
  by_cases x1 : S'.2 67 2 ≤ x
  · exact Or.inr (Or.inl x1)
  by_cases y0 : y < 0
  · exact Or.inr (Or.inr (Or.inl y0))
  by_cases y1 : 3 < y
  · exact Or.inr (Or.inr (Or.inr (Or.inl y1)))
  by_cases xn : x = S.2 67 2
  · have d6 := ((c6 y).resolve_left (by omega)).resolve_left y0
    have d6 := d6.resolve_left y1
    rw [← xn] at d6
    rcases d6 with d | d
    · exact Or.inr (Or.inr (Or.inr (Or.inr (Or.inl d))))
    · rw [d]
      by_cases z0 : z < 0
      · exact Or.inr (Or.inr (Or.inr (Or.inr (Or.inr (Or.inl z0)))))
      · exact Or.inr (Or.inr (Or.inr (Or.inr (Or.inr (Or.inr (Or.inl (by omega)))))))
  · rw [(c3 (60 + x)).resolve_left (by omega), (c4 (4 * (60 + x) + y)).resolve_left (by omega)]
    have g := hl x y z
    by_cases k3 : S.2 59 (4 * S.2 68 (60 + x) + y) = 3
    · by_cases z0 : z < 0
      · exact Or.inr (Or.inr (Or.inr (Or.inr (Or.inr (Or.inl z0)))))
      have t := hk.at2 (x := x) (y := y) (by omega) (by omega) (by omega) (by omega)
      unfold tyV at t
      have t3 := t.2.2.resolve_left (fun h => h k3)
      by_cases z1 : S.2 69 (4 * (60 + x) + y) ≤ z
      · exact Or.inr (Or.inr (Or.inr (Or.inr (Or.inr (Or.inr (Or.inl z1))))))
      rw [(c5 (20 * (4 * (60 + x) + y) + z)).resolve_left (by omega)]
      omega
    · exact Or.inr (Or.inr (Or.inr (Or.inr (Or.inl k3))))
theorem HV_FR {S S' : St} (h : HV S) (k : FR S S') (e2 : S'.1 54 2 = S.1 54 2) (e59 : S'.2 59 = S.2 59) (h0 : S.2 67 0 ≤ 30) (h1 : S.2 67 1 ≤ 30) : HV S' := by
  obtain ⟨a1, a2, a3, a4, a5, a6⟩ := h
  obtain ⟨k1, k2, k3, k4⟩ := k
  have c0 : S'.2 67 0 = S.2 67 0 := (k1 0).resolve_left (by decide)
  have c1 : S'.2 67 1 = S.2 67 1 := (k1 1).resolve_left (by decide)
  have ok : ∀ hh o : Int, S'.2 67 hh = S.2 67 hh → S.2 67 hh ≤ 30 → 0 ≤ o → o ≤ 30 → OKg S hh o → OKg S' hh o := by
    intro hh o q1 q2 q3 q4 q x y
    rw [e59, q1]
    by_cases x0 : x < 0
    · exact Or.inl x0
    by_cases x1 : S.2 67 hh ≤ x
    · exact Or.inr (Or.inl x1)
    by_cases y0 : y < 0
    · exact Or.inr (Or.inr (Or.inl y0))
    by_cases y1 : 3 < y
    · exact Or.inr (Or.inr (Or.inr (Or.inl y1)))
    rw [(k2 (o + x)).resolve_left (by omega), (k3 (4 * (o + x) + y)).resolve_left (by omega)]
    exact q x y
  have ol : ∀ hh o : Int, S'.2 67 hh = S.2 67 hh → S.2 67 hh ≤ 30 → 0 ≤ o → o ≤ 30 → OKg S hh o → OLg S hh o → OLg S' hh o := by
    intro hh o q1 q2 q3 q4 qk q x y z
    rw [e59, q1]
    by_cases x0 : x < 0
    · exact Or.inl x0
    by_cases x1 : S.2 67 hh ≤ x
    · exact Or.inr (Or.inl x1)
    by_cases y0 : y < 0
    · exact Or.inr (Or.inr (Or.inl y0))
    by_cases y1 : 3 < y
    · exact Or.inr (Or.inr (Or.inr (Or.inl y1)))
    rw [(k2 (o + x)).resolve_left (by omega), (k3 (4 * (o + x) + y)).resolve_left (by omega)]
    by_cases kd : S.2 59 (4 * S.2 68 (o + x) + y) = 3
    · have t := (((qk x y).resolve_left x0).resolve_left x1).resolve_left y0
      have t := t.resolve_left y1
      unfold tyV at t
      have t3 := t.2.2.resolve_left (fun h => h kd)
      by_cases z1 : S.2 69 (4 * (o + x) + y) ≤ z
      · exact Or.inr (Or.inr (Or.inr (Or.inr (Or.inr (Or.inr (Or.inl z1))))))
      rw [(k4 (20 * (4 * (o + x) + y) + z)).resolve_left (by omega)]
      exact q x y z
    · exact Or.inr (Or.inr (Or.inr (Or.inr (Or.inl kd))))
  refine ⟨ok 0 0 c0 h0 (by decide) (by decide) a1, ol 0 0 c0 h0 (by decide) (by decide) a1 a2, ?_, ?_, ok 1 30 c1 h1 (by decide) (by decide) a5, ol 1 30 c1 h1 (by decide) (by decide) a5 a6⟩
  · intro x y z
    rw [e59, c0]
    by_cases x0 : x < 0
    · exact Or.inl x0
    by_cases x1 : S.2 67 0 ≤ x
    · exact Or.inr (Or.inl x1)
    by_cases y0 : y < 0
    · exact Or.inr (Or.inr (Or.inl y0))
    by_cases y1 : 3 < y
    · exact Or.inr (Or.inr (Or.inr (Or.inl y1)))
    rw [(k2 x).resolve_left (by omega), (k3 (4 * x + y)).resolve_left (by omega)]
    by_cases kd : S.2 59 (4 * S.2 68 x + y) = 3
    · have t := a1 x y
      simp only [Int.zero_add] at t
      have t := ((t.resolve_left x0).resolve_left x1).resolve_left y0
      have t := t.resolve_left y1
      unfold tyV at t
      have t3 := t.2.2.resolve_left (fun h => h kd)
      by_cases z1 : S.2 69 (4 * x + y) ≤ z
      · exact Or.inr (Or.inr (Or.inr (Or.inr (Or.inr (Or.inr (Or.inl z1))))))
      by_cases z0 : z < 0
      · exact Or.inr (Or.inr (Or.inr (Or.inr (Or.inr (Or.inl z0)))))
      rw [(k4 (20 * (4 * x + y) + z)).resolve_left (by omega)]
      exact a3 x y z
    · exact Or.inr (Or.inr (Or.inr (Or.inr (Or.inl kd))))
  · intro x
    rw [e2, c0]
    by_cases x1 : S.2 67 0 ≤ x
    · exact Or.inr (Or.inl x1)
    rw [(k2 x).resolve_left (by omega)]
    exact a4 x

