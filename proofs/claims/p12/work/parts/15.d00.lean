/-! READING: references lead; what was read becomes heap 1 -/
theorem EA.mv {S S' : St} {e : Int} (h : EA S e) (e1 : S'.2 98 = S.2 98) (e2 : S'.2 99 = S.2 99) (e3 : S'.2 100 = S.2 100) (e4 : S'.2 101 = S.2 101) (e5 : S'.1 54 43 = S.1 54 43) (e6 : S'.2 88 = S.2 88) (e7 : S'.2 91 = S.2 91) (e8 : S'.2 59 = S.2 59) (e9 : S'.2 67 = S.2 67) (e10 : S'.2 68 = S.2 68) : EA S' e := by
  intro x
  rcases h x with q | q | q
  · exact Or.inl q
  · exact Or.inr (Or.inl q)
  · refine Or.inr (Or.inr (EI_mono q (by rw [e1]) (by rw [e2]) (by rw [e3]) (by rw [e4]) e5 e6 e7 e8 (by rw [e9]; exact Int.le_refl _) (fun i _ _ => by rw [e10])))
theorem EA.to {S : St} {e f : Int} (h : EA S e) (q : f ≤ e) : EA S f := by
  intro x
  rcases h x with a | a | a
  · exact Or.inl a
  · exact Or.inr (Or.inl (by omega))
  · exact Or.inr (Or.inr a)
theorem EA.at {S : St} {e x : Int} (h : EA S e) (x0 : 0 ≤ x) (x1 : x < e) : EI S x := ((h x).resolve_left (by omega)).resolve_left (by omega)
/-- a reference of a field leads -/
theorem ref_val {S S' : St} {k w : Int} (hk : OKg S 2 60) (hl : OLg S 2 60) (e59 : S'.2 59 = S.2 59) (e67 : S'.2 67 = S.2 67) (e68 : S'.2 68 = S.2 68) (e70 : S'.2 70 = S.2 70) (h69 : ∀ x : Int, (x = k ∧ S'.2 69 x = w) ∨ (¬ x = k ∧ S'.2 69 x = S.2 69 x)) (k0 : 240 ≤ k) (hr : rk S k = 2) (hw : 0 ≤ w ∧ w < S.2 67 2) : OKg S' 2 60 ∧ OLg S' 2 60 := by
  have kv := h69 k
  have key : ∀ x y : Int, 0 ≤ y → y ≤ 3 → 4 * (60 + x) + y = k → S.2 59 (4 * S.2 68 (60 + x) + y) = 2 := fun x y y0 y1 q => by
    unfold rk at hr
    rw [show (k - 240) / 4 = x by omega, show (k - 240) % 4 = y by omega] at hr
    exact hr
  refine ⟨OK_slot (k := k) hk e59 e67 e68 (fun x => by have := h69 x; omega) (fun x y x0 x1 y0 y1 q => ?_), OL_slot (k := k) hl hk e59 e67 e68 (fun x => by have := h69 x; omega) (fun x => Or.inr (by rw [e70])) (fun x y z x0 x1 y0 y1 q k3 z0 z1 => ?_)⟩
  · rw [key x y y0 y1 q]
    unfold tyV
    omega
  · rw [key x y y0 y1 q] at k3
    omega
/-- a reference of a list leads -/
theorem ref_item {S S' : St} {k i w : Int} (hk : OKg S 2 60) (hl : OLg S 2 60) (e59 : S'.2 59 = S.2 59) (e67 : S'.2 67 = S.2 67) (e68 : S'.2 68 = S.2 68) (e69 : S'.2 69 = S.2 69) (h70 : ∀ x : Int, (x = 20 * k + i ∧ S'.2 70 x = w) ∨ (¬ x = 20 * k + i ∧ S'.2 70 x = S.2 70 x)) (i0 : 0 ≤ i) (i1 : i ≤ 7) (hw : 0 ≤ w ∧ w < S.2 67 2) : OKg S' 2 60 ∧ OLg S' 2 60 := by
  refine ⟨hk.mv e59 e67 e68 e69, OL_slot (k := k) hl hk e59 e67 e68 (fun x => Or.inr (by rw [e69])) (fun x => by have := h70 x; omega) (fun x y z x0 x1 y0 y1 q k3 z0 z1 => ?_)⟩
  have a := h70 (20 * k + z)
  by_cases e : z = i
  · subst e
    omega
  · have g := hl x y z
    rw [q] at g
    rw [e69] at z1
    omega
/-- what was read is copied -/
theorem HV_copy {S S' : St} {c : Int} (h : HV S) (hk : OKg S 2 60) (hl : OLg S 2 60) (hc : c = S.2 67 2) (c0 : 0 ≤ c) (c30 : c ≤ 30) (n0 : S.2 67 0 ≤ 30) (e59 : S'.2 59 = S.2 59) (e2 : S'.1 54 2 = S.1 54 2) (f0 : S'.2 67 0 = S.2 67 0) (f1 : S'.2 67 1 = c) (a68 : ∀ x : Int, 0 ≤ x → x < c → S'.2 68 (30 + x) = S.2 68 (60 + x)) (b68 : ∀ x : Int, x < 30 → S'.2 68 x = S.2 68 x) (a69 : ∀ x : Int, 0 ≤ x → x < 4 * c → S'.2 69 (120 + x) = S.2 69 (240 + x)) (b69 : ∀ x : Int, x < 120 → S'.2 69 x = S.2 69 x) (a70 : ∀ x : Int, 0 ≤ x → x < 80 * c → S'.2 70 (2400 + x) = S.2 70 (4800 + x)) (b70 : ∀ x : Int, x < 2400 → S'.2 70 x = S.2 70 x) : HV S' := by
  obtain ⟨a1, a2, a3, a4, a5, a6⟩ := h
  refine ⟨fun x y => ?_, fun x y z => ?_, fun x y z => ?_, fun x => ?_, fun x y => ?_, fun x y z => ?_⟩
  · rw [e59, f0]
    have g := a1 x y
    by_cases q : x < 0 ∨ S.2 67 0 ≤ x ∨ y < 0 ∨ 3 < y
    · omega
    · rw [b68 (0 + x) (by omega), b69 (4 * (0 + x) + y) (by omega)]
      exact g
  · rw [e59, f0]
    have g := a2 x y z
    by_cases q : x < 0 ∨ S.2 67 0 ≤ x ∨ y < 0 ∨ 3 < y
    · omega
    · rw [b68 (0 + x) (by omega), b69 (4 * (0 + x) + y) (by omega)]
      by_cases k3 : S.2 59 (4 * S.2 68 (0 + x) + y) = 3
      · have t := a1 x y
        have t := (((t.resolve_left (by omega)).resolve_left (by omega)).resolve_left (by omega)).resolve_left (by omega)
        unfold tyV at t
        have t3 := t.2.2.resolve_left (fun h => h k3)
        by_cases z1 : z < 0 ∨ S.2 69 (4 * (0 + x) + y) ≤ z
        · omega
        · rw [b70 (20 * (4 * (0 + x) + y) + z) (by omega)]
          exact g
      · omega
  · rw [e59, f0]
    have g := a3 x y z
    by_cases q : x < 0 ∨ S.2 67 0 ≤ x ∨ y < 0 ∨ 3 < y
    · omega
    · rw [b68 x (by omega), b69 (4 * x + y) (by omega)]
      by_cases k3 : S.2 59 (4 * S.2 68 x + y) = 3
      · have t := a1 x y
        simp only [Int.zero_add] at t
        have t := (((t.resolve_left (by omega)).resolve_left (by omega)).resolve_left (by omega)).resolve_left (by omega)
        unfold tyV at t
        have t3 := t.2.2.resolve_left (fun h => h k3)
        by_cases z1 : z < 0 ∨ S.2 69 (4 * x + y) ≤ z
        · omega
        · rw [b70 (20 * (4 * x + y) + z) (by omega)]
          exact g
      · omega
  · rw [e2, f0]
    have g := a4 x
    by_cases q : S.2 67 0 ≤ x
    · omega
    · rw [b68 x (by omega)]
      exact g
  · rw [e59, f1]
    by_cases q : x < 0 ∨ c ≤ x ∨ y < 0 ∨ 3 < y
    · omega
    · have g := hk.at2 (x := x) (y := y) (by omega) (by omega) (by omega) (by omega)
      rw [a68 x (by omega) (by omega), show 4 * (30 + x) + y = 120 + (4 * x + y) by omega, a69 (4 * x + y) (by omega) (by omega), show 240 + (4 * x + y) = 4 * (60 + x) + y by omega, hc]
      exact Or.inr (Or.inr (Or.inr (Or.inr g)))
  · rw [e59, f1]
    by_cases q : x < 0 ∨ c ≤ x ∨ y < 0 ∨ 3 < y
    · omega
    · have g := hl x y z
      rw [a68 x (by omega) (by omega), show 4 * (30 + x) + y = 120 + (4 * x + y) by omega, a69 (4 * x + y) (by omega) (by omega), show 240 + (4 * x + y) = 4 * (60 + x) + y by omega]
      by_cases k3 : S.2 59 (4 * S.2 68 (60 + x) + y) = 3
      · have t := hk.at2 (x := x) (y := y) (by omega) (by omega) (by omega) (by omega)
        unfold tyV at t
        have t3 := t.2.2.resolve_left (fun h => h k3)
        by_cases z1 : z < 0 ∨ S.2 69 (4 * (60 + x) + y) ≤ z
        · omega
        · rw [show 20 * (120 + (4 * x + y)) + z = 2400 + (20 * (4 * x + y) + z) by omega, a70 (20 * (4 * x + y) + z) (by omega) (by omega), show 4800 + (20 * (4 * x + y) + z) = 20 * (4 * (60 + x) + y) + z by omega]
          omega
      · omega

