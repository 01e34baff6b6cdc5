/-! HEAPS: heap h lies from object o on -/
def OKg (S : St) (h o : Int) : Prop := ∀ x y : Int, x < 0 ∨ S.2 67 h ≤ x ∨ y < 0 ∨ 3 < y ∨ tyV (S.2 67 h) (S.2 59 (4 * S.2 68 (o + x) + y)) (S.2 69 (4 * (o + x) + y))
def OLg (S : St) (h o : Int) : Prop := ∀ x y z : Int, x < 0 ∨ S.2 67 h ≤ x ∨ y < 0 ∨ 3 < y ∨ ¬ S.2 59 (4 * S.2 68 (o + x) + y) = 3 ∨ z < 0 ∨ S.2 69 (4 * (o + x) + y) ≤ z ∨ S.2 70 (20 * (4 * (o + x) + y) + z) = -2 ∨ (0 ≤ S.2 70 (20 * (4 * (o + x) + y) + z) ∧ S.2 70 (20 * (4 * (o + x) + y) + z) < S.2 67 h)
theorem tyV_mono {c c' kd v : Int} (h : tyV c kd v) (hc : c ≤ c') : tyV c' kd v := by
  unfold tyV at h ⊢
  omega
/-- what object(h, cls) leaves -/
def nObj (S S' : St) (h r c : Int) : Prop := (∀ x : Int, (x = h ∧ S'.2 67 x = S.2 67 x + 1) ∨ (¬ x = h ∧ S'.2 67 x = S.2 67 x)) ∧ (∀ x : Int, (x = r ∧ S'.2 68 x = c) ∨ (¬ x = r ∧ S'.2 68 x = S.2 68 x)) ∧ ∀ x : Int, (4 * r ≤ x ∧ x ≤ 4 * r + 3 ∧ ((S.2 59 (4 * c + (x - 4 * r)) = 2 ∧ S'.2 69 x = -2) ∨ (¬ S.2 59 (4 * c + (x - 4 * r)) = 2 ∧ S'.2 69 x = 0))) ∨ ((x < 4 * r ∨ 4 * r + 3 < x) ∧ S'.2 69 x = S.2 69 x)
theorem OKg_obj {S S' : St} {h o r c : Int} (hk : OKg S h o) (n : nObj S S' h r c) (h59 : S'.2 59 = S.2 59) (hr : r = o + S.2 67 h) (h0 : 0 ≤ S.2 67 h) : OKg S' h o := by
  obtain ⟨n1, n2, n3⟩ := n
  intro x y
  have a1 := n1 h
  have a2 := n2 (o + x)
  have a3 := n3 (4 * (o + x) + y)
  rw [h59]
  by_cases hx : o + x = r
  · have e2 : S'.2 68 (o + x) = c := by omega
    rw [e2]
    rw [show 4 * (o + x) + y - 4 * r = y by omega] at a3
    unfold tyV
    omega
  · have e2 : S'.2 68 (o + x) = S.2 68 (o + x) := by omega
    rw [e2]
    rcases hk x y with q | q | q | q | q
    · exact Or.inl q
    · by_cases q2 : S'.2 67 h ≤ x
      · exact Or.inr (Or.inl q2)
      · omega
    · exact Or.inr (Or.inr (Or.inl q))
    · exact Or.inr (Or.inr (Or.inr (Or.inl q)))
    · by_cases qy : y < 0 ∨ 3 < y
      · omega
      have e3 : S'.2 69 (4 * (o + x) + y) = S.2 69 (4 * (o + x) + y) := by omega
      rw [e3]
      exact Or.inr (Or.inr (Or.inr (Or.inr (tyV_mono q (by omega)))))
theorem OLg_obj {S S' : St} {h o r c : Int} (hk : OLg S h o) (n : nObj S S' h r c) (h59 : S'.2 59 = S.2 59) (h70 : S'.2 70 = S.2 70) (hr : r = o + S.2 67 h) (h0 : 0 ≤ S.2 67 h) : OLg S' h o := by
  obtain ⟨n1, n2, n3⟩ := n
  intro x y z
  have a1 := n1 h
  have a2 := n2 (o + x)
  have a3 := n3 (4 * (o + x) + y)
  rw [h59, h70]
  by_cases hx : o + x = r
  · have e2 : S'.2 68 (o + x) = c := by omega
    rw [e2]
    rw [show 4 * (o + x) + y - 4 * r = y by omega] at a3
    omega
  · have e2 : S'.2 68 (o + x) = S.2 68 (o + x) := by omega
    rw [e2]
    have := hk x y z
    by_cases qy : y < 0 ∨ 3 < y
    · omega
    have e3 : S'.2 69 (4 * (o + x) + y) = S.2 69 (4 * (o + x) + y) := by omega
    rw [e3]
    omega
theorem OKg_far {S S' : St} {h o h2 r c : Int} (hk : OKg S h o) (n : nObj S S' h2 r c) (h59 : S'.2 59 = S.2 59) (hne : ¬ h = h2) (hf : ∀ x : Int, 0 ≤ x → x < S.2 67 h → ¬ o + x = r) : OKg S' h o := by
  obtain ⟨n1, n2, n3⟩ := n
  intro x y
  have a1 := n1 h
  have a2 := n2 (o + x)
  have a3 := n3 (4 * (o + x) + y)
  have e1 : S'.2 67 h = S.2 67 h := by omega
  rw [h59, e1]
  by_cases hx : x < 0
  · exact Or.inl hx
  by_cases hx1 : S.2 67 h ≤ x
  · exact Or.inr (Or.inl hx1)
  have hf := hf x (by omega) (by omega)
  by_cases qy : y < 0
  · exact Or.inr (Or.inr (Or.inl qy))
  by_cases qy2 : 3 < y
  · exact Or.inr (Or.inr (Or.inr (Or.inl qy2)))
  have e2 : S'.2 68 (o + x) = S.2 68 (o + x) := by omega
  have e3 : S'.2 69 (4 * (o + x) + y) = S.2 69 (4 * (o + x) + y) := by omega
  rw [e2, e3]
  exact hk x y
theorem OLg_far {S S' : St} {h o h2 r c : Int} (hk : OLg S h o) (n : nObj S S' h2 r c) (h59 : S'.2 59 = S.2 59) (h70 : S'.2 70 = S.2 70) (hne : ¬ h = h2) (hf : ∀ x : Int, 0 ≤ x → x < S.2 67 h → ¬ o + x = r) : OLg S' h o := by
  obtain ⟨n1, n2, n3⟩ := n
  intro x y z
  have a1 := n1 h
  have a2 := n2 (o + x)
  have a3 := n3 (4 * (o + x) + y)
  have e1 : S'.2 67 h = S.2 67 h := by omega
  rw [h59, h70, e1]
  by_cases hx : x < 0
  · exact Or.inl hx
  by_cases hx1 : S.2 67 h ≤ x
  · exact Or.inr (Or.inl hx1)
  have hf := hf x (by omega) (by omega)
  by_cases qy : y < 0
  · exact Or.inr (Or.inr (Or.inl qy))
  by_cases qy2 : 3 < y
  · exact Or.inr (Or.inr (Or.inr (Or.inl qy2)))
  have e2 : S'.2 68 (o + x) = S.2 68 (o + x) := by omega
  have e3 : S'.2 69 (4 * (o + x) + y) = S.2 69 (4 * (o + x) + y) := by omega
  rw [e2, e3]
  exact hk x y z
theorem OK_slot {S S' : St} {h o k : Int} (hk : OKg S h o) (e59 : S'.2 59 = S.2 59) (e67 : S'.2 67 = S.2 67) (e68 : S'.2 68 = S.2 68) (h69 : ∀ x : Int, x = k ∨ S'.2 69 x = S.2 69 x) (hv : ∀ x y : Int, 0 ≤ x → x < S.2 67 h → 0 ≤ y → y ≤ 3 → 4 * (o + x) + y = k → tyV (S.2 67 h) (S.2 59 (4 * S.2 68 (o + x) + y)) (S'.2 69 k)) : OKg S' h o := by
  intro x y
  rw [e59, e67, e68]
  by_cases x0 : x < 0
  · exact Or.inl x0
  by_cases x1 : S.2 67 h ≤ x
  · exact Or.inr (Or.inl x1)
  by_cases y0 : y < 0
  · exact Or.inr (Or.inr (Or.inl y0))
  by_cases y1 : 3 < y
  · exact Or.inr (Or.inr (Or.inr (Or.inl y1)))
  by_cases q : 4 * (o + x) + y = k
  · have := hv x y (by omega) (by omega) (by omega) (by omega) q
    rw [q]
    exact Or.inr (Or.inr (Or.inr (Or.inr this)))
  · rw [(h69 _).resolve_left q]
    exact hk x y
theorem OL_slot {S S' : St} {h o k : Int} (hl : OLg S h o) (hk : OKg S h o) (e59 : S'.2 59 = S.2 59) (e67 : S'.2 67 = S.2 67) (e68 : S'.2 68 = S.2 68) (h69 : ∀ x : Int, x = k ∨ S'.2 69 x = S.2 69 x) (h70 : ∀ x : Int, (20 * k ≤ x ∧ x < 20 * k + 20) ∨ S'.2 70 x = S.2 70 x) (hv : ∀ x y z : Int, 0 ≤ x → x < S.2 67 h → 0 ≤ y → y ≤ 3 → 4 * (o + x) + y = k → S.2 59 (4 * S.2 68 (o + x) + y) = 3 → 0 ≤ z → z < S'.2 69 k → S'.2 70 (20 * k + z) = -2 ∨ (0 ≤ S'.2 70 (20 * k + z) ∧ S'.2 70 (20 * k + z) < S.2 67 h)) : OLg S' h o := by
  intro x y z
  rw [e59, e67, e68]
  by_cases x0 : x < 0
  · exact Or.inl x0
  by_cases x1 : S.2 67 h ≤ x
  · exact Or.inr (Or.inl x1)
  by_cases y0 : y < 0
  · exact Or.inr (Or.inr (Or.inl y0))
  by_cases y1 : 3 < y
  · exact Or.inr (Or.inr (Or.inr (Or.inl y1)))
  by_cases k3 : S.2 59 (4 * S.2 68 (o + x) + y) = 3
  · by_cases z0 : z < 0
    · exact Or.inr (Or.inr (Or.inr (Or.inr (Or.inr (Or.inl z0)))))
    by_cases q : 4 * (o + x) + y = k
    · have := hv x y z (by omega) (by omega) (by omega) (by omega) q k3 (by omega)
      rw [q]
      by_cases z1 : S'.2 69 k ≤ z
      · exact Or.inr (Or.inr (Or.inr (Or.inr (Or.inr (Or.inr (Or.inl z1))))))
      · exact Or.inr (Or.inr (Or.inr (Or.inr (Or.inr (Or.inr (Or.inr (this (by omega))))))))
    · rw [(h69 _).resolve_left q]
      by_cases z1 : S.2 69 (4 * (o + x) + y) ≤ z
      · exact Or.inr (Or.inr (Or.inr (Or.inr (Or.inr (Or.inr (Or.inl z1))))))
      have t := (((hk x y).resolve_left x0).resolve_left x1).resolve_left y0
      have t := t.resolve_left y1
      unfold tyV at t
      have t3 := t.2.2.resolve_left (fun h => h k3)
      have e := (h70 (20 * (4 * (o + x) + y) + z)).resolve_left (by omega)
      rw [e]
      exact hl x y z
  · exact Or.inr (Or.inr (Or.inr (Or.inr (Or.inl k3))))
/-- heap 0: a list has no empty place -/
def OLs (S : St) : Prop := ∀ x y z : Int, x < 0 ∨ S.2 67 0 ≤ x ∨ y < 0 ∨ 3 < y ∨ ¬ S.2 59 (4 * S.2 68 x + y) = 3 ∨ z < 0 ∨ S.2 69 (4 * x + y) ≤ z ∨ 0 ≤ S.2 70 (20 * (4 * x + y) + z)
theorem OLs_slot {S S' : St} {k : Int} (hl : OLs S) (hk : OKg S 0 0) (e59 : S'.2 59 = S.2 59) (e67 : S'.2 67 = S.2 67) (e68 : S'.2 68 = S.2 68) (h69 : ∀ x : Int, x = k ∨ S'.2 69 x = S.2 69 x) (h70 : ∀ x : Int, (20 * k ≤ x ∧ x < 20 * k + 20) ∨ S'.2 70 x = S.2 70 x) (hv : ∀ x y z : Int, 0 ≤ x → x < S.2 67 0 → 0 ≤ y → y ≤ 3 → 4 * x + y = k → S.2 59 (4 * S.2 68 x + y) = 3 → 0 ≤ z → z < S'.2 69 k → 0 ≤ S'.2 70 (20 * k + z)) : OLs S' := by
  intro x y z
  rw [e59, e67, e68]
  by_cases x0 : x < 0
  · exact Or.inl x0
  by_cases x1 : S.2 67 0 ≤ x
  · exact Or.inr (Or.inl x1)
  by_cases y0 : y < 0
  · exact Or.inr (Or.inr (Or.inl y0))
  by_cases y1 : 3 < y
  · exact Or.inr (Or.inr (Or.inr (Or.inl y1)))
  by_cases k3 : S.2 59 (4 * S.2 68 x + y) = 3
  · by_cases z0 : z < 0
    · exact Or.inr (Or.inr (Or.inr (Or.inr (Or.inr (Or.inl z0)))))
    by_cases q : 4 * x + y = k
    · have := hv x y z (by omega) (by omega) (by omega) (by omega) q k3 (by omega)
      rw [q]
      by_cases z1 : S'.2 69 k ≤ z
      · exact Or.inr (Or.inr (Or.inr (Or.inr (Or.inr (Or.inr (Or.inl z1))))))
      · exact Or.inr (Or.inr (Or.inr (Or.inr (Or.inr (Or.inr (Or.inr (this (by omega))))))))
    · rw [(h69 _).resolve_left q]
      by_cases z1 : S.2 69 (4 * x + y) ≤ z
      · exact Or.inr (Or.inr (Or.inr (Or.inr (Or.inr (Or.inr (Or.inl z1))))))
      have t := hk x y
      simp only [Int.zero_add] at t
      have t := ((t.resolve_left x0).resolve_left x1).resolve_left y0
      have t := t.resolve_left y1
      unfold tyV at t
      have t3 := t.2.2.resolve_left (fun h => h k3)
      have e := (h70 (20 * (4 * x + y) + z)).resolve_left (by omega)
      rw [e]
      exact hl x y z
  · exact Or.inr (Or.inr (Or.inr (Or.inr (Or.inl k3))))
theorem OLs_obj {S S' : St} {c : Int} (hk : OLs S) (n : nObj S S' 0 (S.2 67 0) c) (h59 : S'.2 59 = S.2 59) (h70 : S'.2 70 = S.2 70) (h0 : 0 ≤ S.2 67 0) : OLs S' := by
  obtain ⟨n1, n2, n3⟩ := n
  intro x y z
  have a1 := n1 0
  have a2 := n2 x
  have a3 := n3 (4 * x + y)
  rw [h59, h70]
  by_cases hx : x = S.2 67 0
  · have e2 : S'.2 68 x = c := by omega
    rw [e2]
    rw [show 4 * x + y - 4 * S.2 67 0 = y by omega] at a3
    omega
  · have e2 : S'.2 68 x = S.2 68 x := by omega
    rw [e2]
    have := hk x y z
    by_cases qy : y < 0 ∨ 3 < y
    · omega
    have e3 : S'.2 69 (4 * x + y) = S.2 69 (4 * x + y) := by omega
    rw [e3]
    omega
/-- what is kept between calls -/
def HV (S : St) : Prop := OKg S 0 0 ∧ OLg S 0 0 ∧ OLs S ∧ OC0 S ∧ OKg S 1 30 ∧ OLg S 1 30
theorem HV.mv {S S' : St} (h : HV S) (e0 : S'.1 54 2 = S.1 54 2) (e1 : S'.2 59 = S.2 59) (e2 : S'.2 67 = S.2 67) (e3 : S'.2 68 = S.2 68) (e4 : S'.2 69 = S.2 69) (e5 : S'.2 70 = S.2 70) : HV S' := by
  unfold HV OKg OLg OLs OC0
  rw [e0, e1, e2, e3, e4, e5]
  exact h
theorem HV_obj {S S' : St} {c : Int} (h : HV S) (n : nObj S S' 0 (S.2 67 0) c) (h59 : S'.2 59 = S.2 59) (h70 : S'.2 70 = S.2 70) (e2 : S'.1 54 2 = S.1 54 2) (h0 : 0 ≤ S.2 67 0) (h30 : S.2 67 0 < 30) (hc : c < S.1 54 2) : HV S' := by
  obtain ⟨a1, a2, a3, a4, a5, a6⟩ := h
  refine ⟨OKg_obj a1 n h59 (by omega) h0, OLg_obj a2 n h59 h70 (by omega) h0, OLs_obj a3 n h59 h70 h0, ?_, OKg_far a5 n h59 (by decide) (fun x x0 x1 => by omega), OLg_far a6 n h59 h70 (by decide) (fun x x0 x1 => by omega)⟩
  intro x
  have b1 := n.1 0
  have b2 := n.2.1 x
  have b3 := a4 x
  rw [e2]
  omega
/-- a field of an object of heap 0 gets another value -/
theorem HV_slot {S S' : St} {a f : Int} (h : HV S) (e59 : S'.2 59 = S.2 59) (e67 : S'.2 67 = S.2 67) (e68 : S'.2 68 = S.2 68) (e2 : S'.1 54 2 = S.1 54 2) (a0 : 0 ≤ a) (a1 : a < S.2 67 0) (a2 : a < 30) (f0 : 0 ≤ f) (f1 : f ≤ 3) (h69 : ∀ x : Int, x = 4 * a + f ∨ S'.2 69 x = S.2 69 x) (h70 : ∀ x : Int, (20 * (4 * a + f) ≤ x ∧ x < 20 * (4 * a + f) + 20) ∨ S'.2 70 x = S.2 70 x) (hv : tyV (S.2 67 0) (S.2 59 (4 * S.2 68 a + f)) (S'.2 69 (4 * a + f))) (hl : ∀ z : Int, S.2 59 (4 * S.2 68 a + f) = 3 → 0 ≤ z → z < S'.2 69 (4 * a + f) → 0 ≤ S'.2 70 (20 * (4 * a + f) + z) ∧ S'.2 70 (20 * (4 * a + f) + z) < S.2 67 0) : HV S' := by
  obtain ⟨b1, b2, b3, b4, b5, b6⟩ := h
  have key : ∀ x y : Int, 0 ≤ y → y ≤ 3 → 4 * (0 + x) + y = 4 * a + f → x = a ∧ y = f := fun x y q1 q2 q3 => by omega
  refine ⟨OK_slot b1 e59 e67 e68 h69 (fun x y x0 x1 y0 y1 q => ?_), OL_slot b2 b1 e59 e67 e68 h69 h70 (fun x y z x0 x1 y0 y1 q k3 z0 z1 => ?_), OLs_slot b3 b1 e59 e67 e68 h69 h70 (fun x y z x0 x1 y0 y1 q k3 z0 z1 => ?_), ?_, OK_slot b5 e59 e67 e68 h69 (fun x y x0 x1 y0 y1 q => by omega), OL_slot b6 b5 e59 e67 e68 h69 h70 (fun x y z x0 x1 y0 y1 q k3 z0 z1 => by omega)⟩
  · obtain ⟨rfl, rfl⟩ := key x y y0 y1 q
    rw [Int.zero_add]
    exact hv
  · obtain ⟨rfl, rfl⟩ := key x y y0 y1 q
    rw [Int.zero_add] at k3
    exact Or.inr (hl z k3 z0 z1)
  · obtain ⟨rfl, rfl⟩ := key x y y0 y1 (by omega)
    exact (hl z k3 z0 z1).1
  · unfold OC0
    rw [e2, e67, e68]
    exact b4
theorem HV.k0 {S : St} (h : HV S) {x y : Int} (x0 : 0 ≤ x) (x1 : x < S.2 67 0) (y0 : 0 ≤ y) (y1 : y ≤ 3) : tyV (S.2 67 0) (S.2 59 (4 * S.2 68 x + y)) (S.2 69 (4 * x + y)) := by
  have := h.1 x y
  simp only [Int.zero_add] at this
  exact (((this.resolve_left (by omega)).resolve_left (by omega)).resolve_left (by omega)).resolve_left (by omega)
theorem HV.k1 {S : St} (h : HV S) {x y : Int} (x0 : 0 ≤ x) (x1 : x < S.2 67 1) (y0 : 0 ≤ y) (y1 : y ≤ 3) : tyV (S.2 67 1) (S.2 59 (4 * S.2 68 (30 + x) + y)) (S.2 69 (4 * (30 + x) + y)) := by
  have := h.2.2.2.2.1 x y
  exact (((this.resolve_left (by omega)).resolve_left (by omega)).resolve_left (by omega)).resolve_left (by omega)
theorem HV.l0 {S : St} (h : HV S) {x y z : Int} (x0 : 0 ≤ x) (x1 : x < S.2 67 0) (y0 : 0 ≤ y) (y1 : y ≤ 3) (k3 : S.2 59 (4 * S.2 68 x + y) = 3) (z0 : 0 ≤ z) (z1 : z < S.2 69 (4 * x + y)) : 0 ≤ S.2 70 (20 * (4 * x + y) + z) ∧ S.2 70 (20 * (4 * x + y) + z) < S.2 67 0 := by
  have a := h.2.1 x y z
  simp only [Int.zero_add] at a
  have b := h.2.2.1 x y z
  omega
theorem HV.l1 {S : St} (h : HV S) {x y z : Int} (x0 : 0 ≤ x) (x1 : x < S.2 67 1) (y0 : 0 ≤ y) (y1 : y ≤ 3) (k3 : S.2 59 (4 * S.2 68 (30 + x) + y) = 3) (z0 : 0 ≤ z) (z1 : z < S.2 69 (4 * (30 + x) + y)) : S.2 70 (20 * (4 * (30 + x) + y) + z) = -2 ∨ (0 ≤ S.2 70 (20 * (4 * (30 + x) + y) + z) ∧ S.2 70 (20 * (4 * (30 + x) + y) + z) < S.2 67 1) := by
  have a := h.2.2.2.2.2 x y z
  omega
theorem PI0.mv {S S' : St} (h : PI0 S) (e1 : S'.1 54 71 = S.1 54 71) (e2 : S'.2 67 = S.2 67) (e3 : S'.2 105 = S.2 105) (e4 : S'.2 106 = S.2 106) : PI0 S' := by
  unfold PI0
  rw [e1, e2, e3, e4]
  exact h
theorem PD0.mv {S S' : St} (h : PD0 S) (e1 : S'.1 54 71 = S.1 54 71) (e3 : S'.2 105 = S.2 105) : PD0 S' := by
  unfold PD0
  rw [e1, e3]
  exact h

