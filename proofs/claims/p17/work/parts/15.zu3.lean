/-! READING XML: the class's tree -/
def cXe (S : St) (E : List Xe) : Prop := S.1 3 16 = E.length ∧ ∀ k : Nat, k < E.length → S.2 6 k = (E.getD k e6).1 ∧ S.2 7 k = (E.getD k e6).1 + 1 ∧ S.2 8 k = (E.getD k e6).2.1 ∧ S.2 9 k = (E.getD k e6).2.2.1 ∧ S.2 11 k = (E.getD k e6).2.2.2.1 ∧ S.2 12 k = (E.getD k e6).2.2.2.2.1
def cXa (S : St) (A : List Xa) : Prop := S.1 3 17 = A.length ∧ ∀ k : Nat, k < A.length → S.2 16 k = (A.getD k a4).1 ∧ S.2 17 k = (A.getD k a4).2.1 ∧ S.2 18 k = (A.getD k a4).2.2.1 ∧ S.2 19 k = (A.getD k a4).2.2.2
def cXv (S : St) (V : List (Int × Int)) : Prop := S.1 4 1 = V.length ∧ ∀ k : Nat, k < V.length → S.2 4 k = (V.getD k (0, 0)).1
def cX (S : St) (s : Xs) : Prop := cXe S s.1 ∧ cXa S s.2.1 ∧ cXv S s.2.2
/-- kids, more than blanks, where texts stand, whose signs are -/
def KD (S : St) (E : List Xe) : Prop := ∀ k : Nat, k < E.length → 0 ≤ S.2 10 k ∧ S.2 10 k ≤ E.length ∧ (0 < S.2 10 k ↔ ∃ j : Nat, j < E.length ∧ (E.getD j e6).2.2.1 = k)
def SD (S : St) (E : List Xe) (V : List (Int × Int)) : Prop := ∀ k : Nat, k < E.length → (S.2 15 k = 1 ∧ ∃ i : Nat, i < V.length ∧ (V.getD i (0, 0)).2 = k ∧ ¬ isBl (V.getD i (0, 0)).1) ∨ (S.2 15 k = 0 ∧ ∀ i : Nat, i < V.length → (V.getD i (0, 0)).2 = k → isBl (V.getD i (0, 0)).1)
def TD (S : St) (V : List (Int × Int)) (m : Nat) : Prop := ∀ k : Nat, k < m → 0 ≤ S.2 13 k ∧ S.2 13 k ≤ S.2 14 k ∧ S.2 14 k ≤ V.length ∧ (¬ 0 < S.2 10 k → ∀ i : Nat, i < V.length → ((V.getD i (0, 0)).2 = k ↔ S.2 13 k ≤ i ∧ (i : Int) < S.2 14 k))
def OD (E : List Xe) (V : List (Int × Int)) : Prop := ∀ i : Nat, i < V.length → (V.getD i (0, 0)).2 < E.length
def CF (S S' : St) : Prop := (∀ a, a ≠ 3 → a ≠ 4 → a ≠ 220 → S'.1 a = S.1 a) ∧ ∀ a, a ≠ 4 → (a < 6 ∨ 19 < a) → S'.2 a = S.2 a
theorem CF.rf {S : St} : CF S S := ⟨fun _ _ _ _ => rfl, fun _ _ _ => rfl⟩
theorem CF.tr {S S1 S2 : St} (h : CF S S1) (g : CF S1 S2) : CF S S2 := ⟨fun a q1 q2 q3 => (g.1 a q1 q2 q3).trans (h.1 a q1 q2 q3), fun a q1 q2 => (g.2 a q1 q2).trans (h.2 a q1 q2)⟩
theorem CF.pi {S : St} {j : Nat} {x : Int} : CF S (pI S 220 j x) := ⟨fun a _ _ q => funext fun j' => pI_j (fun z => q z.1), fun _ _ _ => rfl⟩
theorem rTx.cf {S S' : St} {T : Int → Int} {n : Int} (h : rTx S T n) (k : CF S S') : rTx S' T n := h.mv (k.1 1 (by decide) (by decide) (by decide)) (k.2 1 (by decide) (by decide))
theorem TRS.mk {S S' : St} (h : TRS S) (h16 : S'.1 3 16 = S.1 3 16) (h17 : S.1 3 17 ≤ S'.1 3 17) (h11 : ∀ e, e < S.1 3 16 → S'.2 11 e = S.2 11 e) (h12 : ∀ e, e < S.1 3 16 → S'.2 12 e = S.2 12 e) : TRS S' := by
  intro e e0 e1
  rw [h16] at e1
  rw [h11 e e1, h12 e e1]
  exact Int.le_trans (h e e0 e1) h17
theorem trs_of {S : St} {n p : Int} {E : List Xe} {A : List Xa} {V : List (Int × Int)} (hE : cXe S E) (hA : cXa S A) (hw : WX n (E, A, V) p) : TRS S := by
  intro e e0 e1
  rw [hE.1] at e1
  have h1 := hE.2 e.toNat (by omega)
  have h2 := hw.2.2.1 e.toNat (by show e.toNat < E.length; omega)
  have h2 : (E.getD e.toNat e6).2.2.2.1 + (E.getD e.toNat e6).2.2.2.2.1 ≤ (A.length : Int) := h2.2.2.2.2.2.2.2
  rw [show ((e.toNat : Nat) : Int) = e by omega] at h1
  rw [hA.1, h1.2.2.2.2.1, h1.2.2.2.2.2]
  exact h2
theorem cX.pi {S : St} {s : Xs} {j : Nat} {x : Int} (h : cX S s) : cX (pI S 220 j x) s := h
section YT
variable {S : St} {K : Int → St → Prop} {T : Int → Int} {n p u i a1 a2 a3 : Int} {E : List Xe} {A : List Xa} {V : List (Int × Int)}
theorem k_has (h16 : S.1 3 16 = E.length) (hK : ∀ r, (r = 1 ∧ 0 ≤ a1 ∧ a1 < E.length) ∨ (r = 0 ∧ ¬ (0 ≤ a1 ∧ a1 < E.length)) → K r S) : wX6_has a1 S K := by
  unfold wX6_has
  intro _
  rw [h16]
  exact ⟨fun z => hK 0 (Or.inr ⟨rfl, by omega⟩), fun z _ => ⟨fun z2 => hK 0 (Or.inr ⟨rfl, by omega⟩), fun z2 => hK 1 (Or.inl ⟨rfl, by omega, by omega⟩)⟩⟩
/-- what begin leaves -/
def BgO (S S' : St) (m : Int) (am : Int) (a1 a2 a3 : Int) : Prop := (S'.1 3 16 = m + 1) ∧ (∀ a j, ¬ (a = 3 ∧ j = 16) → S'.1 a j = S.1 a j) ∧ (∀ y, S'.2 6 y = if y = m then a1 else S.2 6 y) ∧ (∀ y, S'.2 7 y = if y = m then a1 + 1 else S.2 7 y) ∧ (∀ y, S'.2 8 y = if y = m then a2 else S.2 8 y) ∧ (∀ y, S'.2 9 y = if y = m then a3 else S.2 9 y) ∧ (∀ y, S'.2 10 y = if 0 ≤ a3 ∧ y = a3 then S.2 10 y + 1 else if y = m then 0 else S.2 10 y) ∧ (∀ y, S'.2 11 y = if y = m then am else S.2 11 y) ∧ (∀ y, S'.2 12 y = if y = m then 0 else S.2 12 y) ∧ (∀ y, S'.2 15 y = if y = m then 0 else S.2 15 y) ∧ (∀ a, a ≠ 6 → a ≠ 7 → a ≠ 8 → a ≠ 9 → a ≠ 10 → a ≠ 11 → a ≠ 12 → a ≠ 15 → S'.2 a = S.2 a)
theorem k_begin (h16 : S.1 3 16 = E.length) (h17 : S.1 3 17 = A.length) (hT : TRS S) (hl : E.length < 200) (h3 : -1 ≤ a3) (h3' : a3 < E.length) (h10 : 0 ≤ a3 → iv 0 200 (S.2 10 a3)) (g1 : iv 0 3010 a1) (hK : ∀ S', BgO S S' E.length A.length a1 a2 a3 → K E.length S') : wX6_begin a1 a2 a3 S K := by
  unfold wX6_begin
  intro _ g2 _
  rw [h16]
  refine fun _ => ⟨fun _ => ⟨by omega, by omega, ⟨by omega, by omega⟩, fun S4 e4 => ?_⟩, fun z => absurd (by omega) z⟩
  have q4 : S4.1 = S.1 := by rw [e4]; rfl
  rw [q4, h16]
  refine fun _ => ⟨by omega, by omega, ⟨by omega, by omega⟩, fun S8 e8 => ?_⟩
  have q8 : S8.1 = S.1 := by rw [e8]; exact q4
  rw [q8, h16]
  refine fun _ => ⟨by omega, by omega, ⟨by omega, by omega⟩, fun S12 e12 => ?_⟩
  have q12 : S12.1 = S.1 := by rw [e12]; exact q8
  rw [q12, h16]
  refine fun _ => ⟨by omega, by omega, ⟨by omega, by omega⟩, fun S16 e16 => ?_⟩
  have q16 : S16.1 = S.1 := by rw [e16]; exact q12
  rw [q16, h16]
  refine fun _ => ⟨by omega, by omega, fun S20 e20 => ?_⟩
  have q20 : S20.1 = S.1 := by rw [e20]; exact q16
  have z20 : ∀ a, a ≠ 6 → a ≠ 7 → a ≠ 8 → a ≠ 9 → a ≠ 10 → S20.2 a = S.2 a := fun a k1 k2 k3 k4 k5 => by
    rw [e20, (pA_ne a k5).2, e16, (pA_ne a k4).2, e12, (pA_ne a k3).2, e8, (pA_ne a k2).2, e4, (pA_ne a k1).2]
  have t20 : TRS S20 := hT.mk (by rw [q20]) (by rw [q20]; exact Int.le_refl _) (fun e _ => by rw [z20 11 (by decide) (by decide) (by decide) (by decide) (by decide)]) (fun e _ => by rw [z20 12 (by decide) (by decide) (by decide) (by decide) (by decide)])
  rw [q20, h16, h17]
  refine fun _ _ => ⟨by omega, by omega, t20.mk rfl (Int.le_refl _) (fun e he => ?_) (fun e _ => by rw [(pA_ne 12 (by decide)).2]), fun S24 e24 => ?_⟩
  · rw [pA_if, if_neg (by rw [q20, h16] at he; omega)]
  have q24 : S24.1 = S.1 := by rw [e24]; exact q20
  have t24 : TRS S24 := t20.mk (by rw [q24, q20]) (by rw [q24, q20]; exact Int.le_refl _) (fun e he => by rw [e24, pA_if, if_neg (by rw [q20, h16] at he; omega)]) (fun e _ => by rw [e24, (pA_ne 12 (by decide)).2])
  rw [q24, h16]
  refine fun _ => ⟨by omega, by omega, t24.mk rfl (Int.le_refl _) (fun e _ => by rw [(pA_ne 11 (by decide)).2]) (fun e he => ?_), fun S28 e28 => ?_⟩
  · rw [pA_if, if_neg (by rw [q24, h16] at he; omega)]
  have q28 : S28.1 = S.1 := by rw [e28]; exact q24
  have t28 : TRS S28 := t24.mk (by rw [q28, q24]) (by rw [q28, q24]; exact Int.le_refl _) (fun e _ => by rw [e28, (pA_ne 11 (by decide)).2]) (fun e he => by rw [e28, pA_if, if_neg (by rw [q24, h16] at he; omega)])
  rw [q28, h16]
  refine fun _ => ⟨by omega, by omega, fun S32 e32 => ?_⟩
  have q32 : S32.1 = S.1 := by rw [e32]; exact q28
  have y11 : ∀ y, S32.2 11 y = if y = (E.length : Int) then (A.length : Int) else S.2 11 y := fun y => by
    rw [e32, (pA_ne 11 (by decide)).2, e28, (pA_ne 11 (by decide)).2, e24, pA_if, z20 11 (by decide) (by decide) (by decide) (by decide) (by decide)]
  have y12 : ∀ y, S32.2 12 y = if y = (E.length : Int) then 0 else S.2 12 y := fun y => by
    rw [e32, (pA_ne 12 (by decide)).2, e28, pA_if, e24, (pA_ne 12 (by decide)).2, z20 12 (by decide) (by decide) (by decide) (by decide) (by decide)]
  have y10 : ∀ y, S32.2 10 y = if y = (E.length : Int) then 0 else S.2 10 y := fun y => by
    rw [e32, (pA_ne 10 (by decide)).2, e28, (pA_ne 10 (by decide)).2, e24, (pA_ne 10 (by decide)).2, e20, pA_if, e16, (pA_ne 10 (by decide)).2, e12, (pA_ne 10 (by decide)).2, e8, (pA_ne 10 (by decide)).2, e4, (pA_ne 10 (by decide)).2]
  have y6 : ∀ y, S32.2 6 y = if y = (E.length : Int) then a1 else S.2 6 y := fun y => by
    rw [e32, (pA_ne 6 (by decide)).2, e28, (pA_ne 6 (by decide)).2, e24, (pA_ne 6 (by decide)).2, e20, (pA_ne 6 (by decide)).2, e16, (pA_ne 6 (by decide)).2, e12, (pA_ne 6 (by decide)).2, e8, (pA_ne 6 (by decide)).2, e4, pA_if]
  have y7 : ∀ y, S32.2 7 y = if y = (E.length : Int) then a1 + 1 else S.2 7 y := fun y => by
    rw [e32, (pA_ne 7 (by decide)).2, e28, (pA_ne 7 (by decide)).2, e24, (pA_ne 7 (by decide)).2, e20, (pA_ne 7 (by decide)).2, e16, (pA_ne 7 (by decide)).2, e12, (pA_ne 7 (by decide)).2, e8, pA_if, e4, (pA_ne 7 (by decide)).2]
  have y8 : ∀ y, S32.2 8 y = if y = (E.length : Int) then a2 else S.2 8 y := fun y => by
    rw [e32, (pA_ne 8 (by decide)).2, e28, (pA_ne 8 (by decide)).2, e24, (pA_ne 8 (by decide)).2, e20, (pA_ne 8 (by decide)).2, e16, (pA_ne 8 (by decide)).2, e12, pA_if, e8, (pA_ne 8 (by decide)).2, e4, (pA_ne 8 (by decide)).2]
  have y9 : ∀ y, S32.2 9 y = if y = (E.length : Int) then a3 else S.2 9 y := fun y => by
    rw [e32, (pA_ne 9 (by decide)).2, e28, (pA_ne 9 (by decide)).2, e24, (pA_ne 9 (by decide)).2, e20, (pA_ne 9 (by decide)).2, e16, pA_if, e12, (pA_ne 9 (by decide)).2, e8, (pA_ne 9 (by decide)).2, e4, (pA_ne 9 (by decide)).2]
  have y15 : ∀ y, S32.2 15 y = if y = (E.length : Int) then 0 else S.2 15 y := fun y => by
    rw [e32, pA_if, e28, (pA_ne 15 (by decide)).2, e24, (pA_ne 15 (by decide)).2, z20 15 (by decide) (by decide) (by decide) (by decide) (by decide)]
  have yo : ∀ a, a ≠ 6 → a ≠ 7 → a ≠ 8 → a ≠ 9 → a ≠ 10 → a ≠ 11 → a ≠ 12 → a ≠ 15 → S32.2 a = S.2 a := fun a k1 k2 k3 k4 k5 k6 k7 k8 => by
    rw [e32, (pA_ne a k8).2, e28, (pA_ne a k7).2, e24, (pA_ne a k6).2, z20 a k1 k2 k3 k4 k5]
  have t32 : TRS S32 := t28.mk (by rw [q32, q28]) (by rw [q32, q28]; exact Int.le_refl _) (fun e _ => by rw [e32, (pA_ne 11 (by decide)).2]) (fun e _ => by rw [e32, (pA_ne 12 (by decide)).2])
  clear e4 e8 e12 e16 e20 e24 e28 e32 q4 q8 q12 q16 q20 q24 q28 t20 t24 t28 z20
  have h16' : S32.1 3 16 = E.length := by rw [q32]; exact h16
  have fin : ∀ S33 : St, S33.1 = S.1 → (∀ a, a ≠ 10 → S33.2 a = S32.2 a) → (∀ y, S33.2 10 y = if 0 ≤ a3 ∧ y = a3 then S.2 10 y + 1 else if y = (E.length : Int) then 0 else S.2 10 y) → wX6_begin_115 S33 K := fun S33 r1 r2 r10 => by
    unfold wX6_begin_115
    rw [r1, h16]
    refine fun _ => ⟨⟨by omega, by omega⟩, ?_, fun S2 e2 => ?_⟩
    · intro e e0 e1
      have e1 : e < (E.length : Int) + 1 := e1
      show S33.2 11 e + S33.2 12 e ≤ S33.1 3 17
      rw [r1, h17, r2 11 (by decide), r2 12 (by decide)]
      by_cases c : e = (E.length : Int)
      · rw [y11, y12, if_pos c, if_pos c]
        omega
      · have := t32 e e0 (by rw [h16']; omega)
        rw [q32, h17] at this
        exact this
    · have q2 : S2.1 3 16 = (E.length : Int) + 1 := by rw [e2]; exact pI_v
      rw [q2, show (E.length : Int) + 1 - 1 = E.length by omega]
      refine fun _ => hK S2 ⟨q2, fun a j h => by rw [e2, pI_j h, r1], fun y => ?_, fun y => ?_, fun y => ?_, fun y => ?_, fun y => ?_, fun y => ?_, fun y => ?_, fun y => ?_, fun a k1 k2 k3 k4 k5 k6 k7 k8 => ?_⟩
      · rw [e2]; show S33.2 6 y = _; rw [r2 6 (by decide), y6]
      · rw [e2]; show S33.2 7 y = _; rw [r2 7 (by decide), y7]
      · rw [e2]; show S33.2 8 y = _; rw [r2 8 (by decide), y8]
      · rw [e2]; show S33.2 9 y = _; rw [r2 9 (by decide), y9]
      · rw [e2]; exact r10 y
      · rw [e2]; show S33.2 11 y = _; rw [r2 11 (by decide), y11]
      · rw [e2]; show S33.2 12 y = _; rw [r2 12 (by decide), y12]
      · rw [e2]; show S33.2 15 y = _; rw [r2 15 (by decide), y15]
      · rw [e2]; show S33.2 a = _; rw [r2 a k5, yo a k1 k2 k3 k4 k5 k6 k7 k8]
  refine k_has h16' (fun r hr => ?_)
  rcases hr with ⟨rfl, h0, h1⟩ | ⟨rfl, h0⟩
  · have v10 : S32.2 10 a3 = S.2 10 a3 := by rw [y10, if_neg (by omega)]
    have b10 := h10 h0
    rw [v10]
    refine ⟨⟨by decide, by decide⟩, fun z => absurd z (by decide), fun _ => ⟨by omega, by omega, fun _ => ⟨by omega, by omega, ⟨by omega, by omega⟩, fun S40 e40 => fin S40 (by rw [e40]; exact q32) (fun a ha => by rw [e40, (pA_ne a ha).2]) (fun y => ?_)⟩⟩⟩
    rw [e40, pA_if, y10]
    by_cases c : y = a3
    · rw [if_pos c, if_pos ⟨h0, c⟩, c]
    · rw [if_neg c]
      exact (if_neg (fun z => c z.2)).symm
  · refine ⟨⟨by decide, by decide⟩, fun _ => fin S32 q32 (fun _ _ => rfl) (fun y => ?_), fun z => absurd rfl z⟩
    rw [y10]
    exact (if_neg (fun z => h0 ⟨z.1, h3'⟩)).symm
/-- what a new attribute leaves -/
def AaO (S S' : St) (m am vl : Int) (a1 a2 a3 : Int) : Prop := (S'.1 3 17 = am + 1) ∧ (∀ a j, ¬ (a = 3 ∧ j = 17) → S'.1 a j = S.1 a j) ∧ (∀ y, S'.2 12 y = if y = m - 1 then S.2 12 y + 1 else S.2 12 y) ∧ (∀ y, S'.2 16 y = if y = am then a1 else S.2 16 y) ∧ (∀ y, S'.2 17 y = if y = am then a2 else S.2 17 y) ∧ (∀ y, S'.2 18 y = if y = am then a3 else S.2 18 y) ∧ (∀ y, S'.2 19 y = if y = am then vl else S.2 19 y) ∧ (∀ a, a ≠ 12 → a ≠ 16 → a ≠ 17 → a ≠ 18 → a ≠ 19 → S'.2 a = S.2 a)
theorem k_addA (h16 : S.1 3 16 = E.length) (h17 : S.1 3 17 = A.length) (hv : S.1 4 1 = V.length) (hT : TRS S) (he : 0 < E.length) (hl : E.length ≤ 200) (ha : A.length < 600) (hc : 0 ≤ S.2 12 ((E.length : Int) - 1)) (hf : 0 ≤ S.2 11 ((E.length : Int) - 1)) (hK : ∀ S', AaO S S' E.length A.length V.length a1 a2 a3 → K 0 S') : wX6_addAttribute a1 a2 a3 S K := by
  unfold wX6_addAttribute
  intro g1 g2 g3
  rw [h16, h17]
  refine fun _ => ⟨fun z => absurd z (by omega), fun _ _ => ⟨fun _ => ⟨by omega, by omega, ⟨by omega, by omega⟩, fun S6 e6' => ?_⟩, fun z => absurd (by omega) z⟩⟩
  have q6 : S6.1 = S.1 := by rw [e6']; rfl
  rw [q6, h17]
  refine fun _ => ⟨by omega, by omega, ⟨by omega, by omega⟩, fun S10 e10 => ?_⟩
  have q10 : S10.1 = S.1 := by rw [e10]; exact q6
  rw [q10, h17]
  refine fun _ => ⟨by omega, by omega, ⟨by omega, by omega⟩, fun S14 e14 => ?_⟩
  have q14 : S14.1 = S.1 := by rw [e14]; exact q10
  rw [q14, h17]
  refine fun _ gv => ?_
  rw [q14, hv] at gv ⊢
  refine ⟨by omega, by omega, gv, fun S20 e20 => ?_⟩
  have q20 : S20.1 = S.1 := by rw [e20]; exact q14
  have y16 : ∀ y, S20.2 16 y = if y = (A.length : Int) then a1 else S.2 16 y := fun y => by
    rw [e20, (pA_ne 16 (by decide)).2, e14, (pA_ne 16 (by decide)).2, e10, (pA_ne 16 (by decide)).2, e6', pA_if]
  have y17 : ∀ y, S20.2 17 y = if y = (A.length : Int) then a2 else S.2 17 y := fun y => by
    rw [e20, (pA_ne 17 (by decide)).2, e14, (pA_ne 17 (by decide)).2, e10, pA_if, e6', (pA_ne 17 (by decide)).2]
  have y18 : ∀ y, S20.2 18 y = if y = (A.length : Int) then a3 else S.2 18 y := fun y => by
    rw [e20, (pA_ne 18 (by decide)).2, e14, pA_if, e10, (pA_ne 18 (by decide)).2, e6', (pA_ne 18 (by decide)).2]
  have y19 : ∀ y, S20.2 19 y = if y = (A.length : Int) then (V.length : Int) else S.2 19 y := fun y => by
    rw [e20, pA_if, e14, (pA_ne 19 (by decide)).2, e10, (pA_ne 19 (by decide)).2, e6', (pA_ne 19 (by decide)).2]
  have yo : ∀ a, a ≠ 16 → a ≠ 17 → a ≠ 18 → a ≠ 19 → S20.2 a = S.2 a := fun a k1 k2 k3 k4 => by
    rw [e20, (pA_ne a k4).2, e14, (pA_ne a k3).2, e10, (pA_ne a k2).2, e6', (pA_ne a k1).2]
  rw [q20, h17]
  refine fun _ => ⟨⟨by omega, by omega⟩, ?_, fun S23 e23 => ?_⟩
  · refine hT.mk ?_ ?_ (fun e _ => ?_) (fun e _ => ?_)
    · show S20.1 3 16 = _
      rw [q20]
    · show S.1 3 17 ≤ (A.length : Int) + 1
      omega
    · show S20.2 11 e = _
      rw [yo 11 (by decide) (by decide) (by decide) (by decide)]
    · show S20.2 12 e = _
      rw [yo 12 (by decide) (by decide) (by decide) (by decide)]
  have q23 : ∀ a j, ¬ (a = 3 ∧ j = 17) → S23.1 a j = S.1 a j := fun a j h => by rw [e23, pI_j h, q20]
  have q17 : S23.1 3 17 = (A.length : Int) + 1 := by rw [e23]; exact pI_v
  have z23 : S23.2 = S20.2 := by rw [e23]; rfl
  rw [q23 3 16 (by decide), h16, z23, yo 12 (by decide) (by decide) (by decide) (by decide)]
  have t1 := hT ((E.length : Int) - 1) (by omega) (by rw [h16]; omega)
  rw [h17] at t1
  refine fun _ => ⟨by omega, by omega, fun _ => ⟨by omega, by omega, ⟨by omega, by omega⟩, ?_, fun S30 e30 => hK S30 ⟨?_, fun a j h => ?_, fun y => ?_, fun y => ?_, fun y => ?_, fun y => ?_, fun y => ?_, fun a k1 k2 k3 k4 k5 => ?_⟩⟩⟩
  · intro e e0 e1
    have e1 : e < S23.1 3 16 := e1
    rw [q23 3 16 (by decide), h16] at e1
    show (pA S23 12 ((E.length : Int) - 1) (S.2 12 ((E.length : Int) - 1) + 1)).2 11 e + (pA S23 12 ((E.length : Int) - 1) (S.2 12 ((E.length : Int) - 1) + 1)).2 12 e ≤ S23.1 3 17
    rw [(pA_ne 11 (by decide)).2, pA_if, q17, z23, yo 11 (by decide) (by decide) (by decide) (by decide), yo 12 (by decide) (by decide) (by decide) (by decide)]
    by_cases c : e = (E.length : Int) - 1
    · rw [if_pos c, c]
      omega
    · rw [if_neg c]
      have := hT e e0 (by rw [h16]; omega)
      omega
  · rw [e30]; exact q17
  · rw [e30]; exact q23 a j h
  · rw [e30, pA_if, z23, yo 12 (by decide) (by decide) (by decide) (by decide)]
    by_cases c : y = (E.length : Int) - 1
    · rw [if_pos c, if_pos c, c]
    · rw [if_neg c, if_neg c]
  · rw [e30, (pA_ne 16 (by decide)).2, z23, y16]
  · rw [e30, (pA_ne 17 (by decide)).2, z23, y17]
  · rw [e30, (pA_ne 18 (by decide)).2, z23, y18]
  · rw [e30, (pA_ne 19 (by decide)).2, z23, y19]
  · rw [e30, (pA_ne a k1).2, z23, yo a k2 k3 k4 k5]
end YT

