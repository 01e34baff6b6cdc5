set_option maxRecDepth 100000 in
set_option maxHeartbeats 4000000 in
theorem tX11_count {a1 : Int} {S : St} {K : Int → St → Prop}  (hK : ∀ (r : Int), (rng r) → K r S) : wX11_count a1 S K := by
  unfold wX11_count
  intro g1
  unfold wX11_count_4
  refine ⟨fun u1 u2 u3 Sx => S = Sx ∧ a1 = u1 ∧ (iv 0 6 u3) ∧ (iv 0 6 u2) ∧ (u2 ≤ u3), fun u1 u2 u3 Sx => (7 - u3).toNat, ?_, fun v4_1 v4_2 v4_3 S4h hI => ?_⟩
  · exact ⟨rfl, rfl, by omega, by omega, by omega⟩
  obtain ⟨rfl, rfl, i4_0, i4_1, i4_2⟩ := hI
  unfold wX11_count_4'
  intro q1
  refine ⟨by omega, ?_⟩
  refine ⟨fun h9 => ?_, fun h9 => ?_⟩
  · refine ⟨by omega, ?_⟩
    refine ⟨fun h2 => ?_, fun h2 => ?_, fun h2 => ?_, fun h2 => ?_, fun h2 => ?_, fun h2 => ?_, fun h2 => ?_⟩
    · exact hK ((-1)) (by omega)
    · exact hK (S.1 54 2) (by omega)
    · refine ⟨by omega, by omega, ?_⟩
      intro q3
      exact hK (S.2 67 (0)) (by omega)
    · refine ⟨by omega, by omega, ?_⟩
      intro q4
      exact hK (S.2 67 (1)) (by omega)
    · intro q5
      exact hK (S.1 54 20) (by omega)
    · intro q6
      exact hK (S.1 54 0) (by omega)
    · exact hK (v4_2) (by omega)
  · refine ⟨by omega, by omega, ?_⟩
    intro q7
    refine ⟨fun h18 => ?_, fun h18 => ?_⟩
    · unfold wX11_count_28
      exact ⟨⟨rfl, rfl, by omega, by omega, by omega⟩, show (7 - ((v4_3 + 1))).toNat < (7 - v4_3).toNat by omega⟩
    · unfold wX11_count_28
      exact ⟨⟨rfl, rfl, by omega, by omega, by omega⟩, show (7 - ((v4_3 + 1))).toNat < (7 - v4_3).toNat by omega⟩

set_option maxRecDepth 100000 in
set_option maxHeartbeats 4000000 in
theorem tX11_wordSign {a1 a2 : Int} {S : St} {K : Int → St → Prop} (p1 : 0 ≤ a2) (hK : ∀ (r : Int), (0 ≤ r ∧ r ≤ 127) → (r = 0 ∨ a2 ≤ 8) → K r S) : wX11_wordSign a1 a2 S K := by
  unfold wX11_wordSign
  intro g1 g2
  refine ⟨fun h1 => ?_, fun h1 => ?_⟩
  · refine ⟨fun h47 => ?_, fun h47 => ?_⟩
    · refine ⟨fun h1 => ?_, fun h1 => ?_, fun h1 => ?_, fun h1 => ?_, fun h1 => ?_, fun h1 => ?_, fun h1 => ?_, fun h1 => ?_, fun h1 => ?_, fun h1 => ?_⟩
      · exact hK (0) (by omega) (by omega)
      · exact hK (114) (by omega) (by omega)
      · exact hK (101) (by omega) (by omega)
      · exact hK (102) (by omega) (by omega)
      · exact hK (101) (by omega) (by omega)
      · exact hK (114) (by omega) (by omega)
      · exact hK (101) (by omega) (by omega)
      · exact hK (110) (by omega) (by omega)
      · exact hK (99) (by omega) (by omega)
      · exact hK (101) (by omega) (by omega)
    · refine ⟨fun h51 => ?_, fun h51 => ?_⟩
      · refine ⟨fun h61 => ?_, fun h61 => ?_⟩
        · exact hK (0) (by omega) (by omega)
        · exact hK (100) (by omega) (by omega)
      · exact hK (105) (by omega) (by omega)
  · refine ⟨fun h5 => ?_, fun h5 => ?_⟩
    · refine ⟨fun h15 => ?_, fun h15 => ?_⟩
      · refine ⟨fun h25 => ?_, fun h25 => ?_⟩
        · refine ⟨fun h35 => ?_, fun h35 => ?_⟩
          · exact hK (0) (by omega) (by omega)
          · exact hK (115) (by omega) (by omega)
        · exact hK (97) (by omega) (by omega)
      · exact hK (108) (by omega) (by omega)
    · exact hK (99) (by omega) (by omega)

set_option maxRecDepth 100000 in
set_option maxHeartbeats 4000000 in
theorem tX11_object {a1 a2 : Int} {S : St} {K : Int → St → Prop} (p1 : iv 0 2 a1) (p2 : iv 0 5 a2) (p3 : (S.2 67) a1 ≤ 29) (hK : ∀ (r : Int) (S' : St), Ch [] [67, 68, 69] S S' → (r = 30 * a1 + (S.2 67) a1) → (iv 0 89 r) → (∀ x, (x = a1 ∧ (S'.2 67) x = (S.2 67) x + 1) ∨ (¬ x = a1 ∧ (S'.2 67) x = (S.2 67) x)) → (∀ x, (x = r ∧ (S'.2 68) x = a2) ∨ (¬ x = r ∧ (S'.2 68) x = (S.2 68) x)) → (∀ x, (4 * r ≤ x ∧ x ≤ 4 * r + 3 ∧ (((S.2 59) (4 * a2 + (x - 4 * r)) = 2 ∧ (S'.2 69) x = -2) ∨ (¬ (S.2 59) (4 * a2 + (x - 4 * r)) = 2 ∧ (S'.2 69) x = 0))) ∨ ((x < 4 * r ∨ 4 * r + 3 < x) ∧ (S'.2 69) x = (S.2 69) x)) → K r S') : wX11_object a1 a2 S K := by
  unfold wX11_object
  intro g1 g2
  refine ⟨by omega, by omega, ?_⟩
  intro q1
  intro x11 hx11
  subst hx11
  refine ⟨by omega, by omega, ?_⟩
  intro q2
  refine ⟨by omega, by omega, ?_⟩
  refine ⟨by omega, ?_⟩
  intro S21 hS21e
  have hS21 : Ch [] [67] S S21 := Ch_A hS21e
  have hS21v : ∀ x, (x = a1 ∧ S21.2 67 x = (S.2 67 (a1) + 1)) ∨ (¬ x = a1 ∧ S21.2 67 x = S.2 67 x) := pA_at hS21e
  refine ⟨by omega, by omega, ?_⟩
  refine ⟨by omega, ?_⟩
  intro S28 hS28e
  have hS28 : Ch [] [68] S21 S28 := Ch_A hS28e
  have hS28v : ∀ x, (x = (((30 * a1) + S.2 67 (a1))) ∧ S28.2 68 x = a2) ∨ (¬ x = (((30 * a1) + S.2 67 (a1))) ∧ S28.2 68 x = S21.2 68 x) := pA_at hS28e
  unfold wX11_object_32
  refine ⟨fun u2 u3 u4 Sx => Ch [] [69] S28 Sx ∧ a2 = u2 ∧ (((30 * a1) + S.2 67 (a1))) = u3 ∧ (iv 0 4 u4) ∧ (iv 0 89 u3) ∧ (∀ x, (4 * u3 ≤ x ∧ x < 4 * u3 + u4 ∧ (((S.2 59) (4 * a2 + (x - 4 * u3)) = 2 ∧ (Sx.2 69) x = -2) ∨ (¬ (S.2 59) (4 * a2 + (x - 4 * u3)) = 2 ∧ (Sx.2 69) x = 0))) ∨ ((x < 4 * u3 ∨ 4 * u3 + u4 ≤ x) ∧ (Sx.2 69) x = (S28.2 69) x)), fun u2 u3 u4 Sx => (5 - u4).toNat, ?_, fun v32_2 v32_3 v32_4 S32h hI => ?_⟩
  · exact ⟨Ch.re, rfl, rfl, by omega, by omega, (by
        intro x
        omega)⟩
  obtain ⟨hS32h, rfl, rfl, i32_0, i32_1, i32_2⟩ := hI
  unfold wX11_object_32'
  refine ⟨by omega, ?_⟩
  refine ⟨fun h35 => ?_, fun h35 => ?_⟩
  · exact hK ((((30 * a1) + S.2 67 (a1)))) S32h (Ch.wk (Ch.tr (Ch.tr hS21 hS28) hS32h) (by decide) (by decide)) (by omega) (by omega) (by
          intro x
          have e3 : S32h.2 67 x = S28.2 67 x := congrFun (hS32h.2 67 (by decide)) _
          have e4 : S28.2 67 x = S21.2 67 x := congrFun (hS28.2 67 (by decide)) _
          have e5 := hS21v x
          by_cases hx : x = a1
          · subst hx
            omega
          · omega) (by
          intro x
          have e6 : S32h.2 68 x = S28.2 68 x := congrFun (hS32h.2 68 (by decide)) _
          have e7 := hS28v x
          have e8 : S21.2 68 x = S.2 68 x := congrFun (hS21.2 68 (by decide)) _
          omega) (by
          intro x
          have e9 := i32_2 x
          have e10 : S28.2 69 x = S21.2 69 x := congrFun (hS28.2 69 (by decide)) _
          have e11 : S21.2 69 x = S.2 69 x := congrFun (hS21.2 69 (by decide)) _
          omega)
  · refine ⟨by omega, by omega, ?_⟩
    intro q12
    have e13 : S32h.2 59 (((4 * a2) + v32_4)) = S28.2 59 (((4 * a2) + v32_4)) := congrFun (hS32h.2 59 (by decide)) _
    have e14 : S28.2 59 (((4 * a2) + v32_4)) = S21.2 59 (((4 * a2) + v32_4)) := congrFun (hS28.2 59 (by decide)) _
    have e15 : S21.2 59 (((4 * a2) + v32_4)) = S.2 59 (((4 * a2) + v32_4)) := congrFun (hS21.2 59 (by decide)) _
    refine ⟨fun h50 => ?_, fun h50 => ?_⟩
    · unfold wX11_object_58
      refine ⟨by omega, ?_⟩
      refine ⟨fun h72 => ?_, fun h72 => ?_⟩
      · unfold wX11_object_81
        refine ⟨by omega, by omega, ?_⟩
        refine ⟨by omega, ?_⟩
        intro S81 hS81e
        have hS81 : Ch [] [69] S32h S81 := Ch_A hS81e
        have hS81v : ∀ x, (x = ((4 * (((30 * a1) + S.2 67 (a1)))) + v32_4) ∧ S81.2 69 x = (((0)))) ∨ (¬ x = ((4 * (((30 * a1) + S.2 67 (a1)))) + v32_4) ∧ S81.2 69 x = S32h.2 69 x) := pA_at hS81e
        exact ⟨⟨(Ch.wk (Ch.tr hS32h hS81) (by decide) (by decide)), rfl, rfl, by omega, by omega, (by
              intro x
              have e16 := hS81v x
              have e17 := i32_2 x
              have e18 : S28.2 69 x = S21.2 69 x := congrFun (hS28.2 69 (by decide)) _
              have e19 : S21.2 69 x = S.2 69 x := congrFun (hS21.2 69 (by decide)) _
              by_cases hx : x = 4 * ((((30 * a1) + S.2 67 (a1)))) + v32_4
              · subst hx
                rw [show 4 * a2 + (4 * ((((30 * a1) + S.2 67 (a1)))) + v32_4 - 4 * ((((30 * a1) + S.2 67 (a1))))) = 4 * a2 + v32_4 by omega]
                omega
              · omega)⟩, show (5 - ((v32_4 + 1))).toNat < (5 - v32_4).toNat by omega⟩
      · unfold wX11_object_81
        refine ⟨by omega, by omega, ?_⟩
        refine ⟨by omega, ?_⟩
        intro S81 hS81e
        have hS81 : Ch [] [69] S32h S81 := Ch_A hS81e
        have hS81v : ∀ x, (x = ((4 * (((30 * a1) + S.2 67 (a1)))) + v32_4) ∧ S81.2 69 x = (((-2)))) ∨ (¬ x = ((4 * (((30 * a1) + S.2 67 (a1)))) + v32_4) ∧ S81.2 69 x = S32h.2 69 x) := pA_at hS81e
        exact ⟨⟨(Ch.wk (Ch.tr hS32h hS81) (by decide) (by decide)), rfl, rfl, by omega, by omega, (by
              intro x
              have e20 := hS81v x
              have e21 := i32_2 x
              have e22 : S28.2 69 x = S21.2 69 x := congrFun (hS28.2 69 (by decide)) _
              have e23 : S21.2 69 x = S.2 69 x := congrFun (hS21.2 69 (by decide)) _
              by_cases hx : x = 4 * ((((30 * a1) + S.2 67 (a1)))) + v32_4
              · subst hx
                rw [show 4 * a2 + (4 * ((((30 * a1) + S.2 67 (a1)))) + v32_4 - 4 * ((((30 * a1) + S.2 67 (a1))))) = 4 * a2 + v32_4 by omega]
                omega
              · omega)⟩, show (5 - ((v32_4 + 1))).toNat < (5 - v32_4).toNat by omega⟩
    · unfold wX11_object_58
      refine ⟨by omega, ?_⟩
      refine ⟨fun h72 => ?_, fun h72 => ?_⟩
      · unfold wX11_object_81
        refine ⟨by omega, by omega, ?_⟩
        refine ⟨by omega, ?_⟩
        intro S81 hS81e
        have hS81 : Ch [] [69] S32h S81 := Ch_A hS81e
        have hS81v : ∀ x, (x = ((4 * (((30 * a1) + S.2 67 (a1)))) + v32_4) ∧ S81.2 69 x = ((0))) ∨ (¬ x = ((4 * (((30 * a1) + S.2 67 (a1)))) + v32_4) ∧ S81.2 69 x = S32h.2 69 x) := pA_at hS81e
        exact ⟨⟨(Ch.wk (Ch.tr hS32h hS81) (by decide) (by decide)), rfl, rfl, by omega, by omega, (by
              intro x
              have e24 := hS81v x
              have e25 := i32_2 x
              have e26 : S28.2 69 x = S21.2 69 x := congrFun (hS28.2 69 (by decide)) _
              have e27 : S21.2 69 x = S.2 69 x := congrFun (hS21.2 69 (by decide)) _
              by_cases hx : x = 4 * ((((30 * a1) + S.2 67 (a1)))) + v32_4
              · subst hx
                rw [show 4 * a2 + (4 * ((((30 * a1) + S.2 67 (a1)))) + v32_4 - 4 * ((((30 * a1) + S.2 67 (a1))))) = 4 * a2 + v32_4 by omega]
                omega
              · omega)⟩, show (5 - ((v32_4 + 1))).toNat < (5 - v32_4).toNat by omega⟩
      · unfold wX11_object_81
        refine ⟨by omega, by omega, ?_⟩
        refine ⟨by omega, ?_⟩
        intro S81 hS81e
        have hS81 : Ch [] [69] S32h S81 := Ch_A hS81e
        have hS81v : ∀ x, (x = ((4 * (((30 * a1) + S.2 67 (a1)))) + v32_4) ∧ S81.2 69 x = (((-2)))) ∨ (¬ x = ((4 * (((30 * a1) + S.2 67 (a1)))) + v32_4) ∧ S81.2 69 x = S32h.2 69 x) := pA_at hS81e
        exact ⟨⟨(Ch.wk (Ch.tr hS32h hS81) (by decide) (by decide)), rfl, rfl, by omega, by omega, (by
              intro x
              have e28 := hS81v x
              have e29 := i32_2 x
              have e30 : S28.2 69 x = S21.2 69 x := congrFun (hS28.2 69 (by decide)) _
              have e31 : S21.2 69 x = S.2 69 x := congrFun (hS21.2 69 (by decide)) _
              by_cases hx : x = 4 * ((((30 * a1) + S.2 67 (a1)))) + v32_4
              · subst hx
                rw [show 4 * a2 + (4 * ((((30 * a1) + S.2 67 (a1)))) + v32_4 - 4 * ((((30 * a1) + S.2 67 (a1))))) = 4 * a2 + v32_4 by omega]
                omega
              · omega)⟩, show (5 - ((v32_4 + 1))).toNat < (5 - v32_4).toNat by omega⟩

set_option maxRecDepth 100000 in
set_option maxHeartbeats 4000000 in
theorem tX11_kind {a1 a2 : Int} {S : St} {K : Int → St → Prop}  (hK : ∀ (r : Int), (rng r) → K r S) : wX11_kind a1 a2 S K := by
  unfold wX11_kind
  intro g1 g2
  refine tX11_in  (fun r3 n3_0 => ?_)
  refine ⟨by omega, ?_⟩
  refine ⟨fun h6 => ?_, fun h6 => ?_⟩
  · exact hK ((-1)) (by omega)
  · refine tX11_isObject (by omega) (fun r12 n12_0 => ?_)
    refine ⟨by omega, ?_⟩
    refine ⟨fun h15 => ?_, fun h15 => ?_⟩
    · exact hK ((-1)) (by omega)
    · refine ⟨by omega, by omega, ?_⟩
      intro q1
      exact hK (S.2 68 (((30 * a1) + a2))) (by omega)

set_option maxRecDepth 100000 in
set_option maxHeartbeats 4000000 in
theorem tX11_openerSign {a1 a2 : Int} {S : St} {K : Int → St → Prop} (p1 : 0 ≤ a2) (hK : ∀ (r : Int), (0 ≤ r ∧ r ≤ 127) → (r = 0 ∨ a2 ≤ 7) → K r S) : wX11_openerSign a1 a2 S K := by
  unfold wX11_openerSign
  intro g1 g2
  refine ⟨fun h1 => ?_, fun h1 => ?_⟩
  · refine ⟨fun h1 => ?_, fun h1 => ?_, fun h1 => ?_, fun h1 => ?_, fun h1 => ?_, fun h1 => ?_, fun h1 => ?_, fun h1 => ?_, fun h1 => ?_⟩
    · exact hK (0) (by omega) (by omega)
    · exact hK (33) (by omega) (by omega)
    · exact hK (91) (by omega) (by omega)
    · exact hK (67) (by omega) (by omega)
    · exact hK (68) (by omega) (by omega)
    · exact hK (65) (by omega) (by omega)
    · exact hK (84) (by omega) (by omega)
    · exact hK (65) (by omega) (by omega)
    · exact hK (91) (by omega) (by omega)
  · refine ⟨fun h5 => ?_, fun h5 => ?_⟩
    · refine ⟨fun h15 => ?_, fun h15 => ?_⟩
      · exact hK (0) (by omega) (by omega)
      · exact hK (45) (by omega) (by omega)
    · exact hK (33) (by omega) (by omega)

