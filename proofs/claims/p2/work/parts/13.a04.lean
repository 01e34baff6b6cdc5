set_option maxRecDepth 100000 in
set_option maxHeartbeats 4000000 in
theorem tX11_count {a1 : Int} {S : St} {K : Int → St → Prop}  (hK : ∀ (r : Int), (rng r) → K r S) : wX11_count a1 S K := by
  unfold wX11_count
  intro g1
  unfold wX11_count_4
  refine ⟨fun u1 u2 u3 Sx => S = Sx ∧ a1 = u1 ∧ (iv 0 6 u3) ∧ (iv 0 6 u2) ∧ (u2 ≤ u3), fun u1 u2 u3 Sx => (7 - u3).toNat, ?_, fun v4_1 v4_2 v4_3 S4h hI => ?_⟩
  · exact ⟨rfl, rfl, by omega, by omega, by omega⟩
  obtain ⟨rfl, rfl, i4_0, i4_1, i4_2⟩ := hI
  unfold wX11_count_4'
  intro q1
  refine ⟨by omega, ?_⟩
  refine ⟨fun h9 => ?_, fun h9 => ?_⟩
  · refine ⟨by omega, ?_⟩
    refine ⟨fun h2 => ?_, fun h2 => ?_, fun h2 => ?_, fun h2 => ?_, fun h2 => ?_, fun h2 => ?_, fun h2 => ?_⟩
    · exact hK ((-1)) (by omega)
    · exact hK (S.1 54 2) (by omega)
    · refine ⟨by omega, by omega, ?_⟩
      intro q3
      exact hK (S.2 67 (0)) (by omega)
    · refine ⟨by omega, by omega, ?_⟩
      intro q4
      exact hK (S.2 67 (1)) (by omega)
    · intro q5
      exact hK (S.1 54 20) (by omega)
    · intro q6
      exact hK (S.1 54 0) (by omega)
    · exact hK (v4_2) (by omega)
  · refine ⟨by omega, by omega, ?_⟩
    intro q7
    refine ⟨fun h18 => ?_, fun h18 => ?_⟩
    · unfold wX11_count_28
      exact ⟨⟨rfl, rfl, by omega, by omega, by omega⟩, show (7 - ((v4_3 + 1))).toNat < (7 - v4_3).toNat by omega⟩
    · unfold wX11_count_28
      exact ⟨⟨rfl, rfl, by omega, by omega, by omega⟩, show (7 - ((v4_3 + 1))).toNat < (7 - v4_3).toNat by omega⟩

set_option maxRecDepth 100000 in
set_option maxHeartbeats 4000000 in
theorem tX11_forbid {a1 a2 : Int} {S : St} {K : Int → St → Prop} (p1 : iv 0 1 a2) (hK : ∀ (r : Int) (S' : St), Ch [] [61] S S' → (iv 0 1 r) → K r S') : wX11_forbid a1 a2 S K := by
  unfold wX11_forbid
  intro g1 g2
  intro q1
  refine ⟨by omega, ?_⟩
  refine tX11_in  (fun r8 n8_0 => ?_)
  refine ⟨by omega, ?_⟩
  refine ⟨fun h11 => ?_, fun h11 => ?_⟩
  · refine ⟨by omega, by omega, ?_⟩
    intro q2
    intro x22 hx22
    subst hx22
    refine ⟨by omega, by omega, ?_⟩
    refine ⟨by omega, ?_⟩
    intro S29 hS29e
    have hS29 : Ch [] [61] S S29 := Ch_A hS29e
    have hS29v : ∀ x, (x = a1 ∧ S29.2 61 x = a2) ∨ (¬ x = a1 ∧ S29.2 61 x = S.2 61 x) := pA_at hS29e
    exact hK ((S.2 61 (a1))) S29 (Ch.wk hS29 (by decide) (by decide)) (by omega)
  · exact hK (0) S (Ch.wk Ch.rf (by decide) (by decide)) (by omega)

set_option maxRecDepth 100000 in
set_option maxHeartbeats 4000000 in
theorem tX11_wordSign {a1 a2 : Int} {S : St} {K : Int → St → Prop} (p1 : 0 ≤ a2) (hK : ∀ (r : Int), (0 ≤ r ∧ r ≤ 127) → (r = 0 ∨ a2 ≤ 8) → K r S) : wX11_wordSign a1 a2 S K := by
  unfold wX11_wordSign
  intro g1 g2
  refine ⟨fun h1 => ?_, fun h1 => ?_⟩
  · refine ⟨fun h47 => ?_, fun h47 => ?_⟩
    · refine ⟨fun h1 => ?_, fun h1 => ?_, fun h1 => ?_, fun h1 => ?_, fun h1 => ?_, fun h1 => ?_, fun h1 => ?_, fun h1 => ?_, fun h1 => ?_, fun h1 => ?_⟩
      · exact hK (0) (by omega) (by omega)
      · exact hK (114) (by omega) (by omega)
      · exact hK (101) (by omega) (by omega)
      · exact hK (102) (by omega) (by omega)
      · exact hK (101) (by omega) (by omega)
      · exact hK (114) (by omega) (by omega)
      · exact hK (101) (by omega) (by omega)
      · exact hK (110) (by omega) (by omega)
      · exact hK (99) (by omega) (by omega)
      · exact hK (101) (by omega) (by omega)
    · refine ⟨fun h51 => ?_, fun h51 => ?_⟩
      · refine ⟨fun h61 => ?_, fun h61 => ?_⟩
        · exact hK (0) (by omega) (by omega)
        · exact hK (100) (by omega) (by omega)
      · exact hK (105) (by omega) (by omega)
  · refine ⟨fun h5 => ?_, fun h5 => ?_⟩
    · refine ⟨fun h15 => ?_, fun h15 => ?_⟩
      · refine ⟨fun h25 => ?_, fun h25 => ?_⟩
        · refine ⟨fun h35 => ?_, fun h35 => ?_⟩
          · exact hK (0) (by omega) (by omega)
          · exact hK (115) (by omega) (by omega)
        · exact hK (97) (by omega) (by omega)
      · exact hK (108) (by omega) (by omega)
    · exact hK (99) (by omega) (by omega)

set_option maxRecDepth 100000 in
set_option maxHeartbeats 4000000 in
theorem tX11_object {a1 a2 : Int} {S : St} {K : Int → St → Prop} (p1 : iv 0 2 a1) (p2 : iv 0 5 a2) (p3 : (S.2 67) a1 ≤ 29) (hK : ∀ (r : Int) (S' : St), Ch [] [67, 68, 69] S S' → (r = 30 * a1 + (S.2 67) a1) → (iv 0 89 r) → (∀ x, (x = a1 ∧ (S'.2 67) x = (S.2 67) x + 1) ∨ (¬ x = a1 ∧ (S'.2 67) x = (S.2 67) x)) → (∀ x, (x = r ∧ (S'.2 68) x = a2) ∨ (¬ x = r ∧ (S'.2 68) x = (S.2 68) x)) → (∀ x, (4 * r ≤ x ∧ x ≤ 4 * r + 3 ∧ (((S.2 59) (4 * a2 + (x - 4 * r)) = 2 ∧ (S'.2 69) x = -2) ∨ (¬ (S.2 59) (4 * a2 + (x - 4 * r)) = 2 ∧ (S'.2 69) x = 0))) ∨ ((x < 4 * r ∨ 4 * r + 3 < x) ∧ (S'.2 69) x = (S.2 69) x)) → K r S') : wX11_object a1 a2 S K := by
  unfold wX11_object
  intro g1 g2
  refine ⟨by omega, by omega, ?_⟩
  intro q1
  intro x11 hx11
  subst hx11
  refine ⟨by omega, by omega, ?_⟩
  intro q2
  refine ⟨by omega, by omega, ?_⟩
  refine ⟨by omega, ?_⟩
  intro S21 hS21e
  have hS21 : Ch [] [67] S S21 := Ch_A hS21e
  have hS21v : ∀ x, (x = a1 ∧ S21.2 67 x = (S.2 67 (a1) + 1)) ∨ (¬ x = a1 ∧ S21.2 67 x = S.2 67 x) := pA_at hS21e
  refine ⟨by omega, by omega, ?_⟩
  refine ⟨by omega, ?_⟩
  intro S28 hS28e
  have hS28 : Ch [] [68] S21 S28 := Ch_A hS28e
  have hS28v : ∀ x, (x = (((30 * a1) + S.2 67 (a1))) ∧ S28.2 68 x = a2) ∨ (¬ x = (((30 * a1) + S.2 67 (a1))) ∧ S28.2 68 x = S21.2 68 x) := pA_at hS28e
  unfold wX11_object_32
  refine ⟨fun u2 u3 u4 Sx => Ch [] [69] S28 Sx ∧ a2 = u2 ∧ (((30 * a1) + S.2 67 (a1))) = u3 ∧ (iv 0 4 u4) ∧ (iv 0 89 u3) ∧ (∀ x, (4 * u3 ≤ x ∧ x < 4 * u3 + u4 ∧ (((S.2 59) (4 * a2 + (x - 4 * u3)) = 2 ∧ (Sx.2 69) x = -2) ∨ (¬ (S.2 59) (4 * a2 + (x - 4 * u3)) = 2 ∧ (Sx.2 69) x = 0))) ∨ ((x < 4 * u3 ∨ 4 * u3 + u4 ≤ x) ∧ (Sx.2 69) x = (S28.2 69) x)), fun u2 u3 u4 Sx => (5 - u4).toNat, ?_, fun v32_2 v32_3 v32_4 S32h hI => ?_⟩
  · exact ⟨Ch.re, rfl, rfl, by omega, by omega, (by
        intro x
        omega)⟩
  obtain ⟨hS32h, rfl, rfl, i32_0, i32_1, i32_2⟩ := hI
  unfold wX11_object_32'
  refine ⟨by omega, ?_⟩
  refine ⟨fun h35 => ?_, fun h35 => ?_⟩
  · exact hK ((((30 * a1) + S.2 67 (a1)))) S32h (Ch.wk (Ch.tr (Ch.tr hS21 hS28) hS32h) (by decide) (by decide)) (by omega) (by omega) (by
          intro x
          have e3 : S32h.2 67 x = S28.2 67 x := congrFun (hS32h.2 67 (by decide)) _
          have e4 : S28.2 67 x = S21.2 67 x := congrFun (hS28.2 67 (by decide)) _
          have e5 := hS21v x
          by_cases hx : x = a1
          · subst hx
            omega
          · omega) (by
          intro x
          have e6 : S32h.2 68 x = S28.2 68 x := congrFun (hS32h.2 68 (by decide)) _
          have e7 := hS28v x
          have e8 : S21.2 68 x = S.2 68 x := congrFun (hS21.2 68 (by decide)) _
          omega) (by
          intro x
          have e9 := i32_2 x
          have e10 : S28.2 69 x = S21.2 69 x := congrFun (hS28.2 69 (by decide)) _
          have e11 : S21.2 69 x = S.2 69 x := congrFun (hS21.2 69 (by decide)) _
          omega)
  · refine ⟨by omega, by omega, ?_⟩
    intro q12
    have e13 : S32h.2 59 (((4 * a2) + v32_4)) = S28.2 59 (((4 * a2) + v32_4)) := congrFun (hS32h.2 59 (by decide)) _
    have e14 : S28.2 59 (((4 * a2) + v32_4)) = S21.2 59 (((4 * a2) + v32_4)) := congrFun (hS28.2 59 (by decide)) _
    have e15 : S21.2 59 (((4 * a2) + v32_4)) = S.2 59 (((4 * a2) + v32_4)) := congrFun (hS21.2 59 (by decide)) _
    refine ⟨fun h50 => ?_, fun h50 => ?_⟩
    · unfold wX11_object_58
      refine ⟨by omega, ?_⟩
      refine ⟨fun h72 => ?_, fun h72 => ?_⟩
      · unfold wX11_object_81
        refine ⟨by omega, by omega, ?_⟩
        refine ⟨by omega, ?_⟩
        intro S81 hS81e
        have hS81 : Ch [] [69] S32h S81 := Ch_A hS81e
        have hS81v : ∀ x, (x = ((4 * (((30 * a1) + S.2 67 (a1)))) + v32_4) ∧ S81.2 69 x = (((0)))) ∨ (¬ x = ((4 * (((30 * a1) + S.2 67 (a1)))) + v32_4) ∧ S81.2 69 x = S32h.2 69 x) := pA_at hS81e
        exact ⟨⟨(Ch.wk (Ch.tr hS32h hS81) (by decide) (by decide)), rfl, rfl, by omega, by omega, (by
              intro x
              have e16 := hS81v x
              have e17 := i32_2 x
              have e18 : S28.2 69 x = S21.2 69 x := congrFun (hS28.2 69 (by decide)) _
              have e19 : S21.2 69 x = S.2 69 x := congrFun (hS21.2 69 (by decide)) _
              by_cases hx : x = 4 * ((((30 * a1) + S.2 67 (a1)))) + v32_4
              · subst hx
                rw [show 4 * a2 + (4 * ((((30 * a1) + S.2 67 (a1)))) + v32_4 - 4 * ((((30 * a1) + S.2 67 (a1))))) = 4 * a2 + v32_4 by omega]
                omega
              · omega)⟩, show (5 - ((v32_4 + 1))).toNat < (5 - v32_4).toNat by omega⟩
      · unfold wX11_object_81
        refine ⟨by omega, by omega, ?_⟩
        refine ⟨by omega, ?_⟩
        intro S81 hS81e
        have hS81 : Ch [] [69] S32h S81 := Ch_A hS81e
        have hS81v : ∀ x, (x = ((4 * (((30 * a1) + S.2 67 (a1)))) + v32_4) ∧ S81.2 69 x = (((-2)))) ∨ (¬ x = ((4 * (((30 * a1) + S.2 67 (a1)))) + v32_4) ∧ S81.2 69 x = S32h.2 69 x) := pA_at hS81e
        exact ⟨⟨(Ch.wk (Ch.tr hS32h hS81) (by decide) (by decide)), rfl, rfl, by omega, by omega, (by
              intro x
              have e20 := hS81v x
              have e21 := i32_2 x
              have e22 : S28.2 69 x = S21.2 69 x := congrFun (hS28.2 69 (by decide)) _
              have e23 : S21.2 69 x = S.2 69 x := congrFun (hS21.2 69 (by decide)) _
              by_cases hx : x = 4 * ((((30 * a1) + S.2 67 (a1)))) + v32_4
              · subst hx
                rw [show 4 * a2 + (4 * ((((30 * a1) + S.2 67 (a1)))) + v32_4 - 4 * ((((30 * a1) + S.2 67 (a1))))) = 4 * a2 + v32_4 by omega]
                omega
              · omega)⟩, show (5 - ((v32_4 + 1))).toNat < (5 - v32_4).toNat by omega⟩
    · unfold wX11_object_58
      refine ⟨by omega, ?_⟩
      refine ⟨fun h72 => ?_, fun h72 => ?_⟩
      · unfold wX11_object_81
        refine ⟨by omega, by omega, ?_⟩
        refine ⟨by omega, ?_⟩
        intro S81 hS81e
        have hS81 : Ch [] [69] S32h S81 := Ch_A hS81e
        have hS81v : ∀ x, (x = ((4 * (((30 * a1) + S.2 67 (a1)))) + v32_4) ∧ S81.2 69 x = ((0))) ∨ (¬ x = ((4 * (((30 * a1) + S.2 67 (a1)))) + v32_4) ∧ S81.2 69 x = S32h.2 69 x) := pA_at hS81e
        exact ⟨⟨(Ch.wk (Ch.tr hS32h hS81) (by decide) (by decide)), rfl, rfl, by omega, by omega, (by
              intro x
              have e24 := hS81v x
              have e25 := i32_2 x
              have e26 : S28.2 69 x = S21.2 69 x := congrFun (hS28.2 69 (by decide)) _
              have e27 : S21.2 69 x = S.2 69 x := congrFun (hS21.2 69 (by decide)) _
              by_cases hx : x = 4 * ((((30 * a1) + S.2 67 (a1)))) + v32_4
              · subst hx
                rw [show 4 * a2 + (4 * ((((30 * a1) + S.2 67 (a1)))) + v32_4 - 4 * ((((30 * a1) + S.2 67 (a1))))) = 4 * a2 + v32_4 by omega]
                omega
              · omega)⟩, show (5 - ((v32_4 + 1))).toNat < (5 - v32_4).toNat by omega⟩
      · unfold wX11_object_81
        refine ⟨by omega, by omega, ?_⟩
        refine ⟨by omega, ?_⟩
        intro S81 hS81e
        have hS81 : Ch [] [69] S32h S81 := Ch_A hS81e
        have hS81v : ∀ x, (x = ((4 * (((30 * a1) + S.2 67 (a1)))) + v32_4) ∧ S81.2 69 x = (((-2)))) ∨ (¬ x = ((4 * (((30 * a1) + S.2 67 (a1)))) + v32_4) ∧ S81.2 69 x = S32h.2 69 x) := pA_at hS81e
        exact ⟨⟨(Ch.wk (Ch.tr hS32h hS81) (by decide) (by decide)), rfl, rfl, by omega, by omega, (by
              intro x
              have e28 := hS81v x
              have e29 := i32_2 x
              have e30 : S28.2 69 x = S21.2 69 x := congrFun (hS28.2 69 (by decide)) _
              have e31 : S21.2 69 x = S.2 69 x := congrFun (hS21.2 69 (by decide)) _
              by_cases hx : x = 4 * ((((30 * a1) + S.2 67 (a1)))) + v32_4
              · subst hx
                rw [show 4 * a2 + (4 * ((((30 * a1) + S.2 67 (a1)))) + v32_4 - 4 * ((((30 * a1) + S.2 67 (a1))))) = 4 * a2 + v32_4 by omega]
                omega
              · omega)⟩, show (5 - ((v32_4 + 1))).toNat < (5 - v32_4).toNat by omega⟩

set_option maxRecDepth 100000 in
set_option maxHeartbeats 4000000 in
theorem tX11_kind {a1 a2 : Int} {S : St} {K : Int → St → Prop}  (hK : ∀ (r : Int), (rng r) → K r S) : wX11_kind a1 a2 S K := by
  unfold wX11_kind
  intro g1 g2
  refine tX11_in  (fun r3 n3_0 => ?_)
  refine ⟨by omega, ?_⟩
  refine ⟨fun h6 => ?_, fun h6 => ?_⟩
  · exact hK ((-1)) (by omega)
  · refine tX11_isObject (by omega) (fun r12 n12_0 => ?_)
    refine ⟨by omega, ?_⟩
    refine ⟨fun h15 => ?_, fun h15 => ?_⟩
    · exact hK ((-1)) (by omega)
    · refine ⟨by omega, by omega, ?_⟩
      intro q1
      exact hK (S.2 68 (((30 * a1) + a2))) (by omega)

set_option maxRecDepth 100000 in
set_option maxHeartbeats 4000000 in
theorem tX11_limit {a1 : Int} {S : St} {K : Int → St → Prop}  (hK : ∀ (r : Int) (S' : St), Ch [19] [] S S' → ((iv 1 20 a1 ∧ r = (S.1 54 19) ∧ (S'.1 54 19) = a1) ∨ (¬ iv 1 20 a1 ∧ r = -1 ∧ (S'.1 54 19) = (S.1 54 19))) → K r S') : wX11_limit a1 S K := by
  unfold wX11_limit
  intro g1
  refine tX11_in  (fun r4 n4_0 => ?_)
  refine ⟨by omega, ?_⟩
  refine ⟨fun h7 => ?_, fun h7 => ?_⟩
  · intro q1
    refine ⟨by omega, ?_⟩
    intro S19 hS19e
    have hS19 : Ch [19] [] S S19 := Ch_I hS19e
    have hS19v : S19.1 54 19 = a1 := pI_at hS19e
    exact hK (S.1 54 19) S19 (Ch.wk hS19 (by decide) (by decide)) (by omega)
  · exact hK ((-1)) S (Ch.wk Ch.rf (by decide) (by decide)) (by omega)

set_option maxRecDepth 100000 in
set_option maxHeartbeats 4000000 in
theorem tX11_openerSign {a1 a2 : Int} {S : St} {K : Int → St → Prop} (p1 : 0 ≤ a2) (hK : ∀ (r : Int), (0 ≤ r ∧ r ≤ 127) → (r = 0 ∨ a2 ≤ 7) → K r S) : wX11_openerSign a1 a2 S K := by
  unfold wX11_openerSign
  intro g1 g2
  refine ⟨fun h1 => ?_, fun h1 => ?_⟩
  · refine ⟨fun h1 => ?_, fun h1 => ?_, fun h1 => ?_, fun h1 => ?_, fun h1 => ?_, fun h1 => ?_, fun h1 => ?_, fun h1 => ?_, fun h1 => ?_⟩
    · exact hK (0) (by omega) (by omega)
    · exact hK (33) (by omega) (by omega)
    · exact hK (91) (by omega) (by omega)
    · exact hK (67) (by omega) (by omega)
    · exact hK (68) (by omega) (by omega)
    · exact hK (65) (by omega) (by omega)
    · exact hK (84) (by omega) (by omega)
    · exact hK (65) (by omega) (by omega)
    · exact hK (91) (by omega) (by omega)
  · refine ⟨fun h5 => ?_, fun h5 => ?_⟩
    · refine ⟨fun h15 => ?_, fun h15 => ?_⟩
      · exact hK (0) (by omega) (by omega)
      · exact hK (45) (by omega) (by omega)
    · exact hK (33) (by omega) (by omega)

set_option maxRecDepth 100000 in
set_option maxHeartbeats 4000000 in
theorem tX11_sign {a1 : Int} {S : St} {K : Int → St → Prop}  (hK : ∀ (r : Int), (rng r) → K r S) : wX11_sign a1 S K := by
  unfold wX11_sign
  intro g1
  intro q1
  refine ⟨by omega, ?_⟩
  refine tX11_in  (fun r8 n8_0 => ?_)
  refine ⟨by omega, ?_⟩
  refine ⟨fun h11 => ?_, fun h11 => ?_⟩
  · exact hK ((-1)) (by omega)
  · refine ⟨by omega, by omega, ?_⟩
    intro q2
    exact hK (S.2 71 (a1)) (by omega)

set_option maxRecDepth 100000 in
set_option maxHeartbeats 4000000 in
theorem tX11_take {S : St} {K : Int → St → Prop}  (hK : ∀ (r : Int) (S' : St), Ch [0] [55] S S' → (iv 0 3000 r) → K r S') : wX11_take  S K := by
  unfold wX11_take
  intro q1
  intro S5 hS5e
  have hS5 : Ch [0] [] S S5 := Ch_I hS5e
  have hS5v : S5.1 54 0 = S.1 54 20 := pI_at hS5e
  unfold wX11_take_10
  refine ⟨fun u1 Sx => Ch [] [55] S5 Sx ∧ (iv 0 3000 u1), fun u1 Sx => (3001 - u1).toNat, ?_, fun v10_1 S10h hI => ?_⟩
  · exact ⟨Ch.re, by omega⟩
  obtain ⟨hS10h, i10_0⟩ := hI
  unfold wX11_take_10'
  intro q2
  have e3 : S10h.1 54 20 = S5.1 54 20 := hS10h.1 20 (by decide)
  have e4 : S5.1 54 20 = S.1 54 20 := hS5.1 20 (by decide)
  refine ⟨by omega, ?_⟩
  refine ⟨fun h15 => ?_, fun h15 => ?_⟩
  · exact hK (S10h.1 54 20) S10h (Ch.wk (Ch.tr hS5 hS10h) (by decide) (by decide)) (by omega)
  · refine ⟨by omega, by omega, ?_⟩
    intro q5
    have e6 : S10h.2 71 (v10_1) = S5.2 71 (v10_1) := congrFun (hS10h.2 71 (by decide)) _
    have e7 : S5.2 71 (v10_1) = S.2 71 (v10_1) := congrFun (hS5.2 71 (by decide)) _
    refine ⟨by omega, by omega, ?_⟩
    intro S29 hS29e
    have hS29 : Ch [] [55] S10h S29 := Ch_A hS29e
    have hS29v : ∀ x, (x = v10_1 ∧ S29.2 55 x = S10h.2 71 (v10_1)) ∨ (¬ x = v10_1 ∧ S29.2 55 x = S10h.2 55 x) := pA_at hS29e
    exact ⟨⟨(Ch.wk (Ch.tr hS10h hS29) (by decide) (by decide)), by omega⟩, show (3001 - ((v10_1 + 1))).toNat < (3001 - v10_1).toNat by omega⟩

set_option maxRecDepth 100000 in
set_option maxHeartbeats 4000000 in
theorem tX11_unit {a1 : Int} {S : St} {K : Int → St → Prop}  (hK : ∀ (r : Int) (S' : St), Ch [0] [55] S S' → K r S') : wX11_unit a1 S K := by
  unfold wX11_unit
  intro g1
  intro q1
  refine ⟨fun h7 => ?_, fun h7 => ?_⟩
  · exact hK (0) S (Ch.wk Ch.rf (by decide) (by decide)) 
  · refine tX11_in  (fun r15 n15_0 => ?_)
    refine ⟨by omega, ?_⟩
    refine ⟨fun h18 => ?_, fun h18 => ?_⟩
    · unfold wX11_unit_30
      intro q2
      refine ⟨by omega, by omega, ?_⟩
      refine ⟨by omega, ?_⟩
      intro S39 hS39e
      have hS39 : Ch [] [55] S S39 := Ch_A hS39e
      have hS39v : ∀ x, (x = S.1 54 0 ∧ S39.2 55 x = a1) ∨ (¬ x = S.1 54 0 ∧ S39.2 55 x = S.2 55 x) := pA_at hS39e
      intro q3
      have e4 : S39.1 54 0 = S.1 54 0 := hS39.1 0 (by decide)
      refine ⟨by omega, ?_⟩
      intro S47 hS47e
      have hS47 : Ch [0] [] S39 S47 := Ch_I hS47e
      have hS47v : S47.1 54 0 = (S39.1 54 0 + 1) := pI_at hS47e
      exact hK (1) S47 (Ch.wk (Ch.tr hS39 hS47) (by decide) (by decide)) 
    · refine tX11_isBlank  (fun r22 n22_0 => ?_)
      refine ⟨by omega, ?_⟩
      refine ⟨fun h25 => ?_, fun h25 => ?_⟩
      · unfold wX11_unit_30
        intro q5
        refine ⟨by omega, by omega, ?_⟩
        refine ⟨by omega, ?_⟩
        intro S39 hS39e
        have hS39 : Ch [] [55] S S39 := Ch_A hS39e
        have hS39v : ∀ x, (x = S.1 54 0 ∧ S39.2 55 x = a1) ∨ (¬ x = S.1 54 0 ∧ S39.2 55 x = S.2 55 x) := pA_at hS39e
        intro q6
        have e7 : S39.1 54 0 = S.1 54 0 := hS39.1 0 (by decide)
        refine ⟨by omega, ?_⟩
        intro S47 hS47e
        have hS47 : Ch [0] [] S39 S47 := Ch_I hS47e
        have hS47v : S47.1 54 0 = (S39.1 54 0 + 1) := pI_at hS47e
        exact hK (1) S47 (Ch.wk (Ch.tr hS39 hS47) (by decide) (by decide)) 
      · exact hK (0) S (Ch.wk Ch.rf (by decide) (by decide)) 
