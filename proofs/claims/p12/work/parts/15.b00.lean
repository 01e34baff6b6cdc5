/-! READING: leaves -/
def p10 (n : Int) : Int := 10 ^ n.toNat
theorem p10_s {n : Int} (h : 0 ≤ n) : p10 (n + 1) = 10 * p10 n := by
  unfold p10
  rw [show (n + 1).toNat = n.toNat + 1 by omega, Int.pow_succ, Int.mul_comm]
theorem p10_1 {n : Int} : 1 ≤ p10 n := by
  unfold p10
  have : (0 : Int) < 10 ^ n.toNat := Int.pow_pos (by decide)
  omega
theorem p10_0 : p10 0 = 1 := rfl
theorem p10_10 {n : Int} (h : 0 ≤ n ∧ n ≤ 10) : p10 n ≤ 10000000000 := by
  have : n = 0 ∨ n = 1 ∨ n = 2 ∨ n = 3 ∨ n = 4 ∨ n = 5 ∨ n = 6 ∨ n = 7 ∨ n = 8 ∨ n = 9 ∨ n = 10 := by omega
  rcases this with rfl | rfl | rfl | rfl | rfl | rfl | rfl | rfl | rfl | rfl | rfl <;> decide
theorem p10_5 {n : Int} (h : 0 ≤ n ∧ n ≤ 5) : p10 n ≤ 100000 := by
  have : n = 0 ∨ n = 1 ∨ n = 2 ∨ n = 3 ∨ n = 4 ∨ n = 5 := by omega
  rcases this with rfl | rfl | rfl | rfl | rfl | rfl <;> decide

set_option maxRecDepth 100000 in
set_option maxHeartbeats 4000000 in
theorem tX11_becomes {a1 a2 : Int} {S : St} {K : Int → St → Prop} (p1 : iv 0 29 a1) (p2 : iv 0 3 a2) (hK : ∀ (r : Int) (S' : St), Ch [] [69, 70] S S' → (iv 0 1 r) → (∀ x, x = (4 * (60 + a1) + a2) ∨ (S'.2 69) x = (S.2 69) x) → (∀ x, (20 * (4 * (60 + a1) + a2) ≤ x ∧ x < 20 * (4 * (60 + a1) + a2) + 20) ∨ (S'.2 70) x = (S.2 70) x) → ((S'.2 69) (4 * (60 + a1) + a2) = (S.2 69) (4 * (60 + a1) + a2) ∨ ¬ (S.2 59) (4 * (S.2 68) (60 + a1) + a2) = 1 ∨ iv 0 20 ((S'.2 69) (4 * (60 + a1) + a2))) → K r S') : wX11_becomes a1 a2 S K := by
  unfold wX11_becomes
  intro g1 g2
  intro x4 hx4
  subst hx4
  refine ⟨by omega, by omega, ?_⟩
  intro q1
  refine ⟨by omega, by omega, ?_⟩
  intro q2
  intro x20 hx20
  subst hx20
  intro x27 hx27
  subst hx27
  refine ⟨fun h32 => ?_, fun h32 => ?_⟩
  · intro q3
    refine ⟨fun h120 => ?_, fun h120 => ?_⟩
    · unfold wX11_becomes_138
      unfold wX11_becomes_139
      intro q4
      refine ⟨by omega, ?_⟩
      refine ⟨fun h147 => ?_, fun h147 => ?_⟩
      · exact hK (0) S (Ch.wk Ch.rf (by decide) (by decide)) (by omega) (by
              intro x
              omega) (by
              intro x
              omega) (by omega)
      · refine ⟨by omega, ?_⟩
        refine ⟨fun h159 => ?_, fun h159 => ?_⟩
        · unfold wX11_becomes_171
          refine ⟨fun u5 u6 u7 u9 Sx => S = Sx ∧ (((4 * ((60 + a1))) + a2)) = u5 ∧ ((0)) = u6 ∧ (0 ≤ u7) ∧ (u7 < p10 (u9 - u6)) ∧ (iv 0 1 u6) ∧ (u6 ≤ u9) ∧ (u9 ≤ (S.1 54 67)), fun u5 u6 u7 u9 Sx => ((S.1 54 67) + 1 - u9).toNat, ?_, fun v171_5 v171_6 v171_7 v171_9 S171h hI => ?_⟩
          · exact ⟨rfl, rfl, rfl, by omega, by rw [Int.sub_self, p10_0]; omega, by omega, by omega, by omega⟩
          obtain ⟨rfl, rfl, rfl, i171_0, i171_1, i171_2, i171_3, i171_4⟩ := hI
          unfold wX11_becomes_171'
          have h10 := p10_10 (n := v171_9 - (((0)))) (by omega)
          have h101 := p10_1 (n := v171_9 - (((0))))
          intro q5
          refine ⟨by omega, ?_⟩
          refine ⟨fun h177 => ?_, fun h177 => ?_⟩
          · refine ⟨by omega, ?_⟩
            refine ⟨fun h225 => ?_, fun h225 => ?_⟩
            · unfold wX11_becomes_236
              refine ⟨by omega, ?_⟩
              refine ⟨fun h243 => ?_, fun h243 => ?_⟩
              · exact hK (0) S (Ch.wk Ch.rf (by decide) (by decide)) (by omega) (by
                      intro x
                      omega) (by
                      intro x
                      omega) (by omega)
              · refine ⟨by omega, ?_⟩
                refine ⟨fun h252 => ?_, fun h252 => ?_⟩
                · refine ⟨by omega, by omega, ?_⟩
                  refine ⟨by omega, ?_⟩
                  intro S267 hS267e
                  have hS267 : Ch [] [69] S S267 := Ch_A hS267e
                  have hS267v : ∀ x, (x = (((4 * ((60 + a1))) + a2)) ∧ S267.2 69 x = (v171_7)) ∨ (¬ x = (((4 * ((60 + a1))) + a2)) ∧ S267.2 69 x = S.2 69 x) := pA_at hS267e
                  have e6 : S267.2 69 (4 * (60 + a1) + a2) = ((v171_7)) := by have q := hS267v (4 * (60 + a1) + a2); omega
                  exact hK (1) S267 (Ch.wk hS267 (by decide) (by decide)) (by omega) (by
                        intro x
                        have e7 := hS267v x
                        omega) (by
                        intro x
                        have e8 : S267.2 70 x = S.2 70 x := congrFun (hS267.2 70 (by decide)) _
                        omega) (by omega)
                · exact hK (0) S (Ch.wk Ch.rf (by decide) (by decide)) (by omega) (by
                        intro x
                        omega) (by
                        intro x
                        omega) (by omega)
            · unfold wX11_becomes_236
              refine ⟨by omega, ?_⟩
              refine ⟨fun h243 => ?_, fun h243 => ?_⟩
              · exact hK (0) S (Ch.wk Ch.rf (by decide) (by decide)) (by omega) (by
                      intro x
                      omega) (by
                      intro x
                      omega) (by omega)
              · refine ⟨by omega, ?_⟩
                refine ⟨fun h252 => ?_, fun h252 => ?_⟩
                · refine ⟨by omega, by omega, ?_⟩
                  refine ⟨by omega, ?_⟩
                  intro S267 hS267e
                  have hS267 : Ch [] [69] S S267 := Ch_A hS267e
                  have hS267v : ∀ x, (x = (((4 * ((60 + a1))) + a2)) ∧ S267.2 69 x = (-v171_7)) ∨ (¬ x = (((4 * ((60 + a1))) + a2)) ∧ S267.2 69 x = S.2 69 x) := pA_at hS267e
                  have e9 : S267.2 69 (4 * (60 + a1) + a2) = ((-v171_7)) := by have q := hS267v (4 * (60 + a1) + a2); omega
                  exact hK (1) S267 (Ch.wk hS267 (by decide) (by decide)) (by omega) (by
                        intro x
                        have e10 := hS267v x
                        omega) (by
                        intro x
                        have e11 : S267.2 70 x = S.2 70 x := congrFun (hS267.2 70 (by decide)) _
                        omega) (by omega)
                · exact hK (0) S (Ch.wk Ch.rf (by decide) (by decide)) (by omega) (by
                        intro x
                        omega) (by
                        intro x
                        omega) (by omega)
          · refine ⟨by omega, by omega, ?_⟩
            intro q12
            refine tX11_isDigit  (fun r187 n187_0 => ?_)
            refine ⟨by omega, ?_⟩
            refine ⟨fun h190 => ?_, fun h190 => ?_⟩
            · refine ⟨by omega, by omega, ?_⟩
              intro q13
              intro x214 hx214
              subst hx214
              have h11 : p10 ((((v171_9 + 1))) - ((((0))))) = 10 * p10 (v171_9 - (((0)))) := by
                rw [show (((v171_9 + 1))) - ((((0)))) = v171_9 - (((0))) + 1 by omega]
                exact p10_s (by omega)
              exact ⟨⟨rfl, rfl, rfl, by omega, by omega, by omega, by omega, by omega⟩, show ((S.1 54 67) + 1 - ((v171_9 + 1))).toNat < ((S.1 54 67) + 1 - v171_9).toNat by omega⟩
            · exact hK (0) S (Ch.wk Ch.rf (by decide) (by decide)) (by omega) (by
                    intro x
                    omega) (by
                    intro x
                    omega) (by omega)
        · exact hK (0) S (Ch.wk Ch.rf (by decide) (by decide)) (by omega) (by
                intro x
                omega) (by
                intro x
                omega) (by omega)
    · refine ⟨by omega, by omega, ?_⟩
      intro q14
      refine ⟨fun h131 => ?_, fun h131 => ?_⟩
      · unfold wX11_becomes_138
        unfold wX11_becomes_139
        intro q15
        refine ⟨by omega, ?_⟩
        refine ⟨fun h147 => ?_, fun h147 => ?_⟩
        · exact hK (0) S (Ch.wk Ch.rf (by decide) (by decide)) (by omega) (by
                intro x
                omega) (by
                intro x
                omega) (by omega)
        · refine ⟨by omega, ?_⟩
          refine ⟨fun h159 => ?_, fun h159 => ?_⟩
          · unfold wX11_becomes_171
            refine ⟨fun u5 u6 u7 u9 Sx => S = Sx ∧ (((4 * ((60 + a1))) + a2)) = u5 ∧ ((0)) = u6 ∧ (0 ≤ u7) ∧ (u7 < p10 (u9 - u6)) ∧ (iv 0 1 u6) ∧ (u6 ≤ u9) ∧ (u9 ≤ (S.1 54 67)), fun u5 u6 u7 u9 Sx => ((S.1 54 67) + 1 - u9).toNat, ?_, fun v171_5 v171_6 v171_7 v171_9 S171h hI => ?_⟩
            · exact ⟨rfl, rfl, rfl, by omega, by rw [Int.sub_self, p10_0]; omega, by omega, by omega, by omega⟩
            obtain ⟨rfl, rfl, rfl, i171_0, i171_1, i171_2, i171_3, i171_4⟩ := hI
            unfold wX11_becomes_171'
            have h10 := p10_10 (n := v171_9 - (((0)))) (by omega)
            have h101 := p10_1 (n := v171_9 - (((0))))
            intro q16
            refine ⟨by omega, ?_⟩
            refine ⟨fun h177 => ?_, fun h177 => ?_⟩
            · refine ⟨by omega, ?_⟩
              refine ⟨fun h225 => ?_, fun h225 => ?_⟩
              · unfold wX11_becomes_236
                refine ⟨by omega, ?_⟩
                refine ⟨fun h243 => ?_, fun h243 => ?_⟩
                · exact hK (0) S (Ch.wk Ch.rf (by decide) (by decide)) (by omega) (by
                        intro x
                        omega) (by
                        intro x
                        omega) (by omega)
                · refine ⟨by omega, ?_⟩
                  refine ⟨fun h252 => ?_, fun h252 => ?_⟩
                  · refine ⟨by omega, by omega, ?_⟩
                    refine ⟨by omega, ?_⟩
                    intro S267 hS267e
                    have hS267 : Ch [] [69] S S267 := Ch_A hS267e
                    have hS267v : ∀ x, (x = (((4 * ((60 + a1))) + a2)) ∧ S267.2 69 x = (v171_7)) ∨ (¬ x = (((4 * ((60 + a1))) + a2)) ∧ S267.2 69 x = S.2 69 x) := pA_at hS267e
                    have e17 : S267.2 69 (4 * (60 + a1) + a2) = ((v171_7)) := by have q := hS267v (4 * (60 + a1) + a2); omega
                    exact hK (1) S267 (Ch.wk hS267 (by decide) (by decide)) (by omega) (by
                          intro x
                          have e18 := hS267v x
                          omega) (by
                          intro x
                          have e19 : S267.2 70 x = S.2 70 x := congrFun (hS267.2 70 (by decide)) _
                          omega) (by omega)
                  · exact hK (0) S (Ch.wk Ch.rf (by decide) (by decide)) (by omega) (by
                          intro x
                          omega) (by
                          intro x
                          omega) (by omega)
              · unfold wX11_becomes_236
                refine ⟨by omega, ?_⟩
                refine ⟨fun h243 => ?_, fun h243 => ?_⟩
                · exact hK (0) S (Ch.wk Ch.rf (by decide) (by decide)) (by omega) (by
                        intro x
                        omega) (by
                        intro x
                        omega) (by omega)
                · refine ⟨by omega, ?_⟩
                  refine ⟨fun h252 => ?_, fun h252 => ?_⟩
                  · refine ⟨by omega, by omega, ?_⟩
                    refine ⟨by omega, ?_⟩
                    intro S267 hS267e
                    have hS267 : Ch [] [69] S S267 := Ch_A hS267e
                    have hS267v : ∀ x, (x = (((4 * ((60 + a1))) + a2)) ∧ S267.2 69 x = (-v171_7)) ∨ (¬ x = (((4 * ((60 + a1))) + a2)) ∧ S267.2 69 x = S.2 69 x) := pA_at hS267e
                    have e20 : S267.2 69 (4 * (60 + a1) + a2) = ((-v171_7)) := by have q := hS267v (4 * (60 + a1) + a2); omega
                    exact hK (1) S267 (Ch.wk hS267 (by decide) (by decide)) (by omega) (by
                          intro x
                          have e21 := hS267v x
                          omega) (by
                          intro x
                          have e22 : S267.2 70 x = S.2 70 x := congrFun (hS267.2 70 (by decide)) _
                          omega) (by omega)
                  · exact hK (0) S (Ch.wk Ch.rf (by decide) (by decide)) (by omega) (by
                          intro x
                          omega) (by
                          intro x
                          omega) (by omega)
            · refine ⟨by omega, by omega, ?_⟩
              intro q23
              refine tX11_isDigit  (fun r187 n187_0 => ?_)
              refine ⟨by omega, ?_⟩
              refine ⟨fun h190 => ?_, fun h190 => ?_⟩
              · refine ⟨by omega, by omega, ?_⟩
                intro q24
                intro x214 hx214
                subst hx214
                have h11 : p10 ((((v171_9 + 1))) - ((((0))))) = 10 * p10 (v171_9 - (((0)))) := by
                  rw [show (((v171_9 + 1))) - ((((0)))) = v171_9 - (((0))) + 1 by omega]
                  exact p10_s (by omega)
                exact ⟨⟨rfl, rfl, rfl, by omega, by omega, by omega, by omega, by omega⟩, show ((S.1 54 67) + 1 - ((v171_9 + 1))).toNat < ((S.1 54 67) + 1 - v171_9).toNat by omega⟩
              · exact hK (0) S (Ch.wk Ch.rf (by decide) (by decide)) (by omega) (by
                      intro x
                      omega) (by
                      intro x
                      omega) (by omega)
          · exact hK (0) S (Ch.wk Ch.rf (by decide) (by decide)) (by omega) (by
                  intro x
                  omega) (by
                  intro x
                  omega) (by omega)
      · unfold wX11_becomes_139
        intro q25
        refine ⟨by omega, ?_⟩
        refine ⟨fun h147 => ?_, fun h147 => ?_⟩
        · exact hK (0) S (Ch.wk Ch.rf (by decide) (by decide)) (by omega) (by
                intro x
                omega) (by
                intro x
                omega) (by omega)
        · refine ⟨by omega, ?_⟩
          refine ⟨fun h159 => ?_, fun h159 => ?_⟩
          · unfold wX11_becomes_171
            refine ⟨fun u5 u6 u7 u9 Sx => S = Sx ∧ (((4 * ((60 + a1))) + a2)) = u5 ∧ ((1)) = u6 ∧ (0 ≤ u7) ∧ (u7 < p10 (u9 - u6)) ∧ (iv 0 1 u6) ∧ (u6 ≤ u9) ∧ (u9 ≤ (S.1 54 67)), fun u5 u6 u7 u9 Sx => ((S.1 54 67) + 1 - u9).toNat, ?_, fun v171_5 v171_6 v171_7 v171_9 S171h hI => ?_⟩
            · exact ⟨rfl, rfl, rfl, by omega, by rw [Int.sub_self, p10_0]; omega, by omega, by omega, by omega⟩
            obtain ⟨rfl, rfl, rfl, i171_0, i171_1, i171_2, i171_3, i171_4⟩ := hI
            unfold wX11_becomes_171'
            have h10 := p10_10 (n := v171_9 - (((1)))) (by omega)
            have h101 := p10_1 (n := v171_9 - (((1))))
            intro q26
            refine ⟨by omega, ?_⟩
            refine ⟨fun h177 => ?_, fun h177 => ?_⟩
            · refine ⟨by omega, ?_⟩
              refine ⟨fun h225 => ?_, fun h225 => ?_⟩
              · unfold wX11_becomes_236
                refine ⟨by omega, ?_⟩
                refine ⟨fun h243 => ?_, fun h243 => ?_⟩
                · exact hK (0) S (Ch.wk Ch.rf (by decide) (by decide)) (by omega) (by
                        intro x
                        omega) (by
                        intro x
                        omega) (by omega)
                · refine ⟨by omega, ?_⟩
                  refine ⟨fun h252 => ?_, fun h252 => ?_⟩
                  · refine ⟨by omega, by omega, ?_⟩
                    refine ⟨by omega, ?_⟩
                    intro S267 hS267e
                    have hS267 : Ch [] [69] S S267 := Ch_A hS267e
                    have hS267v : ∀ x, (x = (((4 * ((60 + a1))) + a2)) ∧ S267.2 69 x = (v171_7)) ∨ (¬ x = (((4 * ((60 + a1))) + a2)) ∧ S267.2 69 x = S.2 69 x) := pA_at hS267e
                    have e27 : S267.2 69 (4 * (60 + a1) + a2) = ((v171_7)) := by have q := hS267v (4 * (60 + a1) + a2); omega
                    exact hK (1) S267 (Ch.wk hS267 (by decide) (by decide)) (by omega) (by
                          intro x
                          have e28 := hS267v x
                          omega) (by
                          intro x
                          have e29 : S267.2 70 x = S.2 70 x := congrFun (hS267.2 70 (by decide)) _
                          omega) (by omega)
                  · exact hK (0) S (Ch.wk Ch.rf (by decide) (by decide)) (by omega) (by
                          intro x
                          omega) (by
                          intro x
                          omega) (by omega)
              · unfold wX11_becomes_236
                refine ⟨by omega, ?_⟩
                refine ⟨fun h243 => ?_, fun h243 => ?_⟩
                · exact hK (0) S (Ch.wk Ch.rf (by decide) (by decide)) (by omega) (by
                        intro x
                        omega) (by
                        intro x
                        omega) (by omega)
                · refine ⟨by omega, ?_⟩
                  refine ⟨fun h252 => ?_, fun h252 => ?_⟩
                  · refine ⟨by omega, by omega, ?_⟩
                    refine ⟨by omega, ?_⟩
                    intro S267 hS267e
                    have hS267 : Ch [] [69] S S267 := Ch_A hS267e
                    have hS267v : ∀ x, (x = (((4 * ((60 + a1))) + a2)) ∧ S267.2 69 x = (-v171_7)) ∨ (¬ x = (((4 * ((60 + a1))) + a2)) ∧ S267.2 69 x = S.2 69 x) := pA_at hS267e
                    have e30 : S267.2 69 (4 * (60 + a1) + a2) = ((-v171_7)) := by have q := hS267v (4 * (60 + a1) + a2); omega
                    exact hK (1) S267 (Ch.wk hS267 (by decide) (by decide)) (by omega) (by
                          intro x
                          have e31 := hS267v x
                          omega) (by
                          intro x
                          have e32 : S267.2 70 x = S.2 70 x := congrFun (hS267.2 70 (by decide)) _
                          omega) (by omega)
                  · exact hK (0) S (Ch.wk Ch.rf (by decide) (by decide)) (by omega) (by
                          intro x
                          omega) (by
                          intro x
                          omega) (by omega)
            · refine ⟨by omega, by omega, ?_⟩
              intro q33
              refine tX11_isDigit  (fun r187 n187_0 => ?_)
              refine ⟨by omega, ?_⟩
              refine ⟨fun h190 => ?_, fun h190 => ?_⟩
              · refine ⟨by omega, by omega, ?_⟩
                intro q34
                intro x214 hx214
                subst hx214
                have h11 : p10 ((((v171_9 + 1))) - ((((1))))) = 10 * p10 (v171_9 - (((1)))) := by
                  rw [show (((v171_9 + 1))) - ((((1)))) = v171_9 - (((1))) + 1 by omega]
                  exact p10_s (by omega)
                exact ⟨⟨rfl, rfl, rfl, by omega, by omega, by omega, by omega, by omega⟩, show ((S.1 54 67) + 1 - ((v171_9 + 1))).toNat < ((S.1 54 67) + 1 - v171_9).toNat by omega⟩
              · exact hK (0) S (Ch.wk Ch.rf (by decide) (by decide)) (by omega) (by
                      intro x
                      omega) (by
                      intro x
                      omega) (by omega)
          · exact hK (0) S (Ch.wk Ch.rf (by decide) (by decide)) (by omega) (by
                  intro x
                  omega) (by
                  intro x
                  omega) (by omega)
  · intro q35
    refine ⟨fun h41 => ?_, fun h41 => ?_⟩
    · unfold wX11_becomes_49
      refine ⟨fun u5 u6 Sx => Ch [] [70] S Sx ∧ (((4 * ((60 + a1))) + a2)) = u5 ∧ (0 ≤ u6) ∧ (u6 ≤ 20) ∧ (∀ x, (20 * (4 * (60 + a1) + a2) ≤ x ∧ x < 20 * (4 * (60 + a1) + a2) + 20) ∨ (Sx.2 70) x = (S.2 70) x), fun u5 u6 Sx => (21 - u6).toNat, ?_, fun v49_5 v49_6 S49h hI => ?_⟩
      · exact ⟨Ch.re, rfl, by omega, by omega, (by
            intro x
            exact Or.inr rfl)⟩
      obtain ⟨hS49h, rfl, i49_0, i49_1, i49_2⟩ := hI
      unfold wX11_becomes_49'
      intro q36
      have e37 : S49h.1 54 67 = S.1 54 67 := hS49h.1 67 (by decide)
      refine ⟨by omega, ?_⟩
      refine ⟨fun h55 => ?_, fun h55 => ?_⟩
      · refine ⟨by omega, by omega, ?_⟩
        refine ⟨by omega, ?_⟩
        intro S113 hS113e
        have hS113 : Ch [] [69] S49h S113 := Ch_A hS113e
        have hS113v : ∀ x, (x = (((4 * ((60 + a1))) + a2)) ∧ S113.2 69 x = S49h.1 54 67) ∨ (¬ x = (((4 * ((60 + a1))) + a2)) ∧ S113.2 69 x = S49h.2 69 x) := pA_at hS113e
        have e38 : S113.2 69 (4 * (60 + a1) + a2) = (S49h.1 54 67) := by have q := hS113v (4 * (60 + a1) + a2); omega
        have e39 : S49h.2 69 (4 * (60 + a1) + a2) = S.2 69 (4 * (60 + a1) + a2) := congrFun (hS49h.2 69 (by decide)) _
        exact hK (1) S113 (Ch.wk (Ch.tr hS49h hS113) (by decide) (by decide)) (by omega) (by
              intro x
              have e40 := hS113v x
              have e41 : S49h.2 69 x = S.2 69 x := congrFun (hS49h.2 69 (by decide)) _
              omega) (by
              intro x
              have e42 : S113.2 70 x = S49h.2 70 x := congrFun (hS113.2 70 (by decide)) _
              have e43 := i49_2 x
              omega) (by omega)
      · refine ⟨by omega, by omega, ?_⟩
        intro q44
        have e45 : S49h.2 104 (v49_6) = S.2 104 (v49_6) := congrFun (hS49h.2 104 (by decide)) _
        refine tX11_in  (fun r69 n69_0 => ?_)
        refine ⟨by omega, ?_⟩
        refine ⟨fun h72 => ?_, fun h72 => ?_⟩
        · refine ⟨by omega, by omega, ?_⟩
          intro q46
          have e47 : S49h.2 104 (v49_6) = S.2 104 (v49_6) := congrFun (hS49h.2 104 (by decide)) _
          refine ⟨by omega, by omega, ?_⟩
          intro S96 hS96e
          have hS96 : Ch [] [70] S49h S96 := Ch_A hS96e
          have hS96v : ∀ x, (x = ((20 * (((4 * ((60 + a1))) + a2))) + v49_6) ∧ S96.2 70 x = S49h.2 104 (v49_6)) ∨ (¬ x = ((20 * (((4 * ((60 + a1))) + a2))) + v49_6) ∧ S96.2 70 x = S49h.2 70 x) := pA_at hS96e
          exact ⟨⟨(Ch.wk (Ch.tr hS49h hS96) (by decide) (by decide)), rfl, by omega, by omega, (by
                intro x
                have e48 := hS96v x
                have e49 := i49_2 x
                omega)⟩, show (21 - ((v49_6 + 1))).toNat < (21 - v49_6).toNat by omega⟩
        · have e50 : S49h.2 69 (4 * (60 + a1) + a2) = S.2 69 (4 * (60 + a1) + a2) := congrFun (hS49h.2 69 (by decide)) _
          exact hK (0) S49h (Ch.wk hS49h (by decide) (by decide)) (by omega) (by
                intro x
                have e51 : S49h.2 69 x = S.2 69 x := congrFun (hS49h.2 69 (by decide)) _
                omega) (by
                intro x
                have e52 := i49_2 x
                omega) (by omega)
    · exact hK (0) S (Ch.wk Ch.rf (by decide) (by decide)) (by omega) (by
            intro x
            omega) (by
            intro x
            omega) (by omega)

