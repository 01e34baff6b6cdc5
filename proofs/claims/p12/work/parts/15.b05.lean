set_option maxRecDepth 100000 in
set_option maxHeartbeats 4000000 in
theorem tX11_withId {S : St} {K : Int → St → Prop}  (hK : ∀ (r : Int), (r = -2 ∨ (0 ≤ r ∧ r < (S.1 54 43))) → K r S) : wX11_withId  S K := by
  unfold wX11_withId
  intro q1
  refine ⟨fun h6 => ?_, fun h6 => ?_⟩
  · unfold wX11_withId_32
    unfold wX11_withId_33
    unfold wX11_withId_36
    refine ⟨fun u1 u2 u3 Sx => S = Sx ∧ (iv 0 1 u2) ∧ (0 ≤ u3) ∧ (u3 ≤ 4) ∧ (u2 = 0 ∨ (0 ≤ u1 ∧ u1 < p10 u3)) ∧ (u2 = 0 ∨ (Sx.1 54 67) ≤ 4), fun u1 u2 u3 Sx => (5 - u3).toNat, ?_, fun v36_1 v36_2 v36_3 S36h hI => ?_⟩
    · exact ⟨rfl, by omega, by omega, by omega, by have := p10_0; omega, by omega⟩
    obtain ⟨rfl, i36_0, i36_1, i36_2, i36_3, i36_4⟩ := hI
    unfold wX11_withId_36'
    have h10 := p10_5 (n := v36_3) (by omega)
    have h101 := p10_1 (n := v36_3)
    intro q2
    refine ⟨by omega, ?_⟩
    refine ⟨fun h41 => ?_, fun h41 => ?_⟩
    · unfold wX11_withId_79
      unfold wX11_withId_85
      refine ⟨fun u1 u2 u3 u4 Sx => S = Sx ∧ v36_1 = u1 ∧ v36_2 = u2 ∧ (iv 0 1 u2) ∧ (iv 0 200 u4) ∧ (u3 = -2 ∨ (0 ≤ u3 ∧ u3 < u4)) ∧ (u4 = 0 ∨ u4 ≤ (Sx.1 54 43)) ∧ (u2 = 0 ∨ iv 0 100000 u1), fun u1 u2 u3 u4 Sx => (201 - u4).toNat, ?_, fun v85_1 v85_2 v85_3 v85_4 S85h hI => ?_⟩
      · exact ⟨rfl, rfl, rfl, by omega, by omega, by omega, by omega, by omega⟩
      obtain ⟨rfl, rfl, rfl, i85_0, i85_1, i85_2, i85_3, i85_4⟩ := hI
      unfold wX11_withId_85'
      intro q3
      refine ⟨by omega, ?_⟩
      refine ⟨fun h91 => ?_, fun h91 => ?_⟩
      · exact hK (v85_3) (by omega)
      · refine ⟨by omega, ?_⟩
        refine ⟨fun h95 => ?_, fun h95 => ?_⟩
        · exact hK (v85_3) (by omega)
        · refine ⟨by omega, by omega, ?_⟩
          intro q4
          refine ⟨fun h106 => ?_, fun h106 => ?_⟩
          · unfold wX11_withId_125
            unfold wX11_withId_126
            exact ⟨⟨rfl, rfl, rfl, by omega, by omega, by omega, by omega, by omega⟩, show (201 - ((v85_4 + 1))).toNat < (201 - v85_4).toNat by omega⟩
          · refine ⟨by omega, by omega, ?_⟩
            intro q5
            refine ⟨by omega, ?_⟩
            refine ⟨fun h117 => ?_, fun h117 => ?_⟩
            · unfold wX11_withId_125
              unfold wX11_withId_126
              exact ⟨⟨rfl, rfl, rfl, by omega, by omega, by omega, by omega, by omega⟩, show (201 - ((v85_4 + 1))).toNat < (201 - v85_4).toNat by omega⟩
            · unfold wX11_withId_126
              exact ⟨⟨rfl, rfl, rfl, by omega, by omega, by omega, by omega, by omega⟩, show (201 - ((v85_4 + 1))).toNat < (201 - v85_4).toNat by omega⟩
    · refine ⟨by omega, ?_⟩
      refine ⟨fun h45 => ?_, fun h45 => ?_⟩
      · unfold wX11_withId_79
        unfold wX11_withId_85
        refine ⟨fun u1 u2 u3 u4 Sx => S = Sx ∧ v36_1 = u1 ∧ v36_2 = u2 ∧ (iv 0 1 u2) ∧ (iv 0 200 u4) ∧ (u3 = -2 ∨ (0 ≤ u3 ∧ u3 < u4)) ∧ (u4 = 0 ∨ u4 ≤ (Sx.1 54 43)) ∧ (u2 = 0 ∨ iv 0 100000 u1), fun u1 u2 u3 u4 Sx => (201 - u4).toNat, ?_, fun v85_1 v85_2 v85_3 v85_4 S85h hI => ?_⟩
        · exact ⟨rfl, rfl, rfl, by omega, by omega, by omega, by omega, by omega⟩
        obtain ⟨rfl, rfl, rfl, i85_0, i85_1, i85_2, i85_3, i85_4⟩ := hI
        unfold wX11_withId_85'
        intro q6
        refine ⟨by omega, ?_⟩
        refine ⟨fun h91 => ?_, fun h91 => ?_⟩
        · exact hK (v85_3) (by omega)
        · refine ⟨by omega, ?_⟩
          refine ⟨fun h95 => ?_, fun h95 => ?_⟩
          · exact hK (v85_3) (by omega)
          · refine ⟨by omega, by omega, ?_⟩
            intro q7
            refine ⟨fun h106 => ?_, fun h106 => ?_⟩
            · unfold wX11_withId_125
              unfold wX11_withId_126
              exact ⟨⟨rfl, rfl, rfl, by omega, by omega, by omega, by omega, by omega⟩, show (201 - ((v85_4 + 1))).toNat < (201 - v85_4).toNat by omega⟩
            · refine ⟨by omega, by omega, ?_⟩
              intro q8
              refine ⟨by omega, ?_⟩
              refine ⟨fun h117 => ?_, fun h117 => ?_⟩
              · unfold wX11_withId_125
                unfold wX11_withId_126
                exact ⟨⟨rfl, rfl, rfl, by omega, by omega, by omega, by omega, by omega⟩, show (201 - ((v85_4 + 1))).toNat < (201 - v85_4).toNat by omega⟩
              · unfold wX11_withId_126
                exact ⟨⟨rfl, rfl, rfl, by omega, by omega, by omega, by omega, by omega⟩, show (201 - ((v85_4 + 1))).toNat < (201 - v85_4).toNat by omega⟩
      · refine ⟨by omega, by omega, ?_⟩
        intro q9
        refine tX11_isDigit  (fun r54 n54_0 => ?_)
        refine ⟨by omega, by omega, ?_⟩
        intro q10
        intro x72 hx72
        subst hx72
        have h11 := p10_s (n := v36_3) (by omega)
        exact ⟨⟨rfl, by omega, by omega, by omega, by omega, by omega⟩, show (5 - ((v36_3 + 1))).toNat < (5 - v36_3).toNat by omega⟩
  · refine ⟨fun h14 => ?_, fun h14 => ?_⟩
    · unfold wX11_withId_32
      unfold wX11_withId_33
      unfold wX11_withId_36
      refine ⟨fun u1 u2 u3 Sx => S = Sx ∧ (iv 0 1 u2) ∧ (0 ≤ u3) ∧ (u3 ≤ 4) ∧ (u2 = 0 ∨ (0 ≤ u1 ∧ u1 < p10 u3)) ∧ (u2 = 0 ∨ (Sx.1 54 67) ≤ 4), fun u1 u2 u3 Sx => (5 - u3).toNat, ?_, fun v36_1 v36_2 v36_3 S36h hI => ?_⟩
      · exact ⟨rfl, by omega, by omega, by omega, by have := p10_0; omega, by omega⟩
      obtain ⟨rfl, i36_0, i36_1, i36_2, i36_3, i36_4⟩ := hI
      unfold wX11_withId_36'
      have h10 := p10_5 (n := v36_3) (by omega)
      have h101 := p10_1 (n := v36_3)
      intro q11
      refine ⟨by omega, ?_⟩
      refine ⟨fun h41 => ?_, fun h41 => ?_⟩
      · unfold wX11_withId_79
        unfold wX11_withId_85
        refine ⟨fun u1 u2 u3 u4 Sx => S = Sx ∧ v36_1 = u1 ∧ v36_2 = u2 ∧ (iv 0 1 u2) ∧ (iv 0 200 u4) ∧ (u3 = -2 ∨ (0 ≤ u3 ∧ u3 < u4)) ∧ (u4 = 0 ∨ u4 ≤ (Sx.1 54 43)) ∧ (u2 = 0 ∨ iv 0 100000 u1), fun u1 u2 u3 u4 Sx => (201 - u4).toNat, ?_, fun v85_1 v85_2 v85_3 v85_4 S85h hI => ?_⟩
        · exact ⟨rfl, rfl, rfl, by omega, by omega, by omega, by omega, by omega⟩
        obtain ⟨rfl, rfl, rfl, i85_0, i85_1, i85_2, i85_3, i85_4⟩ := hI
        unfold wX11_withId_85'
        intro q12
        refine ⟨by omega, ?_⟩
        refine ⟨fun h91 => ?_, fun h91 => ?_⟩
        · exact hK (v85_3) (by omega)
        · refine ⟨by omega, ?_⟩
          refine ⟨fun h95 => ?_, fun h95 => ?_⟩
          · exact hK (v85_3) (by omega)
          · refine ⟨by omega, by omega, ?_⟩
            intro q13
            refine ⟨fun h106 => ?_, fun h106 => ?_⟩
            · unfold wX11_withId_125
              unfold wX11_withId_126
              exact ⟨⟨rfl, rfl, rfl, by omega, by omega, by omega, by omega, by omega⟩, show (201 - ((v85_4 + 1))).toNat < (201 - v85_4).toNat by omega⟩
            · refine ⟨by omega, by omega, ?_⟩
              intro q14
              refine ⟨by omega, ?_⟩
              refine ⟨fun h117 => ?_, fun h117 => ?_⟩
              · unfold wX11_withId_125
                unfold wX11_withId_126
                exact ⟨⟨rfl, rfl, rfl, by omega, by omega, by omega, by omega, by omega⟩, show (201 - ((v85_4 + 1))).toNat < (201 - v85_4).toNat by omega⟩
              · unfold wX11_withId_126
                exact ⟨⟨rfl, rfl, rfl, by omega, by omega, by omega, by omega, by omega⟩, show (201 - ((v85_4 + 1))).toNat < (201 - v85_4).toNat by omega⟩
      · refine ⟨by omega, ?_⟩
        refine ⟨fun h45 => ?_, fun h45 => ?_⟩
        · unfold wX11_withId_79
          unfold wX11_withId_85
          refine ⟨fun u1 u2 u3 u4 Sx => S = Sx ∧ v36_1 = u1 ∧ v36_2 = u2 ∧ (iv 0 1 u2) ∧ (iv 0 200 u4) ∧ (u3 = -2 ∨ (0 ≤ u3 ∧ u3 < u4)) ∧ (u4 = 0 ∨ u4 ≤ (Sx.1 54 43)) ∧ (u2 = 0 ∨ iv 0 100000 u1), fun u1 u2 u3 u4 Sx => (201 - u4).toNat, ?_, fun v85_1 v85_2 v85_3 v85_4 S85h hI => ?_⟩
          · exact ⟨rfl, rfl, rfl, by omega, by omega, by omega, by omega, by omega⟩
          obtain ⟨rfl, rfl, rfl, i85_0, i85_1, i85_2, i85_3, i85_4⟩ := hI
          unfold wX11_withId_85'
          intro q15
          refine ⟨by omega, ?_⟩
          refine ⟨fun h91 => ?_, fun h91 => ?_⟩
          · exact hK (v85_3) (by omega)
          · refine ⟨by omega, ?_⟩
            refine ⟨fun h95 => ?_, fun h95 => ?_⟩
            · exact hK (v85_3) (by omega)
            · refine ⟨by omega, by omega, ?_⟩
              intro q16
              refine ⟨fun h106 => ?_, fun h106 => ?_⟩
              · unfold wX11_withId_125
                unfold wX11_withId_126
                exact ⟨⟨rfl, rfl, rfl, by omega, by omega, by omega, by omega, by omega⟩, show (201 - ((v85_4 + 1))).toNat < (201 - v85_4).toNat by omega⟩
              · refine ⟨by omega, by omega, ?_⟩
                intro q17
                refine ⟨by omega, ?_⟩
                refine ⟨fun h117 => ?_, fun h117 => ?_⟩
                · unfold wX11_withId_125
                  unfold wX11_withId_126
                  exact ⟨⟨rfl, rfl, rfl, by omega, by omega, by omega, by omega, by omega⟩, show (201 - ((v85_4 + 1))).toNat < (201 - v85_4).toNat by omega⟩
                · unfold wX11_withId_126
                  exact ⟨⟨rfl, rfl, rfl, by omega, by omega, by omega, by omega, by omega⟩, show (201 - ((v85_4 + 1))).toNat < (201 - v85_4).toNat by omega⟩
        · refine ⟨by omega, by omega, ?_⟩
          intro q18
          refine tX11_isDigit  (fun r54 n54_0 => ?_)
          refine ⟨by omega, by omega, ?_⟩
          intro q19
          intro x72 hx72
          subst hx72
          have h11 := p10_s (n := v36_3) (by omega)
          exact ⟨⟨rfl, by omega, by omega, by omega, by omega, by omega⟩, show (5 - ((v36_3 + 1))).toNat < (5 - v36_3).toNat by omega⟩
    · refine ⟨by omega, by omega, ?_⟩
      intro q20
      refine ⟨fun h25 => ?_, fun h25 => ?_⟩
      · unfold wX11_withId_32
        unfold wX11_withId_33
        unfold wX11_withId_36
        refine ⟨fun u1 u2 u3 Sx => S = Sx ∧ (iv 0 1 u2) ∧ (0 ≤ u3) ∧ (u3 ≤ 4) ∧ (u2 = 0 ∨ (0 ≤ u1 ∧ u1 < p10 u3)) ∧ (u2 = 0 ∨ (Sx.1 54 67) ≤ 4), fun u1 u2 u3 Sx => (5 - u3).toNat, ?_, fun v36_1 v36_2 v36_3 S36h hI => ?_⟩
        · exact ⟨rfl, by omega, by omega, by omega, by have := p10_0; omega, by omega⟩
        obtain ⟨rfl, i36_0, i36_1, i36_2, i36_3, i36_4⟩ := hI
        unfold wX11_withId_36'
        have h10 := p10_5 (n := v36_3) (by omega)
        have h101 := p10_1 (n := v36_3)
        intro q21
        refine ⟨by omega, ?_⟩
        refine ⟨fun h41 => ?_, fun h41 => ?_⟩
        · unfold wX11_withId_79
          unfold wX11_withId_85
          refine ⟨fun u1 u2 u3 u4 Sx => S = Sx ∧ v36_1 = u1 ∧ v36_2 = u2 ∧ (iv 0 1 u2) ∧ (iv 0 200 u4) ∧ (u3 = -2 ∨ (0 ≤ u3 ∧ u3 < u4)) ∧ (u4 = 0 ∨ u4 ≤ (Sx.1 54 43)) ∧ (u2 = 0 ∨ iv 0 100000 u1), fun u1 u2 u3 u4 Sx => (201 - u4).toNat, ?_, fun v85_1 v85_2 v85_3 v85_4 S85h hI => ?_⟩
          · exact ⟨rfl, rfl, rfl, by omega, by omega, by omega, by omega, by omega⟩
          obtain ⟨rfl, rfl, rfl, i85_0, i85_1, i85_2, i85_3, i85_4⟩ := hI
          unfold wX11_withId_85'
          intro q22
          refine ⟨by omega, ?_⟩
          refine ⟨fun h91 => ?_, fun h91 => ?_⟩
          · exact hK (v85_3) (by omega)
          · refine ⟨by omega, ?_⟩
            refine ⟨fun h95 => ?_, fun h95 => ?_⟩
            · exact hK (v85_3) (by omega)
            · refine ⟨by omega, by omega, ?_⟩
              intro q23
              refine ⟨fun h106 => ?_, fun h106 => ?_⟩
              · unfold wX11_withId_125
                unfold wX11_withId_126
                exact ⟨⟨rfl, rfl, rfl, by omega, by omega, by omega, by omega, by omega⟩, show (201 - ((v85_4 + 1))).toNat < (201 - v85_4).toNat by omega⟩
              · refine ⟨by omega, by omega, ?_⟩
                intro q24
                refine ⟨by omega, ?_⟩
                refine ⟨fun h117 => ?_, fun h117 => ?_⟩
                · unfold wX11_withId_125
                  unfold wX11_withId_126
                  exact ⟨⟨rfl, rfl, rfl, by omega, by omega, by omega, by omega, by omega⟩, show (201 - ((v85_4 + 1))).toNat < (201 - v85_4).toNat by omega⟩
                · unfold wX11_withId_126
                  exact ⟨⟨rfl, rfl, rfl, by omega, by omega, by omega, by omega, by omega⟩, show (201 - ((v85_4 + 1))).toNat < (201 - v85_4).toNat by omega⟩
        · refine ⟨by omega, ?_⟩
          refine ⟨fun h45 => ?_, fun h45 => ?_⟩
          · unfold wX11_withId_79
            unfold wX11_withId_85
            refine ⟨fun u1 u2 u3 u4 Sx => S = Sx ∧ v36_1 = u1 ∧ v36_2 = u2 ∧ (iv 0 1 u2) ∧ (iv 0 200 u4) ∧ (u3 = -2 ∨ (0 ≤ u3 ∧ u3 < u4)) ∧ (u4 = 0 ∨ u4 ≤ (Sx.1 54 43)) ∧ (u2 = 0 ∨ iv 0 100000 u1), fun u1 u2 u3 u4 Sx => (201 - u4).toNat, ?_, fun v85_1 v85_2 v85_3 v85_4 S85h hI => ?_⟩
            · exact ⟨rfl, rfl, rfl, by omega, by omega, by omega, by omega, by omega⟩
            obtain ⟨rfl, rfl, rfl, i85_0, i85_1, i85_2, i85_3, i85_4⟩ := hI
            unfold wX11_withId_85'
            intro q25
            refine ⟨by omega, ?_⟩
            refine ⟨fun h91 => ?_, fun h91 => ?_⟩
            · exact hK (v85_3) (by omega)
            · refine ⟨by omega, ?_⟩
              refine ⟨fun h95 => ?_, fun h95 => ?_⟩
              · exact hK (v85_3) (by omega)
              · refine ⟨by omega, by omega, ?_⟩
                intro q26
                refine ⟨fun h106 => ?_, fun h106 => ?_⟩
                · unfold wX11_withId_125
                  unfold wX11_withId_126
                  exact ⟨⟨rfl, rfl, rfl, by omega, by omega, by omega, by omega, by omega⟩, show (201 - ((v85_4 + 1))).toNat < (201 - v85_4).toNat by omega⟩
                · refine ⟨by omega, by omega, ?_⟩
                  intro q27
                  refine ⟨by omega, ?_⟩
                  refine ⟨fun h117 => ?_, fun h117 => ?_⟩
                  · unfold wX11_withId_125
                    unfold wX11_withId_126
                    exact ⟨⟨rfl, rfl, rfl, by omega, by omega, by omega, by omega, by omega⟩, show (201 - ((v85_4 + 1))).toNat < (201 - v85_4).toNat by omega⟩
                  · unfold wX11_withId_126
                    exact ⟨⟨rfl, rfl, rfl, by omega, by omega, by omega, by omega, by omega⟩, show (201 - ((v85_4 + 1))).toNat < (201 - v85_4).toNat by omega⟩
          · refine ⟨by omega, by omega, ?_⟩
            intro q28
            refine tX11_isDigit  (fun r54 n54_0 => ?_)
            refine ⟨by omega, by omega, ?_⟩
            intro q29
            intro x72 hx72
            subst hx72
            have h11 := p10_s (n := v36_3) (by omega)
            exact ⟨⟨rfl, by omega, by omega, by omega, by omega, by omega⟩, show (5 - ((v36_3 + 1))).toNat < (5 - v36_3).toNat by omega⟩
      · unfold wX11_withId_33
        unfold wX11_withId_36
        refine ⟨fun u1 u2 u3 Sx => S = Sx ∧ (iv 0 1 u2) ∧ (0 ≤ u3) ∧ (u3 ≤ 4) ∧ (u2 = 0 ∨ (0 ≤ u1 ∧ u1 < p10 u3)) ∧ (u2 = 0 ∨ (Sx.1 54 67) ≤ 4), fun u1 u2 u3 Sx => (5 - u3).toNat, ?_, fun v36_1 v36_2 v36_3 S36h hI => ?_⟩
        · exact ⟨rfl, by omega, by omega, by omega, by have := p10_0; omega, by omega⟩
        obtain ⟨rfl, i36_0, i36_1, i36_2, i36_3, i36_4⟩ := hI
        unfold wX11_withId_36'
        have h10 := p10_5 (n := v36_3) (by omega)
        have h101 := p10_1 (n := v36_3)
        intro q30
        refine ⟨by omega, ?_⟩
        refine ⟨fun h41 => ?_, fun h41 => ?_⟩
        · unfold wX11_withId_79
          unfold wX11_withId_85
          refine ⟨fun u1 u2 u3 u4 Sx => S = Sx ∧ v36_1 = u1 ∧ v36_2 = u2 ∧ (iv 0 1 u2) ∧ (iv 0 200 u4) ∧ (u3 = -2 ∨ (0 ≤ u3 ∧ u3 < u4)) ∧ (u4 = 0 ∨ u4 ≤ (Sx.1 54 43)) ∧ (u2 = 0 ∨ iv 0 100000 u1), fun u1 u2 u3 u4 Sx => (201 - u4).toNat, ?_, fun v85_1 v85_2 v85_3 v85_4 S85h hI => ?_⟩
          · exact ⟨rfl, rfl, rfl, by omega, by omega, by omega, by omega, by omega⟩
          obtain ⟨rfl, rfl, rfl, i85_0, i85_1, i85_2, i85_3, i85_4⟩ := hI
          unfold wX11_withId_85'
          intro q31
          refine ⟨by omega, ?_⟩
          refine ⟨fun h91 => ?_, fun h91 => ?_⟩
          · exact hK (v85_3) (by omega)
          · refine ⟨by omega, ?_⟩
            refine ⟨fun h95 => ?_, fun h95 => ?_⟩
            · exact hK (v85_3) (by omega)
            · refine ⟨by omega, by omega, ?_⟩
              intro q32
              refine ⟨fun h106 => ?_, fun h106 => ?_⟩
              · unfold wX11_withId_125
                unfold wX11_withId_126
                exact ⟨⟨rfl, rfl, rfl, by omega, by omega, by omega, by omega, by omega⟩, show (201 - ((v85_4 + 1))).toNat < (201 - v85_4).toNat by omega⟩
              · refine ⟨by omega, by omega, ?_⟩
                intro q33
                refine ⟨by omega, ?_⟩
                refine ⟨fun h117 => ?_, fun h117 => ?_⟩
                · unfold wX11_withId_125
                  unfold wX11_withId_126
                  exact ⟨⟨rfl, rfl, rfl, by omega, by omega, by omega, by omega, by omega⟩, show (201 - ((v85_4 + 1))).toNat < (201 - v85_4).toNat by omega⟩
                · unfold wX11_withId_126
                  exact ⟨⟨rfl, rfl, rfl, by omega, by omega, by omega, by omega, by omega⟩, show (201 - ((v85_4 + 1))).toNat < (201 - v85_4).toNat by omega⟩
        · refine ⟨by omega, ?_⟩
          refine ⟨fun h45 => ?_, fun h45 => ?_⟩
          · unfold wX11_withId_79
            unfold wX11_withId_85
            refine ⟨fun u1 u2 u3 u4 Sx => S = Sx ∧ v36_1 = u1 ∧ v36_2 = u2 ∧ (iv 0 1 u2) ∧ (iv 0 200 u4) ∧ (u3 = -2 ∨ (0 ≤ u3 ∧ u3 < u4)) ∧ (u4 = 0 ∨ u4 ≤ (Sx.1 54 43)) ∧ (u2 = 0 ∨ iv 0 100000 u1), fun u1 u2 u3 u4 Sx => (201 - u4).toNat, ?_, fun v85_1 v85_2 v85_3 v85_4 S85h hI => ?_⟩
            · exact ⟨rfl, rfl, rfl, by omega, by omega, by omega, by omega, by omega⟩
            obtain ⟨rfl, rfl, rfl, i85_0, i85_1, i85_2, i85_3, i85_4⟩ := hI
            unfold wX11_withId_85'
            intro q34
            refine ⟨by omega, ?_⟩
            refine ⟨fun h91 => ?_, fun h91 => ?_⟩
            · exact hK (v85_3) (by omega)
            · refine ⟨by omega, ?_⟩
              refine ⟨fun h95 => ?_, fun h95 => ?_⟩
              · exact hK (v85_3) (by omega)
              · refine ⟨by omega, by omega, ?_⟩
                intro q35
                refine ⟨fun h106 => ?_, fun h106 => ?_⟩
                · unfold wX11_withId_125
                  unfold wX11_withId_126
                  exact ⟨⟨rfl, rfl, rfl, by omega, by omega, by omega, by omega, by omega⟩, show (201 - ((v85_4 + 1))).toNat < (201 - v85_4).toNat by omega⟩
                · refine ⟨by omega, by omega, ?_⟩
                  intro q36
                  refine ⟨by omega, ?_⟩
                  refine ⟨fun h117 => ?_, fun h117 => ?_⟩
                  · unfold wX11_withId_125
                    unfold wX11_withId_126
                    exact ⟨⟨rfl, rfl, rfl, by omega, by omega, by omega, by omega, by omega⟩, show (201 - ((v85_4 + 1))).toNat < (201 - v85_4).toNat by omega⟩
                  · unfold wX11_withId_126
                    exact ⟨⟨rfl, rfl, rfl, by omega, by omega, by omega, by omega, by omega⟩, show (201 - ((v85_4 + 1))).toNat < (201 - v85_4).toNat by omega⟩
          · refine ⟨by omega, by omega, ?_⟩
            intro q37
            refine tX11_isDigit  (fun r54 n54_0 => ?_)
            refine ⟨by omega, by omega, ?_⟩
            intro q38
            intro x72 hx72
            subst hx72
            have h11 := p10_s (n := v36_3) (by omega)
            exact ⟨⟨rfl, by omega, by omega, by omega, by omega, by omega⟩, show (5 - ((v36_3 + 1))).toNat < (5 - v36_3).toNat by omega⟩

set_option maxRecDepth 100000 in
set_option maxHeartbeats 4000000 in
theorem tX11_target {a1 : Int} {S : St} {K : Int → St → Prop} (p1 : iv 0 199 a1) (p2 : a1 < (S.1 54 43)) (p3 : PR S) (p4 : PA S) (p5 : (S.2 91) a1 = 1) (p6 : (S.1 54 43) ≤ 200) (p7 : (S.1 54 51) ≤ 600) (p8 : (S.1 54 56) ≤ 3000) (hK : ∀ (r : Int) (S' : St), Ch [67] [104] S S' → (r = -2 ∨ (0 ≤ r ∧ r < a1 ∧ (S.2 98) r = 4)) → K r S') : wX11_target a1 S K := by
  unfold wX11_target
  intro g1
  have hpr := p3.at (x := a1) (by omega) (by omega)
  refine ⟨by omega, by omega, ?_⟩
  intro q1
  have hpa := p4.at (x := (S.2 90 (a1))) (by omega) (by omega)
  refine tX11_pieceOfValue (by omega) (by omega) (fun r7 S7 hS7 n7_0 => ?_)
  refine tX11_pieceAt (by omega) (fun r12 n12_0 n12_1 n12_2 => ?_)
  refine ⟨by omega, ?_⟩
  refine tX11_isDigit  (fun r17 n17_0 => ?_)
  refine ⟨by omega, ?_⟩
  refine ⟨fun h20 => ?_, fun h20 => ?_⟩
  · refine ⟨fun h33 => ?_, fun h33 => ?_⟩
    · have e2 : S7.1 54 43 = S.1 54 43 := hS7.1 43 (by decide)
      have e3 : S7.1 54 43 = S.1 54 43 := hS7.1 43 (by decide)
      have e4 : S7.1 54 43 = S.1 54 43 := hS7.1 43 (by decide)
      refine tX11_way (by omega) (by omega) (PR.mv p3 ((hS7).1 43 (by decide)) ((hS7).1 51 (by decide)) ((hS7).2 86 (by decide)) ((hS7).2 87 (by decide)) ((hS7).2 88 (by decide)) ((hS7).2 90 (by decide)) ((hS7).2 91 (by decide))) (by omega) (by omega) (fun r48 n48_0 => ?_)
      unfold wX11_target_51
      refine ⟨by omega, ?_⟩
      refine ⟨fun h55 => ?_, fun h55 => ?_⟩
      · exact hK ((-2)) S7 (Ch.wk hS7 (by decide) (by decide)) (by omega)
      · refine ⟨by omega, ?_⟩
        refine ⟨fun h60 => ?_, fun h60 => ?_⟩
        · exact hK ((-2)) S7 (Ch.wk hS7 (by decide) (by decide)) (by omega)
        · refine ⟨by omega, by omega, ?_⟩
          intro q5
          have e6 : S7.2 98 (r48) = S.2 98 (r48) := congrFun (hS7.2 98 (by decide)) _
          refine ⟨fun h70 => ?_, fun h70 => ?_⟩
          · exact hK ((-2)) S7 (Ch.wk hS7 (by decide) (by decide)) (by omega)
          · exact hK (r48) S7 (Ch.wk hS7 (by decide) (by decide)) (by omega)
    · have e7 : S7.1 54 43 = S.1 54 43 := hS7.1 43 (by decide)
      have e8 : S7.1 54 43 = S.1 54 43 := hS7.1 43 (by decide)
      have e9 : S7.1 54 43 = S.1 54 43 := hS7.1 43 (by decide)
      refine tX11_steps (by omega) (by omega) (PR.mv p3 ((hS7).1 43 (by decide)) ((hS7).1 51 (by decide)) ((hS7).2 86 (by decide)) ((hS7).2 87 (by decide)) ((hS7).2 88 (by decide)) ((hS7).2 90 (by decide)) ((hS7).2 91 (by decide))) (by omega) (by omega) (fun r40 n40_0 => ?_)
      unfold wX11_target_51
      refine ⟨by omega, ?_⟩
      refine ⟨fun h55 => ?_, fun h55 => ?_⟩
      · exact hK ((-2)) S7 (Ch.wk hS7 (by decide) (by decide)) (by omega)
      · refine ⟨by omega, ?_⟩
        refine ⟨fun h60 => ?_, fun h60 => ?_⟩
        · exact hK ((-2)) S7 (Ch.wk hS7 (by decide) (by decide)) (by omega)
        · refine ⟨by omega, by omega, ?_⟩
          intro q10
          have e11 : S7.2 98 (r40) = S.2 98 (r40) := congrFun (hS7.2 98 (by decide)) _
          refine ⟨fun h70 => ?_, fun h70 => ?_⟩
          · exact hK ((-2)) S7 (Ch.wk hS7 (by decide) (by decide)) (by omega)
          · exact hK (r40) S7 (Ch.wk hS7 (by decide) (by decide)) (by omega)
  · have e12 : S7.1 54 43 = S.1 54 43 := hS7.1 43 (by decide)
    refine tX11_withId  (fun r24 n24_0 => ?_)
    unfold wX11_target_51
    refine ⟨by omega, ?_⟩
    refine ⟨fun h55 => ?_, fun h55 => ?_⟩
    · exact hK ((-2)) S7 (Ch.wk hS7 (by decide) (by decide)) (by omega)
    · refine ⟨by omega, ?_⟩
      refine ⟨fun h60 => ?_, fun h60 => ?_⟩
      · exact hK ((-2)) S7 (Ch.wk hS7 (by decide) (by decide)) (by omega)
      · refine ⟨by omega, by omega, ?_⟩
        intro q13
        have e14 : S7.2 98 (r24) = S.2 98 (r24) := congrFun (hS7.2 98 (by decide)) _
        refine ⟨fun h70 => ?_, fun h70 => ?_⟩
        · exact hK ((-2)) S7 (Ch.wk hS7 (by decide) (by decide)) (by omega)
        · exact hK (r24) S7 (Ch.wk hS7 (by decide) (by decide)) (by omega)

