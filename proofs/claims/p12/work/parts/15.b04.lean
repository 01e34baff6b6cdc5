set_option maxRecDepth 100000 in
set_option maxHeartbeats 4000000 in
theorem tX11_steps {a1 a2 : Int} {S : St} {K : Int → St → Prop} (p1 : iv 0 3000 a1) (p2 : a2 = -2 ∨ (0 ≤ a2 ∧ a2 < (S.1 54 43))) (p3 : PR S) (p4 : iv 0 3000 ((S.1 54 67))) (p5 : (S.1 54 43) ≤ 200) (hK : ∀ (r : Int), (r = -2 ∨ (0 ≤ r ∧ r < (S.1 54 43))) → K r S) : wX11_steps a1 a2 S K := by
  unfold wX11_steps
  intro g1 g2
  unfold wX11_steps_8
  refine ⟨fun u3 u4 u5 Sx => S = Sx ∧ (iv 0 1 u5) ∧ (0 ≤ u4) ∧ (u5 = 0 ∨ u4 ≤ 3000) ∧ (u3 = -2 ∨ (0 ≤ u3 ∧ u3 < (Sx.1 54 43))), fun u3 u4 u5 Sx => (2 * (3001 - u4) + u5).toNat, ?_, fun v8_3 v8_4 v8_5 S8h hI => ?_⟩
  · exact ⟨rfl, by omega, by omega, by omega, by omega⟩
  obtain ⟨rfl, i8_0, i8_1, i8_2, i8_3⟩ := hI
  unfold wX11_steps_8'
  refine ⟨by omega, ?_⟩
  refine ⟨fun h10 => ?_, fun h10 => ?_⟩
  · exact hK (v8_3) (by omega)
  · refine ⟨by omega, ?_⟩
    refine tX11_pieceAt (by omega) (fun r16 n16_0 n16_1 n16_2 => ?_)
    refine ⟨by omega, ?_⟩
    refine tX11_beginsName  (fun r19 n19_0 => ?_)
    refine ⟨by omega, ?_⟩
    refine ⟨fun h22 => ?_, fun h22 => ?_⟩
    · unfold wX11_steps_32
      refine ⟨fun u3 u4 u6 Sx => S = Sx ∧ v8_3 = u3 ∧ v8_4 = u4 ∧ (0 ≤ u6) ∧ (u4 ≤ u6) ∧ (u6 = u4 ∨ u6 ≤ (Sx.1 54 67)), fun u3 u4 u6 Sx => (3001 - u6).toNat, ?_, fun v32_3 v32_4 v32_6 S32h hI => ?_⟩
      · exact ⟨rfl, rfl, rfl, by omega, by omega, by omega⟩
      obtain ⟨rfl, rfl, rfl, i32_0, i32_1, i32_2⟩ := hI
      unfold wX11_steps_32'
      refine ⟨by omega, ?_⟩
      refine tX11_pieceAt (by omega) (fun r35 n35_0 n35_1 n35_2 => ?_)
      refine ⟨by omega, ?_⟩
      refine tX11_inName  (fun r38 n38_0 => ?_)
      refine ⟨by omega, ?_⟩
      refine ⟨fun h41 => ?_, fun h41 => ?_⟩
      · intro x55 hx55
        subst hx55
        refine tX11_pieceAt (by omega) (fun r63 n63_0 n63_1 n63_2 => ?_)
        refine ⟨by omega, ?_⟩
        refine ⟨fun h68 => ?_, fun h68 => ?_⟩
        · unfold wX11_steps_180
          refine ⟨by omega, ?_⟩
          refine ⟨by omega, ?_⟩
          refine ⟨by omega, ?_⟩
          refine ⟨by omega, ?_⟩
          refine tX11_childAt (by omega) (by omega) (by omega) (by omega) (fun r188 n188_0 n188_1 => ?_)
          refine ⟨by omega, ?_⟩
          refine ⟨fun h195 => ?_, fun h195 => ?_⟩
          · refine ⟨by omega, ?_⟩
            refine tX11_pieceAt (by omega) (fun r204 n204_0 n204_1 n204_2 => ?_)
            refine ⟨by omega, ?_⟩
            refine ⟨fun h209 => ?_, fun h209 => ?_⟩
            · unfold wX11_steps_217
              intro x223 hx223
              subst hx223
              refine ⟨by omega, ?_⟩
              refine ⟨fun h227 => ?_, fun h227 => ?_⟩
              · unfold wX11_steps_242
                exact ⟨⟨rfl, by omega, by omega, by omega, by omega⟩, show (2 * (3001 - (((v32_6 + 1)))) + (((0)))).toNat < (2 * (3001 - v8_4) + v8_5).toNat by omega⟩
              · intro q1
                refine ⟨by omega, ?_⟩
                refine ⟨fun h236 => ?_, fun h236 => ?_⟩
                · unfold wX11_steps_242
                  exact ⟨⟨rfl, by omega, by omega, by omega, by omega⟩, show (2 * (3001 - (((v32_6 + 1)))) + (((0)))).toNat < (2 * (3001 - v8_4) + v8_5).toNat by omega⟩
                · exact hK ((-2)) (by omega)
            · unfold wX11_steps_217
              intro x223 hx223
              subst hx223
              refine ⟨by omega, ?_⟩
              refine ⟨fun h227 => ?_, fun h227 => ?_⟩
              · unfold wX11_steps_242
                exact ⟨⟨rfl, by omega, by omega, by omega, by omega⟩, show (2 * (3001 - (((v32_6 + 1)))) + ((((1))))).toNat < (2 * (3001 - v8_4) + v8_5).toNat by omega⟩
              · intro q2
                refine ⟨by omega, ?_⟩
                refine ⟨fun h236 => ?_, fun h236 => ?_⟩
                · unfold wX11_steps_242
                  exact ⟨⟨rfl, by omega, by omega, by omega, by omega⟩, show (2 * (3001 - (((v32_6 + 1)))) + ((((1))))).toNat < (2 * (3001 - v8_4) + v8_5).toNat by omega⟩
                · exact hK ((-2)) (by omega)
          · exact hK ((-2)) (by omega)
        · unfold wX11_steps_77
          refine ⟨fun u3 u4 u6 u7 u8 u9 Sx => S = Sx ∧ v8_3 = u3 ∧ v8_4 = u4 ∧ v32_6 = u6 ∧ ((v32_6 - v8_4)) = u7 ∧ (iv 0 5 u9) ∧ (0 ≤ u8) ∧ (u8 < p10 u9) ∧ (u9 = 0 ∨ u6 + u9 < (Sx.1 54 67)), fun u3 u4 u6 u7 u8 u9 Sx => (6 - u9).toNat, ?_, fun v77_3 v77_4 v77_6 v77_7 v77_8 v77_9 S77h hI => ?_⟩
          · exact ⟨rfl, rfl, rfl, rfl, rfl, by omega, by omega, by have := p10_0; omega, by omega⟩
          obtain ⟨rfl, rfl, rfl, rfl, rfl, i77_0, i77_1, i77_2, i77_3⟩ := hI
          unfold wX11_steps_77'
          have h10 := p10_5 (n := v77_9) (by omega)
          have h101 := p10_1 (n := v77_9)
          refine ⟨by omega, ?_⟩
          refine ⟨fun h80 => ?_, fun h80 => ?_⟩
          · unfold wX11_steps_128
            refine ⟨by omega, ?_⟩
            refine ⟨fun h130 => ?_, fun h130 => ?_⟩
            · exact hK ((-2)) (by omega)
            · refine ⟨by omega, ?_⟩
              refine tX11_pieceAt (by omega) (fun r138 n138_0 n138_1 n138_2 => ?_)
              refine ⟨by omega, ?_⟩
              refine ⟨fun h143 => ?_, fun h143 => ?_⟩
              · exact hK ((-2)) (by omega)
              · refine ⟨by omega, ?_⟩
                refine ⟨fun h149 => ?_, fun h149 => ?_⟩
                · exact hK ((-2)) (by omega)
                · refine ⟨by omega, ?_⟩
                  refine tX11_pieceAt (by omega) (fun r160 n160_0 n160_1 n160_2 => ?_)
                  refine ⟨by omega, ?_⟩
                  refine ⟨fun h165 => ?_, fun h165 => ?_⟩
                  · intro x178 hx178
                    subst hx178
                    unfold wX11_steps_180
                    refine ⟨by omega, ?_⟩
                    refine ⟨by omega, ?_⟩
                    refine ⟨by omega, ?_⟩
                    refine ⟨by omega, ?_⟩
                    refine tX11_childAt (by omega) (by omega) (by omega) (by omega) (fun r188 n188_0 n188_1 => ?_)
                    refine ⟨by omega, ?_⟩
                    refine ⟨fun h195 => ?_, fun h195 => ?_⟩
                    · refine ⟨by omega, ?_⟩
                      refine tX11_pieceAt (by omega) (fun r204 n204_0 n204_1 n204_2 => ?_)
                      refine ⟨by omega, ?_⟩
                      refine ⟨fun h209 => ?_, fun h209 => ?_⟩
                      · unfold wX11_steps_217
                        intro x223 hx223
                        subst hx223
                        refine ⟨by omega, ?_⟩
                        refine ⟨fun h227 => ?_, fun h227 => ?_⟩
                        · unfold wX11_steps_242
                          exact ⟨⟨rfl, by omega, by omega, by omega, by omega⟩, show (2 * (3001 - ((((((v32_6 + v77_9) + 2)) + 1)))) + (((0)))).toNat < (2 * (3001 - v8_4) + v8_5).toNat by omega⟩
                        · intro q3
                          refine ⟨by omega, ?_⟩
                          refine ⟨fun h236 => ?_, fun h236 => ?_⟩
                          · unfold wX11_steps_242
                            exact ⟨⟨rfl, by omega, by omega, by omega, by omega⟩, show (2 * (3001 - ((((((v32_6 + v77_9) + 2)) + 1)))) + (((0)))).toNat < (2 * (3001 - v8_4) + v8_5).toNat by omega⟩
                          · exact hK ((-2)) (by omega)
                      · unfold wX11_steps_217
                        intro x223 hx223
                        subst hx223
                        refine ⟨by omega, ?_⟩
                        refine ⟨fun h227 => ?_, fun h227 => ?_⟩
                        · unfold wX11_steps_242
                          exact ⟨⟨rfl, by omega, by omega, by omega, by omega⟩, show (2 * (3001 - ((((((v32_6 + v77_9) + 2)) + 1)))) + (((1)))).toNat < (2 * (3001 - v8_4) + v8_5).toNat by omega⟩
                        · intro q4
                          refine ⟨by omega, ?_⟩
                          refine ⟨fun h236 => ?_, fun h236 => ?_⟩
                          · unfold wX11_steps_242
                            exact ⟨⟨rfl, by omega, by omega, by omega, by omega⟩, show (2 * (3001 - ((((((v32_6 + v77_9) + 2)) + 1)))) + (((1)))).toNat < (2 * (3001 - v8_4) + v8_5).toNat by omega⟩
                          · exact hK ((-2)) (by omega)
                    · exact hK ((-2)) (by omega)
                  · exact hK ((-2)) (by omega)
          · refine ⟨by omega, ?_⟩
            refine tX11_pieceAt (by omega) (fun r91 n91_0 n91_1 n91_2 => ?_)
            refine ⟨by omega, ?_⟩
            refine tX11_isDigit  (fun r94 n94_0 => ?_)
            refine ⟨by omega, ?_⟩
            refine ⟨fun h97 => ?_, fun h97 => ?_⟩
            · unfold wX11_steps_128
              refine ⟨by omega, ?_⟩
              refine ⟨fun h130 => ?_, fun h130 => ?_⟩
              · exact hK ((-2)) (by omega)
              · refine ⟨by omega, ?_⟩
                refine tX11_pieceAt (by omega) (fun r138 n138_0 n138_1 n138_2 => ?_)
                refine ⟨by omega, ?_⟩
                refine ⟨fun h143 => ?_, fun h143 => ?_⟩
                · exact hK ((-2)) (by omega)
                · refine ⟨by omega, ?_⟩
                  refine ⟨fun h149 => ?_, fun h149 => ?_⟩
                  · exact hK ((-2)) (by omega)
                  · refine ⟨by omega, ?_⟩
                    refine tX11_pieceAt (by omega) (fun r160 n160_0 n160_1 n160_2 => ?_)
                    refine ⟨by omega, ?_⟩
                    refine ⟨fun h165 => ?_, fun h165 => ?_⟩
                    · intro x178 hx178
                      subst hx178
                      unfold wX11_steps_180
                      refine ⟨by omega, ?_⟩
                      refine ⟨by omega, ?_⟩
                      refine ⟨by omega, ?_⟩
                      refine ⟨by omega, ?_⟩
                      refine tX11_childAt (by omega) (by omega) (by omega) (by omega) (fun r188 n188_0 n188_1 => ?_)
                      refine ⟨by omega, ?_⟩
                      refine ⟨fun h195 => ?_, fun h195 => ?_⟩
                      · refine ⟨by omega, ?_⟩
                        refine tX11_pieceAt (by omega) (fun r204 n204_0 n204_1 n204_2 => ?_)
                        refine ⟨by omega, ?_⟩
                        refine ⟨fun h209 => ?_, fun h209 => ?_⟩
                        · unfold wX11_steps_217
                          intro x223 hx223
                          subst hx223
                          refine ⟨by omega, ?_⟩
                          refine ⟨fun h227 => ?_, fun h227 => ?_⟩
                          · unfold wX11_steps_242
                            exact ⟨⟨rfl, by omega, by omega, by omega, by omega⟩, show (2 * (3001 - ((((((v32_6 + v77_9) + 2)) + 1)))) + (((0)))).toNat < (2 * (3001 - v8_4) + v8_5).toNat by omega⟩
                          · intro q5
                            refine ⟨by omega, ?_⟩
                            refine ⟨fun h236 => ?_, fun h236 => ?_⟩
                            · unfold wX11_steps_242
                              exact ⟨⟨rfl, by omega, by omega, by omega, by omega⟩, show (2 * (3001 - ((((((v32_6 + v77_9) + 2)) + 1)))) + (((0)))).toNat < (2 * (3001 - v8_4) + v8_5).toNat by omega⟩
                            · exact hK ((-2)) (by omega)
                        · unfold wX11_steps_217
                          intro x223 hx223
                          subst hx223
                          refine ⟨by omega, ?_⟩
                          refine ⟨fun h227 => ?_, fun h227 => ?_⟩
                          · unfold wX11_steps_242
                            exact ⟨⟨rfl, by omega, by omega, by omega, by omega⟩, show (2 * (3001 - ((((((v32_6 + v77_9) + 2)) + 1)))) + (((1)))).toNat < (2 * (3001 - v8_4) + v8_5).toNat by omega⟩
                          · intro q6
                            refine ⟨by omega, ?_⟩
                            refine ⟨fun h236 => ?_, fun h236 => ?_⟩
                            · unfold wX11_steps_242
                              exact ⟨⟨rfl, by omega, by omega, by omega, by omega⟩, show (2 * (3001 - ((((((v32_6 + v77_9) + 2)) + 1)))) + (((1)))).toNat < (2 * (3001 - v8_4) + v8_5).toNat by omega⟩
                            · exact hK ((-2)) (by omega)
                      · exact hK ((-2)) (by omega)
                    · exact hK ((-2)) (by omega)
            · refine tX11_pieceAt (by omega) (fun r113 n113_0 n113_1 n113_2 => ?_)
              intro x120 hx120
              subst hx120
              have h11 := p10_s (n := v77_9) (by omega)
              exact ⟨⟨rfl, rfl, rfl, rfl, rfl, by omega, by omega, by omega, by omega⟩, show (6 - ((v77_9 + 1))).toNat < (6 - v77_9).toNat by omega⟩
      · exact ⟨⟨rfl, rfl, rfl, by omega, by omega, by omega⟩, show (3001 - ((v32_6 + 1))).toNat < (3001 - v32_6).toNat by omega⟩
    · exact hK ((-2)) (by omega)

set_option maxRecDepth 100000 in
set_option maxHeartbeats 4000000 in
theorem tX11_way {a1 : Int} {S : St} {K : Int → St → Prop} (p1 : iv 0 199 a1) (p2 : a1 < (S.1 54 43)) (p3 : PR S) (p4 : iv 0 3000 ((S.1 54 67))) (p5 : (S.1 54 43) ≤ 200) (hK : ∀ (r : Int), (r = -2 ∨ (0 ≤ r ∧ r < (S.1 54 43))) → K r S) : wX11_way a1 S K := by
  unfold wX11_way
  intro g1
  unfold wX11_way_7
  refine ⟨fun u2 u3 u4 Sx => S = Sx ∧ (iv 0 1 u4) ∧ (0 ≤ u3) ∧ (u3 ≤ 3000) ∧ (u2 = -2 ∨ (0 ≤ u2 ∧ u2 < (Sx.1 54 43))), fun u2 u3 u4 Sx => (3001 - u3).toNat, ?_, fun v7_2 v7_3 v7_4 S7h hI => ?_⟩
  · exact ⟨rfl, by omega, by omega, by omega, by omega⟩
  obtain ⟨rfl, i7_0, i7_1, i7_2, i7_3⟩ := hI
  unfold wX11_way_7'
  refine ⟨by omega, ?_⟩
  refine ⟨fun h9 => ?_, fun h9 => ?_⟩
  · unfold wX11_way_97
    refine ⟨by omega, ?_⟩
    refine ⟨fun h100 => ?_, fun h100 => ?_⟩
    · refine ⟨by omega, ?_⟩
      refine tX11_steps (by omega) (by omega) (by omega) (by omega) (by omega) (fun r111 n111_0 => ?_)
      exact hK (r111) (by omega)
    · exact hK ((-2)) (by omega)
  · refine ⟨by omega, ?_⟩
    refine tX11_pieceAt (by omega) (fun r14 n14_0 n14_1 n14_2 => ?_)
    refine ⟨by omega, ?_⟩
    refine ⟨fun h19 => ?_, fun h19 => ?_⟩
    · unfold wX11_way_97
      refine ⟨by omega, ?_⟩
      refine ⟨fun h100 => ?_, fun h100 => ?_⟩
      · refine ⟨by omega, ?_⟩
        refine tX11_steps (by omega) (by omega) (by omega) (by omega) (by omega) (fun r111 n111_0 => ?_)
        exact hK (r111) (by omega)
      · exact hK ((-2)) (by omega)
    · refine ⟨by omega, ?_⟩
      refine tX11_pieceAt (by omega) (fun r26 n26_0 n26_1 n26_2 => ?_)
      refine ⟨by omega, ?_⟩
      refine ⟨fun h31 => ?_, fun h31 => ?_⟩
      · unfold wX11_way_97
        refine ⟨by omega, ?_⟩
        refine ⟨fun h100 => ?_, fun h100 => ?_⟩
        · refine ⟨by omega, ?_⟩
          refine tX11_steps (by omega) (by omega) (by omega) (by omega) (by omega) (fun r111 n111_0 => ?_)
          exact hK (r111) (by omega)
        · exact hK ((-2)) (by omega)
      · refine ⟨by omega, ?_⟩
        refine ⟨fun h37 => ?_, fun h37 => ?_⟩
        · have hpr := p3.at (x := v7_2) (by omega) (by omega)
          refine ⟨by omega, by omega, ?_⟩
          intro q1
          intro x49 hx49
          subst hx49
          intro x53 hx53
          subst hx53
          refine ⟨by omega, ?_⟩
          refine tX11_pieceAt (by omega) (fun r56 n56_0 n56_1 n56_2 => ?_)
          refine ⟨by omega, ?_⟩
          refine ⟨fun h61 => ?_, fun h61 => ?_⟩
          · unfold wX11_way_69
            refine ⟨by omega, ?_⟩
            refine ⟨fun h73 => ?_, fun h73 => ?_⟩
            · exact ⟨⟨rfl, by omega, by omega, by omega, by omega⟩, show (3001 - ((((v7_3 + 2)) + 1))).toNat < (3001 - v7_3).toNat by omega⟩
            · intro q2
              refine ⟨by omega, ?_⟩
              refine ⟨fun h81 => ?_, fun h81 => ?_⟩
              · exact hK ((-2)) (by omega)
              · exact hK ((S.2 88 (v7_2))) (by omega)
          · unfold wX11_way_69
            refine ⟨by omega, ?_⟩
            refine ⟨fun h73 => ?_, fun h73 => ?_⟩
            · exact ⟨⟨rfl, by omega, by omega, by omega, by omega⟩, show (3001 - ((((v7_3 + 2)) + 1))).toNat < (3001 - v7_3).toNat by omega⟩
            · intro q3
              refine ⟨by omega, ?_⟩
              refine ⟨fun h81 => ?_, fun h81 => ?_⟩
              · exact hK ((-2)) (by omega)
              · exact hK ((S.2 88 (v7_2))) (by omega)
        · exact hK ((-2)) (by omega)

