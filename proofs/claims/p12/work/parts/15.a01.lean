set_option maxRecDepth 100000 in
set_option maxHeartbeats 4000000 in
theorem tX11_areSame {a1 a2 : Int} {S : St} {K : Int → St → Prop} (p1 : 0 ≤ a1 ∧ a1 < (S.2 67) 0) (p2 : 0 ≤ a2 ∧ a2 < (S.2 67) 1) (p3 : HV S) (p4 : PI0 S) (p5 : PD0 S) (p6 : (S.1 54 71) ≤ 30) (p7 : (S.2 67) 0 ≤ 30) (p8 : (S.2 67) 1 ≤ 30) (hK : ∀ (r : Int) (S' : St), Ch [71] [105, 106] S S' → (iv 0 1 r) → (PI0 S') → (PD0 S') → ((S.1 54 71) ≤ (S'.1 54 71)) → ((S'.1 54 71) ≤ 30) → K r S') : wX11_areSame a1 a2 S K := by
  unfold wX11_areSame
  intro g1 g2
  refine ⟨by omega, by omega, ?_⟩
  intro q1
  intro x6 hx6
  subst hx6
  refine ⟨by omega, by omega, ?_⟩
  intro q2
  refine ⟨fun h17 => ?_, fun h17 => ?_⟩
  · unfold wX11_areSame_28
    refine ⟨fun u1 u2 u3 u4 u5 Sx => Ch [71] [105, 106] S Sx ∧ a1 = u1 ∧ a2 = u2 ∧ (S.2 68 (a1)) = u3 ∧ (iv 0 4 u5) ∧ (iv 0 1 u4) ∧ (PI0 Sx) ∧ (PD0 Sx) ∧ ((Sx.1 54 71) ≤ 30) ∧ ((S.1 54 71) ≤ (Sx.1 54 71)), fun u1 u2 u3 u4 u5 Sx => (5 - u5).toNat, ?_, fun v28_1 v28_2 v28_3 v28_4 v28_5 S28h hI => ?_⟩
    · exact ⟨Ch.re, rfl, rfl, rfl, by omega, by omega, p4, p5, by omega, by omega⟩
    obtain ⟨hS28h, rfl, rfl, rfl, i28_0, i28_1, i28_2, i28_3, i28_4, i28_5⟩ := hI
    unfold wX11_areSame_28'
    refine ⟨by omega, by omega, ?_⟩
    intro q3
    have e4 : S28h.2 56 ((S.2 68 (a1))) = S.2 56 ((S.2 68 (a1))) := congrFun (hS28h.2 56 (by decide)) _
    refine ⟨by omega, ?_⟩
    refine ⟨fun h36 => ?_, fun h36 => ?_⟩
    · refine ⟨by omega, ?_⟩
      exact hK (v28_4) S28h (Ch.wk hS28h (by decide) (by decide)) (by omega) (i28_2) (i28_3) (by omega) (by omega)
    · refine ⟨by omega, ?_⟩
      refine ⟨fun h41 => ?_, fun h41 => ?_⟩
      · refine ⟨by omega, ?_⟩
        exact hK (v28_4) S28h (Ch.wk hS28h (by decide) (by decide)) (by omega) (i28_2) (i28_3) (by omega) (by omega)
      · intro x50 hx50
        subst hx50
        intro x61 hx61
        subst hx61
        refine ⟨by omega, by omega, ?_⟩
        intro q5
        have e6 : S28h.2 59 (((4 * (S.2 68 (a1))) + v28_5)) = S.2 59 (((4 * (S.2 68 (a1))) + v28_5)) := congrFun (hS28h.2 59 (by decide)) _
        intro x74 hx74
        subst hx74
        have hk0 := p3.k0 (x := a1) (y := v28_5) (by omega) (by omega) (by omega) (by omega)
        have hk1 := p3.k1 (x := a2) (y := v28_5) (by omega) (by omega) (by omega) (by omega)
        rw [show S.2 68 (30 + a2) = S.2 68 a1 by omega] at hk1
        unfold tyV at hk0 hk1
        refine ⟨fun h79 => ?_, fun h79 => ?_⟩
        · refine ⟨by omega, by omega, ?_⟩
          intro q7
          have e8 : S28h.2 69 ((((4 * a1) + v28_5))) = S.2 69 ((((4 * a1) + v28_5))) := congrFun (hS28h.2 69 (by decide)) _
          refine ⟨by omega, by omega, ?_⟩
          intro q9
          have e10 : S28h.2 69 ((((4 * (30 + a2)) + v28_5))) = S.2 69 ((((4 * (30 + a2)) + v28_5))) := congrFun (hS28h.2 69 (by decide)) _
          refine ⟨fun h117 => ?_, fun h117 => ?_⟩
          · unfold wX11_areSame_125
            unfold wX11_areSame_130
            refine ⟨fun u1 u2 u3 u4 u5 u6 u7 u8 u9 Sx => Ch [71] [105, 106] S28h Sx ∧ a1 = u1 ∧ a2 = u2 ∧ (S.2 68 (a1)) = u3 ∧ v28_5 = u5 ∧ (((4 * a1) + v28_5)) = u6 ∧ (((4 * (30 + a2)) + v28_5)) = u7 ∧ (S28h.2 59 (((4 * (S.2 68 (a1))) + v28_5))) = u8 ∧ (0 ≤ u9) ∧ (iv 0 1 u4) ∧ (PI0 Sx) ∧ (PD0 Sx) ∧ ((Sx.1 54 71) ≤ 30) ∧ ((S28h.1 54 71) ≤ (Sx.1 54 71)) ∧ (u8 = 2 ∨ u4 = 0 ∨ (S.2 69) u6 = (S.2 69) u7) ∧ (u9 ≤ 20), fun u1 u2 u3 u4 u5 u6 u7 u8 u9 Sx => (21 - u9).toNat, ?_, fun v130_1 v130_2 v130_3 v130_4 v130_5 v130_6 v130_7 v130_8 v130_9 S130h hI => ?_⟩
            · exact ⟨Ch.re, rfl, rfl, rfl, rfl, rfl, rfl, rfl, by omega, by omega, i28_2, i28_3, by omega, by omega, by omega, by omega⟩
            obtain ⟨hS130h, rfl, rfl, rfl, rfl, rfl, rfl, rfl, i130_0, i130_1, i130_2, i130_3, i130_4, i130_5, i130_6, i130_7⟩ := hI
            unfold wX11_areSame_130'
            refine ⟨by omega, ?_⟩
            refine ⟨fun h132 => ?_, fun h132 => ?_⟩
            · unfold wX11_areSame_225
              exact ⟨⟨(Ch.wk (Ch.tr hS28h hS130h) (by decide) (by decide)), rfl, rfl, rfl, by omega, by omega, i130_2, i130_3, by omega, by omega⟩, show (5 - ((v28_5 + 1))).toNat < (5 - v28_5).toNat by omega⟩
            · refine ⟨fun h138 => ?_, fun h138 => ?_⟩
              · unfold wX11_areSame_225
                exact ⟨⟨(Ch.wk (Ch.tr hS28h hS130h) (by decide) (by decide)), rfl, rfl, rfl, by omega, by omega, i130_2, i130_3, by omega, by omega⟩, show (5 - ((v28_5 + 1))).toNat < (5 - v28_5).toNat by omega⟩
              · refine ⟨by omega, by omega, ?_⟩
                intro q11
                have e12 : S130h.2 69 ((((4 * a1) + v28_5))) = S28h.2 69 ((((4 * a1) + v28_5))) := congrFun (hS130h.2 69 (by decide)) _
                have e13 : S28h.2 69 ((((4 * a1) + v28_5))) = S.2 69 ((((4 * a1) + v28_5))) := congrFun (hS28h.2 69 (by decide)) _
                refine ⟨by omega, ?_⟩
                refine ⟨fun h150 => ?_, fun h150 => ?_⟩
                · unfold wX11_areSame_225
                  exact ⟨⟨(Ch.wk (Ch.tr hS28h hS130h) (by decide) (by decide)), rfl, rfl, rfl, by omega, by omega, i130_2, i130_3, by omega, by omega⟩, show (5 - ((v28_5 + 1))).toNat < (5 - v28_5).toNat by omega⟩
                · refine ⟨by omega, ?_⟩
                  refine ⟨fun h155 => ?_, fun h155 => ?_⟩
                  · unfold wX11_areSame_225
                    exact ⟨⟨(Ch.wk (Ch.tr hS28h hS130h) (by decide) (by decide)), rfl, rfl, rfl, by omega, by omega, i130_2, i130_3, by omega, by omega⟩, show (5 - ((v28_5 + 1))).toNat < (5 - v28_5).toNat by omega⟩
                  · refine ⟨by omega, by omega, ?_⟩
                    intro q14
                    have e15 : S130h.2 70 (((20 * (((4 * a1) + v28_5))) + v130_9)) = S28h.2 70 (((20 * (((4 * a1) + v28_5))) + v130_9)) := congrFun (hS130h.2 70 (by decide)) _
                    have e16 : S28h.2 70 (((20 * (((4 * a1) + v28_5))) + v130_9)) = S.2 70 (((20 * (((4 * a1) + v28_5))) + v130_9)) := congrFun (hS28h.2 70 (by decide)) _
                    intro x171 hx171
                    subst hx171
                    refine ⟨by omega, by omega, ?_⟩
                    intro q17
                    have e18 : S130h.2 70 (((20 * (((4 * (30 + a2)) + v28_5))) + v130_9)) = S28h.2 70 (((20 * (((4 * (30 + a2)) + v28_5))) + v130_9)) := congrFun (hS130h.2 70 (by decide)) _
                    have e19 : S28h.2 70 (((20 * (((4 * (30 + a2)) + v28_5))) + v130_9)) = S.2 70 (((20 * (((4 * (30 + a2)) + v28_5))) + v130_9)) := congrFun (hS28h.2 70 (by decide)) _
                    intro x186 hx186
                    subst hx186
                    refine ⟨fun h191 => ?_, fun h191 => ?_⟩
                    · have hl0 := p3.l0 (x := a1) (y := v28_5) (z := v130_9) (by omega) (by omega) (by omega) (by omega) (by omega) (by omega) (by omega)
                      have hl1 := p3.l1 (x := a2) (y := v28_5) (z := v130_9) (by omega) (by omega) (by omega) (by omega) (by rw [show S.2 68 (30 + a2) = S.2 68 a1 by omega]; omega) (by omega) (by omega)
                      have e20 : S130h.2 67 0 = S28h.2 67 0 := congrFun (hS130h.2 67 (by decide)) _
                      have e21 : S28h.2 67 0 = S.2 67 0 := congrFun (hS28h.2 67 (by decide)) _
                      have e22 : S130h.2 67 1 = S28h.2 67 1 := congrFun (hS130h.2 67 (by decide)) _
                      have e23 : S28h.2 67 1 = S.2 67 1 := congrFun (hS28h.2 67 (by decide)) _
                      have e24 : S130h.2 67 0 = S28h.2 67 0 := congrFun (hS130h.2 67 (by decide)) _
                      have e25 : S28h.2 67 0 = S.2 67 0 := congrFun (hS28h.2 67 (by decide)) _
                      have e26 : S130h.2 67 1 = S28h.2 67 1 := congrFun (hS130h.2 67 (by decide)) _
                      have e27 : S28h.2 67 1 = S.2 67 1 := congrFun (hS28h.2 67 (by decide)) _
                      refine tX11_pair (by omega) (by omega) (by omega) (by omega) (i130_2) (i130_3) (by omega) (fun r214 S214 hS214 n214_0 n214_1 n214_2 n214_3 n214_4 => ?_)
                      unfold wX11_areSame_217
                      exact ⟨⟨(Ch.wk (Ch.tr hS130h hS214) (by decide) (by decide)), rfl, rfl, rfl, rfl, rfl, rfl, rfl, by omega, by omega, n214_1, n214_2, by omega, by omega, by omega, by omega⟩, show (21 - ((v130_9 + 1))).toNat < (21 - v130_9).toNat by omega⟩
                    · refine ⟨fun h198 => ?_, fun h198 => ?_⟩
                      · unfold wX11_areSame_217
                        exact ⟨⟨(Ch.wk hS130h (by decide) (by decide)), rfl, rfl, rfl, rfl, rfl, rfl, rfl, by omega, by omega, i130_2, i130_3, by omega, by omega, by omega, by omega⟩, show (21 - ((v130_9 + 1))).toNat < (21 - v130_9).toNat by omega⟩
                      · unfold wX11_areSame_217
                        exact ⟨⟨(Ch.wk hS130h (by decide) (by decide)), rfl, rfl, rfl, rfl, rfl, rfl, rfl, by omega, by omega, i130_2, i130_3, by omega, by omega, by omega, by omega⟩, show (21 - ((v130_9 + 1))).toNat < (21 - v130_9).toNat by omega⟩
          · unfold wX11_areSame_125
            unfold wX11_areSame_130
            refine ⟨fun u1 u2 u3 u4 u5 u6 u7 u8 u9 Sx => Ch [71] [105, 106] S28h Sx ∧ a1 = u1 ∧ a2 = u2 ∧ (S.2 68 (a1)) = u3 ∧ v28_5 = u5 ∧ (((4 * a1) + v28_5)) = u6 ∧ (((4 * (30 + a2)) + v28_5)) = u7 ∧ (S28h.2 59 (((4 * (S.2 68 (a1))) + v28_5))) = u8 ∧ (0 ≤ u9) ∧ (iv 0 1 u4) ∧ (PI0 Sx) ∧ (PD0 Sx) ∧ ((Sx.1 54 71) ≤ 30) ∧ ((S28h.1 54 71) ≤ (Sx.1 54 71)) ∧ (u8 = 2 ∨ u4 = 0 ∨ (S.2 69) u6 = (S.2 69) u7) ∧ (u9 ≤ 20), fun u1 u2 u3 u4 u5 u6 u7 u8 u9 Sx => (21 - u9).toNat, ?_, fun v130_1 v130_2 v130_3 v130_4 v130_5 v130_6 v130_7 v130_8 v130_9 S130h hI => ?_⟩
            · exact ⟨Ch.re, rfl, rfl, rfl, rfl, rfl, rfl, rfl, by omega, by omega, i28_2, i28_3, by omega, by omega, by omega, by omega⟩
            obtain ⟨hS130h, rfl, rfl, rfl, rfl, rfl, rfl, rfl, i130_0, i130_1, i130_2, i130_3, i130_4, i130_5, i130_6, i130_7⟩ := hI
            unfold wX11_areSame_130'
            refine ⟨by omega, ?_⟩
            refine ⟨fun h132 => ?_, fun h132 => ?_⟩
            · unfold wX11_areSame_225
              exact ⟨⟨(Ch.wk (Ch.tr hS28h hS130h) (by decide) (by decide)), rfl, rfl, rfl, by omega, by omega, i130_2, i130_3, by omega, by omega⟩, show (5 - ((v28_5 + 1))).toNat < (5 - v28_5).toNat by omega⟩
            · refine ⟨fun h138 => ?_, fun h138 => ?_⟩
              · unfold wX11_areSame_225
                exact ⟨⟨(Ch.wk (Ch.tr hS28h hS130h) (by decide) (by decide)), rfl, rfl, rfl, by omega, by omega, i130_2, i130_3, by omega, by omega⟩, show (5 - ((v28_5 + 1))).toNat < (5 - v28_5).toNat by omega⟩
              · refine ⟨by omega, by omega, ?_⟩
                intro q28
                have e29 : S130h.2 69 ((((4 * a1) + v28_5))) = S28h.2 69 ((((4 * a1) + v28_5))) := congrFun (hS130h.2 69 (by decide)) _
                have e30 : S28h.2 69 ((((4 * a1) + v28_5))) = S.2 69 ((((4 * a1) + v28_5))) := congrFun (hS28h.2 69 (by decide)) _
                refine ⟨by omega, ?_⟩
                refine ⟨fun h150 => ?_, fun h150 => ?_⟩
                · unfold wX11_areSame_225
                  exact ⟨⟨(Ch.wk (Ch.tr hS28h hS130h) (by decide) (by decide)), rfl, rfl, rfl, by omega, by omega, i130_2, i130_3, by omega, by omega⟩, show (5 - ((v28_5 + 1))).toNat < (5 - v28_5).toNat by omega⟩
                · refine ⟨by omega, ?_⟩
                  refine ⟨fun h155 => ?_, fun h155 => ?_⟩
                  · unfold wX11_areSame_225
                    exact ⟨⟨(Ch.wk (Ch.tr hS28h hS130h) (by decide) (by decide)), rfl, rfl, rfl, by omega, by omega, i130_2, i130_3, by omega, by omega⟩, show (5 - ((v28_5 + 1))).toNat < (5 - v28_5).toNat by omega⟩
                  · refine ⟨by omega, by omega, ?_⟩
                    intro q31
                    have e32 : S130h.2 70 (((20 * (((4 * a1) + v28_5))) + v130_9)) = S28h.2 70 (((20 * (((4 * a1) + v28_5))) + v130_9)) := congrFun (hS130h.2 70 (by decide)) _
                    have e33 : S28h.2 70 (((20 * (((4 * a1) + v28_5))) + v130_9)) = S.2 70 (((20 * (((4 * a1) + v28_5))) + v130_9)) := congrFun (hS28h.2 70 (by decide)) _
                    intro x171 hx171
                    subst hx171
                    refine ⟨by omega, by omega, ?_⟩
                    intro q34
                    have e35 : S130h.2 70 (((20 * (((4 * (30 + a2)) + v28_5))) + v130_9)) = S28h.2 70 (((20 * (((4 * (30 + a2)) + v28_5))) + v130_9)) := congrFun (hS130h.2 70 (by decide)) _
                    have e36 : S28h.2 70 (((20 * (((4 * (30 + a2)) + v28_5))) + v130_9)) = S.2 70 (((20 * (((4 * (30 + a2)) + v28_5))) + v130_9)) := congrFun (hS28h.2 70 (by decide)) _
                    intro x186 hx186
                    subst hx186
                    refine ⟨fun h191 => ?_, fun h191 => ?_⟩
                    · have hl0 := p3.l0 (x := a1) (y := v28_5) (z := v130_9) (by omega) (by omega) (by omega) (by omega) (by omega) (by omega) (by omega)
                      have hl1 := p3.l1 (x := a2) (y := v28_5) (z := v130_9) (by omega) (by omega) (by omega) (by omega) (by rw [show S.2 68 (30 + a2) = S.2 68 a1 by omega]; omega) (by omega) (by omega)
                      have e37 : S130h.2 67 0 = S28h.2 67 0 := congrFun (hS130h.2 67 (by decide)) _
                      have e38 : S28h.2 67 0 = S.2 67 0 := congrFun (hS28h.2 67 (by decide)) _
                      have e39 : S130h.2 67 1 = S28h.2 67 1 := congrFun (hS130h.2 67 (by decide)) _
                      have e40 : S28h.2 67 1 = S.2 67 1 := congrFun (hS28h.2 67 (by decide)) _
                      have e41 : S130h.2 67 0 = S28h.2 67 0 := congrFun (hS130h.2 67 (by decide)) _
                      have e42 : S28h.2 67 0 = S.2 67 0 := congrFun (hS28h.2 67 (by decide)) _
                      have e43 : S130h.2 67 1 = S28h.2 67 1 := congrFun (hS130h.2 67 (by decide)) _
                      have e44 : S28h.2 67 1 = S.2 67 1 := congrFun (hS28h.2 67 (by decide)) _
                      refine tX11_pair (by omega) (by omega) (by omega) (by omega) (i130_2) (i130_3) (by omega) (fun r214 S214 hS214 n214_0 n214_1 n214_2 n214_3 n214_4 => ?_)
                      unfold wX11_areSame_217
                      exact ⟨⟨(Ch.wk (Ch.tr hS130h hS214) (by decide) (by decide)), rfl, rfl, rfl, rfl, rfl, rfl, rfl, by omega, by omega, n214_1, n214_2, by omega, by omega, by omega, by omega⟩, show (21 - ((v130_9 + 1))).toNat < (21 - v130_9).toNat by omega⟩
                    · refine ⟨fun h198 => ?_, fun h198 => ?_⟩
                      · unfold wX11_areSame_217
                        exact ⟨⟨(Ch.wk hS130h (by decide) (by decide)), rfl, rfl, rfl, rfl, rfl, rfl, rfl, by omega, by omega, i130_2, i130_3, by omega, by omega, by omega, by omega⟩, show (21 - ((v130_9 + 1))).toNat < (21 - v130_9).toNat by omega⟩
                      · unfold wX11_areSame_217
                        exact ⟨⟨(Ch.wk hS130h (by decide) (by decide)), rfl, rfl, rfl, rfl, rfl, rfl, rfl, by omega, by omega, i130_2, i130_3, by omega, by omega, by omega, by omega⟩, show (21 - ((v130_9 + 1))).toNat < (21 - v130_9).toNat by omega⟩
        · refine ⟨by omega, by omega, ?_⟩
          intro q45
          have e46 : S28h.2 69 ((((4 * a1) + v28_5))) = S.2 69 ((((4 * a1) + v28_5))) := congrFun (hS28h.2 69 (by decide)) _
          refine ⟨by omega, by omega, ?_⟩
          intro q47
          have e48 : S28h.2 69 ((((4 * (30 + a2)) + v28_5))) = S.2 69 ((((4 * (30 + a2)) + v28_5))) := congrFun (hS28h.2 69 (by decide)) _
          have e49 : S28h.2 67 0 = S.2 67 0 := congrFun (hS28h.2 67 (by decide)) _
          have e50 : S28h.2 67 1 = S.2 67 1 := congrFun (hS28h.2 67 (by decide)) _
          have e51 : S28h.2 67 0 = S.2 67 0 := congrFun (hS28h.2 67 (by decide)) _
          have e52 : S28h.2 67 1 = S.2 67 1 := congrFun (hS28h.2 67 (by decide)) _
          refine tX11_pair (by omega) (by omega) (by omega) (by omega) (i28_2) (i28_3) (by omega) (fun r97 S97 hS97 n97_0 n97_1 n97_2 n97_3 n97_4 => ?_)
          unfold wX11_areSame_125
          unfold wX11_areSame_130
          refine ⟨fun u1 u2 u3 u4 u5 u6 u7 u8 u9 Sx => Ch [71] [105, 106] S97 Sx ∧ a1 = u1 ∧ a2 = u2 ∧ (S.2 68 (a1)) = u3 ∧ v28_5 = u5 ∧ (((4 * a1) + v28_5)) = u6 ∧ (((4 * (30 + a2)) + v28_5)) = u7 ∧ (S28h.2 59 (((4 * (S.2 68 (a1))) + v28_5))) = u8 ∧ (0 ≤ u9) ∧ (iv 0 1 u4) ∧ (PI0 Sx) ∧ (PD0 Sx) ∧ ((Sx.1 54 71) ≤ 30) ∧ ((S97.1 54 71) ≤ (Sx.1 54 71)) ∧ (u8 = 2 ∨ u4 = 0 ∨ (S.2 69) u6 = (S.2 69) u7) ∧ (u9 ≤ 20), fun u1 u2 u3 u4 u5 u6 u7 u8 u9 Sx => (21 - u9).toNat, ?_, fun v130_1 v130_2 v130_3 v130_4 v130_5 v130_6 v130_7 v130_8 v130_9 S130h hI => ?_⟩
          · exact ⟨Ch.re, rfl, rfl, rfl, rfl, rfl, rfl, rfl, by omega, by omega, n97_1, n97_2, by omega, by omega, by omega, by omega⟩
          obtain ⟨hS130h, rfl, rfl, rfl, rfl, rfl, rfl, rfl, i130_0, i130_1, i130_2, i130_3, i130_4, i130_5, i130_6, i130_7⟩ := hI
          unfold wX11_areSame_130'
          refine ⟨by omega, ?_⟩
          refine ⟨fun h132 => ?_, fun h132 => ?_⟩
          · unfold wX11_areSame_225
            exact ⟨⟨(Ch.wk (Ch.tr (Ch.tr hS28h hS97) hS130h) (by decide) (by decide)), rfl, rfl, rfl, by omega, by omega, i130_2, i130_3, by omega, by omega⟩, show (5 - ((v28_5 + 1))).toNat < (5 - v28_5).toNat by omega⟩
          · refine ⟨fun h138 => ?_, fun h138 => ?_⟩
            · unfold wX11_areSame_225
              exact ⟨⟨(Ch.wk (Ch.tr (Ch.tr hS28h hS97) hS130h) (by decide) (by decide)), rfl, rfl, rfl, by omega, by omega, i130_2, i130_3, by omega, by omega⟩, show (5 - ((v28_5 + 1))).toNat < (5 - v28_5).toNat by omega⟩
            · refine ⟨by omega, by omega, ?_⟩
              intro q53
              have e54 : S130h.2 69 ((((4 * a1) + v28_5))) = S97.2 69 ((((4 * a1) + v28_5))) := congrFun (hS130h.2 69 (by decide)) _
              have e55 : S97.2 69 ((((4 * a1) + v28_5))) = S28h.2 69 ((((4 * a1) + v28_5))) := congrFun (hS97.2 69 (by decide)) _
              have e56 : S28h.2 69 ((((4 * a1) + v28_5))) = S.2 69 ((((4 * a1) + v28_5))) := congrFun (hS28h.2 69 (by decide)) _
              refine ⟨by omega, ?_⟩
              refine ⟨fun h150 => ?_, fun h150 => ?_⟩
              · unfold wX11_areSame_225
                exact ⟨⟨(Ch.wk (Ch.tr (Ch.tr hS28h hS97) hS130h) (by decide) (by decide)), rfl, rfl, rfl, by omega, by omega, i130_2, i130_3, by omega, by omega⟩, show (5 - ((v28_5 + 1))).toNat < (5 - v28_5).toNat by omega⟩
              · refine ⟨by omega, ?_⟩
                refine ⟨fun h155 => ?_, fun h155 => ?_⟩
                · unfold wX11_areSame_225
                  exact ⟨⟨(Ch.wk (Ch.tr (Ch.tr hS28h hS97) hS130h) (by decide) (by decide)), rfl, rfl, rfl, by omega, by omega, i130_2, i130_3, by omega, by omega⟩, show (5 - ((v28_5 + 1))).toNat < (5 - v28_5).toNat by omega⟩
                · refine ⟨by omega, by omega, ?_⟩
                  intro q57
                  have e58 : S130h.2 70 (((20 * (((4 * a1) + v28_5))) + v130_9)) = S97.2 70 (((20 * (((4 * a1) + v28_5))) + v130_9)) := congrFun (hS130h.2 70 (by decide)) _
                  have e59 : S97.2 70 (((20 * (((4 * a1) + v28_5))) + v130_9)) = S28h.2 70 (((20 * (((4 * a1) + v28_5))) + v130_9)) := congrFun (hS97.2 70 (by decide)) _
                  have e60 : S28h.2 70 (((20 * (((4 * a1) + v28_5))) + v130_9)) = S.2 70 (((20 * (((4 * a1) + v28_5))) + v130_9)) := congrFun (hS28h.2 70 (by decide)) _
                  intro x171 hx171
                  subst hx171
                  refine ⟨by omega, by omega, ?_⟩
                  intro q61
                  have e62 : S130h.2 70 (((20 * (((4 * (30 + a2)) + v28_5))) + v130_9)) = S97.2 70 (((20 * (((4 * (30 + a2)) + v28_5))) + v130_9)) := congrFun (hS130h.2 70 (by decide)) _
                  have e63 : S97.2 70 (((20 * (((4 * (30 + a2)) + v28_5))) + v130_9)) = S28h.2 70 (((20 * (((4 * (30 + a2)) + v28_5))) + v130_9)) := congrFun (hS97.2 70 (by decide)) _
                  have e64 : S28h.2 70 (((20 * (((4 * (30 + a2)) + v28_5))) + v130_9)) = S.2 70 (((20 * (((4 * (30 + a2)) + v28_5))) + v130_9)) := congrFun (hS28h.2 70 (by decide)) _
                  intro x186 hx186
                  subst hx186
                  refine ⟨fun h191 => ?_, fun h191 => ?_⟩
                  · have hl0 := p3.l0 (x := a1) (y := v28_5) (z := v130_9) (by omega) (by omega) (by omega) (by omega) (by omega) (by omega) (by omega)
                    have hl1 := p3.l1 (x := a2) (y := v28_5) (z := v130_9) (by omega) (by omega) (by omega) (by omega) (by rw [show S.2 68 (30 + a2) = S.2 68 a1 by omega]; omega) (by omega) (by omega)
                    have e65 : S130h.2 67 0 = S97.2 67 0 := congrFun (hS130h.2 67 (by decide)) _
                    have e66 : S97.2 67 0 = S28h.2 67 0 := congrFun (hS97.2 67 (by decide)) _
                    have e67 : S28h.2 67 0 = S.2 67 0 := congrFun (hS28h.2 67 (by decide)) _
                    have e68 : S130h.2 67 1 = S97.2 67 1 := congrFun (hS130h.2 67 (by decide)) _
                    have e69 : S97.2 67 1 = S28h.2 67 1 := congrFun (hS97.2 67 (by decide)) _
                    have e70 : S28h.2 67 1 = S.2 67 1 := congrFun (hS28h.2 67 (by decide)) _
                    have e71 : S130h.2 67 0 = S97.2 67 0 := congrFun (hS130h.2 67 (by decide)) _
                    have e72 : S97.2 67 0 = S28h.2 67 0 := congrFun (hS97.2 67 (by decide)) _
                    have e73 : S28h.2 67 0 = S.2 67 0 := congrFun (hS28h.2 67 (by decide)) _
                    have e74 : S130h.2 67 1 = S97.2 67 1 := congrFun (hS130h.2 67 (by decide)) _
                    have e75 : S97.2 67 1 = S28h.2 67 1 := congrFun (hS97.2 67 (by decide)) _
                    have e76 : S28h.2 67 1 = S.2 67 1 := congrFun (hS28h.2 67 (by decide)) _
                    refine tX11_pair (by omega) (by omega) (by omega) (by omega) (i130_2) (i130_3) (by omega) (fun r214 S214 hS214 n214_0 n214_1 n214_2 n214_3 n214_4 => ?_)
                    unfold wX11_areSame_217
                    exact ⟨⟨(Ch.wk (Ch.tr hS130h hS214) (by decide) (by decide)), rfl, rfl, rfl, rfl, rfl, rfl, rfl, by omega, by omega, n214_1, n214_2, by omega, by omega, by omega, by omega⟩, show (21 - ((v130_9 + 1))).toNat < (21 - v130_9).toNat by omega⟩
                  · refine ⟨fun h198 => ?_, fun h198 => ?_⟩
                    · unfold wX11_areSame_217
                      exact ⟨⟨(Ch.wk hS130h (by decide) (by decide)), rfl, rfl, rfl, rfl, rfl, rfl, rfl, by omega, by omega, i130_2, i130_3, by omega, by omega, by omega, by omega⟩, show (21 - ((v130_9 + 1))).toNat < (21 - v130_9).toNat by omega⟩
                    · unfold wX11_areSame_217
                      exact ⟨⟨(Ch.wk hS130h (by decide) (by decide)), rfl, rfl, rfl, rfl, rfl, rfl, rfl, by omega, by omega, i130_2, i130_3, by omega, by omega, by omega, by omega⟩, show (21 - ((v130_9 + 1))).toNat < (21 - v130_9).toNat by omega⟩
  · exact hK (0) S (Ch.wk Ch.rf (by decide) (by decide)) (by omega) (p4) (p5) (by omega) (by omega)

