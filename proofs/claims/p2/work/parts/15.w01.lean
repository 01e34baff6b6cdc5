set_option maxRecDepth 100000 in
set_option maxHeartbeats 4000000 in
theorem tX11_goesOn {a1 : Int} {S : St} {K : Int → St → Prop} (p1 : 1 ≤ (S.1 54 32)) (p2 : (S.1 54 39) ≤ 3000) (p3 : (S.1 54 30) ≤ (S.1 54 25)) (p4 : (S.1 54 32) ≤ (S.1 54 19)) (p5 : PW S) (p6 : BW S) (p7 : OK0 S) (p8 : OL0 S) (p9 : NMS S) (p10 : OWI S) (p11 : EWI S) (p12 : (S.2 67) 0 ≤ 30) (p13 : iv 1 20 (S.1 54 19)) (p14 : (S.1 54 39) ≤ 3001) (hK : ∀ (r : Int) (S' : St), Ch [25, 30, 32, 39] [72, 73, 74, 75, 76, 77, 78, 79, 80, 81, 82, 83] S S' → (iv 0 1 r) → ((S'.1 54 30) ≤ (S'.1 54 25)) → ((S'.1 54 32) ≤ (S.1 54 19)) → (PW S') → (BW S') → (OWI S') → (EWI S') → ((S'.1 54 39) = 3001 ∨ (S.1 54 39) < (S'.1 54 39) ∨ r = 0 ∨ ((S'.1 54 39) = (S.1 54 39) ∧ (S'.1 54 32) = (S.1 54 32) ∧ (S'.2 80) ((S.1 54 32) - 1) = (S.2 80) ((S.1 54 32) - 1) + 1 ∧ 0 ≤ (S.2 80) ((S.1 54 32) - 1) ∧ (S.2 80) ((S.1 54 32) - 1) ≤ 3)) → ((S.1 54 39) ≤ (S'.1 54 39)) → ((S'.1 54 39) ≤ 3001) → K r S') : wX11_goesOn a1 S K := by
  unfold wX11_goesOn
  intro g1
  intro q1
  intro x6 hx6
  subst hx6
  refine ⟨by omega, by omega, ?_⟩
  intro q2
  intro x13 hx13
  subst hx13
  refine ⟨by omega, by omega, ?_⟩
  intro q3
  intro x20 hx20
  subst hx20
  refine ⟨by omega, by omega, ?_⟩
  intro q4
  intro x28 hx28
  subst hx28
  have hw6 := owi_of p10 (x := (S.1 54 32 - 1)) (by omega) (by omega)
  unfold owi at hw6
  obtain ⟨w1, w2, w3, w4, w5, w6⟩ := hw6
  have hel := EWI_lt p11 p2 (by omega) (by omega)
  refine ⟨by omega, by omega, ?_⟩
  intro q5
  refine ⟨fun h39 => ?_, fun h39 => ?_⟩
  · have hk8 : tyV (S.2 67 0) (S.2 59 (4 * S.2 68 (S.2 77 (S.1 54 32 - 1)) + S.2 80 (S.1 54 32 - 1))) (S.2 69 (4 * S.2 77 (S.1 54 32 - 1) + S.2 80 (S.1 54 32 - 1))) := by
      clear w6
      rcases p7 (S.2 77 (S.1 54 32 - 1)) (S.2 80 (S.1 54 32 - 1)) with h | h | h | h | h
      · omega
      · omega
      · omega
      · omega
      · exact h
    unfold tyV at hk8
    obtain ⟨t1, t2, t3⟩ := hk8
    have hnm : 1 ≤ S.2 57 (6 + (4 * S.2 68 (S.2 77 (S.1 54 32 - 1)) + S.2 80 (S.1 54 32 - 1))) := by
      clear w6 t1 t2 t3
      rcases p9 (S.2 77 (S.1 54 32 - 1)) (S.2 80 (S.1 54 32 - 1)) with h | h | ⟨h0, h | h | h⟩
      · omega
      · omega
      · omega
      · omega
      · exact h
    intro x71 hx71
    subst hx71
    intro x78 hx78
    subst hx78
    refine ⟨by omega, by omega, ?_⟩
    intro q6
    intro x91 hx91
    subst hx91
    refine ⟨by omega, by omega, ?_⟩
    intro q7
    refine ⟨fun h101 => ?_, fun h101 => ?_⟩
    · have w7 : S.2 81 (S.1 54 32 - 1) = 0 := by
        rcases w6 with h | h
        · exact h
        · omega
      clear w6 t3
      refine ⟨by omega, by omega, ?_⟩
      intro q8
      refine ⟨by omega, by omega, ?_⟩
      refine ⟨by omega, ?_⟩
      intro S124 hS124e
      have hS124 : Ch [] [80] S S124 := Ch_A hS124e
      have hS124v : ∀ x, (x = ((S.1 54 32 - 1)) ∧ S124.2 80 x = (S.2 80 (((S.1 54 32 - 1))) + 1)) ∨ (¬ x = ((S.1 54 32 - 1)) ∧ S124.2 80 x = S.2 80 x) := pA_at hS124e
      refine ⟨by omega, by omega, ?_⟩
      intro q9
      have e10 : S124.2 59 ((((4 * (S.2 68 ((S.2 77 (((S.1 54 32 - 1))))))) + (S.2 80 (((S.1 54 32 - 1))))))) = S.2 59 ((((4 * (S.2 68 ((S.2 77 (((S.1 54 32 - 1))))))) + (S.2 80 (((S.1 54 32 - 1))))))) := congrFun (hS124.2 59 (by decide)) _
      refine ⟨fun h133 => ?_, fun h133 => ?_⟩
      · clear t2
        refine ⟨by omega, by omega, ?_⟩
        intro q11
        have e12 : S124.2 60 ((((4 * (S.2 68 ((S.2 77 (((S.1 54 32 - 1))))))) + (S.2 80 (((S.1 54 32 - 1))))))) = S.2 60 ((((4 * (S.2 68 ((S.2 77 (((S.1 54 32 - 1))))))) + (S.2 80 (((S.1 54 32 - 1))))))) := congrFun (hS124.2 60 (by decide)) _
        refine ⟨fun h175 => ?_, fun h175 => ?_⟩
        · have e13 : S124.1 54 30 = S.1 54 30 := hS124.1 30 (by decide)
          have e14 : S124.1 54 25 = S.1 54 25 := hS124.1 25 (by decide)
          have e15 : S124.1 54 32 = S.1 54 32 := hS124.1 32 (by decide)
          have e16 : S124.1 54 39 = S.1 54 39 := hS124.1 39 (by decide)
          have e17 : S124.1 54 32 = S.1 54 32 := hS124.1 32 (by decide)
          have e18 : S124.2 80 ((S.1 54 32) - 1) = ((S.2 80 (((S.1 54 32 - 1))) + 1)) := by have q := hS124v ((S.1 54 32) - 1); omega
          have e19 : S124.1 54 39 = S.1 54 39 := hS124.1 39 (by decide)
          have e20 : S124.1 54 39 = S.1 54 39 := hS124.1 39 (by decide)
          have e21 : S124.2 77 (S.1 54 32 - 1) = S.2 77 (S.1 54 32 - 1) := congrFun (hS124.2 77 (by decide)) _
          have e22 : S124.2 78 (S.1 54 32 - 1) = S.2 78 (S.1 54 32 - 1) := congrFun (hS124.2 78 (by decide)) _
          have e23 : S124.2 79 (S.1 54 32 - 1) = S.2 79 (S.1 54 32 - 1) := congrFun (hS124.2 79 (by decide)) _
          have e24 : S124.2 80 (S.1 54 32 - 1) = ((S.2 80 (((S.1 54 32 - 1))) + 1)) := by have q := hS124v (S.1 54 32 - 1); omega
          have e25 : S124.2 81 (S.1 54 32 - 1) = S.2 81 (S.1 54 32 - 1) := congrFun (hS124.2 81 (by decide)) _
          have e26 : S124.2 82 (S.1 54 32 - 1) = S.2 82 (S.1 54 32 - 1) := congrFun (hS124.2 82 (by decide)) _
          have fb := fl_z (S := S124) (o := (S.1 54 32 - 1)) (by omega)
          have fa := fl_01 (S := S) (x := (S.1 54 32 - 1))
          have fa0 := fl_z (S := S) (o := (S.1 54 32 - 1)) (by omega)
          exact hK (1) S124 (Ch.wk hS124 (by decide) (by decide)) (by omega) (by omega) (by omega) (PW.mv p5 ((hS124).1 25 (by decide)) ((hS124).2 72 (by decide))) (BW.mv2 p6 ((hS124).1 25 (by decide)) ((hS124).2 75 (by decide))) (OWI_step (o := (S.1 54 32 - 1)) (Ch.wk hS124 (by decide) (by decide)) (by omega) (by omega) (by omega) p10 (by
                intro x
                try clear hk8
                try clear hnm
                try clear hs0
                try clear hw6
                try clear c13
                try clear k4
                try clear k5
                try clear hs
                try clear htp
                try clear fa
                try clear fb
                try clear fa0
                try clear m7
                try clear hti
                have e27 : S124.2 77 x = S.2 77 x := congrFun (hS124.2 77 (by decide)) _
                omega) (by
                intro x
                try clear hk8
                try clear hnm
                try clear hs0
                try clear hw6
                try clear c13
                try clear k4
                try clear k5
                try clear hs
                try clear htp
                try clear fa
                try clear fb
                try clear fa0
                try clear m7
                try clear hti
                have e28 : S124.2 78 x = S.2 78 x := congrFun (hS124.2 78 (by decide)) _
                omega) (by
                intro x
                try clear hk8
                try clear hnm
                try clear hs0
                try clear hw6
                try clear c13
                try clear k4
                try clear k5
                try clear hs
                try clear htp
                try clear fa
                try clear fb
                try clear fa0
                try clear m7
                try clear hti
                have e29 : S124.2 79 x = S.2 79 x := congrFun (hS124.2 79 (by decide)) _
                omega) (by
                intro x
                try clear hk8
                try clear hnm
                try clear hs0
                try clear hw6
                try clear c13
                try clear k4
                try clear k5
                try clear hs
                try clear htp
                try clear fa
                try clear fb
                try clear fa0
                try clear m7
                try clear hti
                have e30 := hS124v x
                omega) (by
                intro x
                try clear hk8
                try clear hnm
                try clear hs0
                try clear hw6
                try clear c13
                try clear k4
                try clear k5
                try clear hs
                try clear htp
                try clear fa
                try clear fb
                try clear fa0
                try clear m7
                try clear hti
                have e31 : S124.2 81 x = S.2 81 x := congrFun (hS124.2 81 (by decide)) _
                omega) (by
                intro x
                try clear hk8
                try clear hnm
                try clear hs0
                try clear hw6
                try clear c13
                try clear k4
                try clear k5
                try clear hs
                try clear htp
                try clear fa
                try clear fb
                try clear fa0
                try clear m7
                try clear hti
                have e32 : S124.2 82 x = S.2 82 x := congrFun (hS124.2 82 (by decide)) _
                omega) (Or.inr (owi_top (Ch.wk hS124 (by decide) (by decide)) (owi_of p10 (by omega) (by omega)) (by omega) (by omega) (by omega) (by omega) (by omega) (by omega))) (Or.inl (by omega))) (EWI_step (o := (S.1 54 32 - 1)) (by omega) (Ch.wk hS124 (by decide) (by decide)) (by omega) p11 (by omega) (by
                intro x
                try clear hk8
                try clear hnm
                try clear hs0
                try clear hw6
                try clear c13
                try clear k4
                try clear k5
                try clear hs
                try clear htp
                try clear fa
                try clear fb
                try clear fa0
                try clear m7
                try clear hti
                have e33 : S124.2 77 x = S.2 77 x := congrFun (hS124.2 77 (by decide)) _
                omega) (by
                intro x
                try clear hk8
                try clear hnm
                try clear hs0
                try clear hw6
                try clear c13
                try clear k4
                try clear k5
                try clear hs
                try clear htp
                try clear fa
                try clear fb
                try clear fa0
                try clear m7
                try clear hti
                have e34 := hS124v x
                omega) (by
                intro x
                try clear hk8
                try clear hnm
                try clear hs0
                try clear hw6
                try clear c13
                try clear k4
                try clear k5
                try clear hs
                try clear htp
                try clear fa
                try clear fb
                try clear fa0
                try clear m7
                try clear hti
                have e35 : S124.2 81 x = S.2 81 x := congrFun (hS124.2 81 (by decide)) _
                omega) (by
                by_cases hdd : S124.1 54 39 = 3001
                · exact Or.inl hdd
                · first
                  | exact Or.inr (Or.inr (Or.inl ⟨by omega, by omega⟩))
                  | exact Or.inr (Or.inr (Or.inr ⟨by omega, by omega⟩))
                  | exact Or.inr (Or.inl ⟨by omega, by omega⟩))) (by
                first
                | exact Or.inr (Or.inr (Or.inl k1))
                | (by_cases hdd : S124.1 54 39 = 3001
                   · exact Or.inl hdd
                   · by_cases hdf : S.1 54 39 < S124.1 54 39
                     · exact Or.inr (Or.inl hdf)
                     · exact Or.inr (Or.inr (Or.inr ⟨by omega, by omega, by omega, by omega, by omega⟩)))) (by omega) (by omega)
        · refine ⟨by omega, by omega, ?_⟩
          intro q36
          have e37 : S124.2 78 (((S.1 54 32 - 1))) = S.2 78 (((S.1 54 32 - 1))) := congrFun (hS124.2 78 (by decide)) _
          refine ⟨by omega, ?_⟩
          have e38 : S124.1 54 25 = S.1 54 25 := hS124.1 25 (by decide)
          have e39 : S124.1 54 25 = S.1 54 25 := hS124.1 25 (by decide)
          have e40 : S124.1 54 25 = S.1 54 25 := hS124.1 25 (by decide)
          have e41 : S124.1 54 25 = S.1 54 25 := hS124.1 25 (by decide)
          refine tX11_element (by omega) (by omega) (by omega) (by omega) (PW.mv p5 ((hS124).1 25 (by decide)) ((hS124).2 72 (by decide))) (BW.mv2 p6 ((hS124).1 25 (by decide)) ((hS124).2 75 (by decide))) (fun r187 S187 hS187 n187_0 n187_1 n187_2 n187_3 n187_4 => ?_)
          have e42 : S187.1 54 39 = S124.1 54 39 := hS187.1 39 (by decide)
          have e43 : S124.1 54 39 = S.1 54 39 := hS124.1 39 (by decide)
          refine tX11_put  (fun r195 S195 hS195 n195_0 n195_1 => ?_)
          have e44 : S195.2 57 (((6 + (((4 * (S.2 68 ((S.2 77 (((S.1 54 32 - 1))))))) + (S.2 80 (((S.1 54 32 - 1))))))))) = S187.2 57 (((6 + (((4 * (S.2 68 ((S.2 77 (((S.1 54 32 - 1))))))) + (S.2 80 (((S.1 54 32 - 1))))))))) := congrFun (hS195.2 57 (by decide)) _
          have e45 : S187.2 57 (((6 + (((4 * (S.2 68 ((S.2 77 (((S.1 54 32 - 1))))))) + (S.2 80 (((S.1 54 32 - 1))))))))) = S124.2 57 (((6 + (((4 * (S.2 68 ((S.2 77 (((S.1 54 32 - 1))))))) + (S.2 80 (((S.1 54 32 - 1))))))))) := congrFun (hS187.2 57 (by decide)) _
          have e46 : S124.2 57 (((6 + (((4 * (S.2 68 ((S.2 77 (((S.1 54 32 - 1))))))) + (S.2 80 (((S.1 54 32 - 1))))))))) = S.2 57 (((6 + (((4 * (S.2 68 ((S.2 77 (((S.1 54 32 - 1))))))) + (S.2 80 (((S.1 54 32 - 1))))))))) := congrFun (hS124.2 57 (by decide)) _
          refine tX11_putName (by omega) (by omega) (fun r201 S201 hS201 n201_0 n201_1 n201_2 => ?_)
          refine ⟨by omega, by omega, ?_⟩
          intro q47
          have e48 : S201.2 59 ((((4 * (S.2 68 ((S.2 77 (((S.1 54 32 - 1))))))) + (S.2 80 (((S.1 54 32 - 1))))))) = S195.2 59 ((((4 * (S.2 68 ((S.2 77 (((S.1 54 32 - 1))))))) + (S.2 80 (((S.1 54 32 - 1))))))) := congrFun (hS201.2 59 (by decide)) _
          have e49 : S195.2 59 ((((4 * (S.2 68 ((S.2 77 (((S.1 54 32 - 1))))))) + (S.2 80 (((S.1 54 32 - 1))))))) = S187.2 59 ((((4 * (S.2 68 ((S.2 77 (((S.1 54 32 - 1))))))) + (S.2 80 (((S.1 54 32 - 1))))))) := congrFun (hS195.2 59 (by decide)) _
          have e50 : S187.2 59 ((((4 * (S.2 68 ((S.2 77 (((S.1 54 32 - 1))))))) + (S.2 80 (((S.1 54 32 - 1))))))) = S124.2 59 ((((4 * (S.2 68 ((S.2 77 (((S.1 54 32 - 1))))))) + (S.2 80 (((S.1 54 32 - 1))))))) := congrFun (hS187.2 59 (by decide)) _
          have e51 : S124.2 59 ((((4 * (S.2 68 ((S.2 77 (((S.1 54 32 - 1))))))) + (S.2 80 (((S.1 54 32 - 1))))))) = S.2 59 ((((4 * (S.2 68 ((S.2 77 (((S.1 54 32 - 1))))))) + (S.2 80 (((S.1 54 32 - 1))))))) := congrFun (hS124.2 59 (by decide)) _
          refine ⟨fun h212 => ?_, fun h212 => ?_⟩
          · unfold wX11_goesOn_232
            refine tX11_put  (fun r235 S235 hS235 n235_0 n235_1 => ?_)
            refine ⟨by omega, ?_⟩
            refine ⟨by omega, ?_⟩
            refine ⟨by omega, ?_⟩
            have e52 : S235.2 59 (4 * ((S.2 68 ((S.2 77 (((S.1 54 32 - 1))))))) + ((S.2 80 (((S.1 54 32 - 1)))))) = S201.2 59 (4 * ((S.2 68 ((S.2 77 (((S.1 54 32 - 1))))))) + ((S.2 80 (((S.1 54 32 - 1)))))) := congrFun (hS235.2 59 (by decide)) _
            have e53 : S201.2 59 (4 * ((S.2 68 ((S.2 77 (((S.1 54 32 - 1))))))) + ((S.2 80 (((S.1 54 32 - 1)))))) = S195.2 59 (4 * ((S.2 68 ((S.2 77 (((S.1 54 32 - 1))))))) + ((S.2 80 (((S.1 54 32 - 1)))))) := congrFun (hS201.2 59 (by decide)) _
            have e54 : S195.2 59 (4 * ((S.2 68 ((S.2 77 (((S.1 54 32 - 1))))))) + ((S.2 80 (((S.1 54 32 - 1)))))) = S187.2 59 (4 * ((S.2 68 ((S.2 77 (((S.1 54 32 - 1))))))) + ((S.2 80 (((S.1 54 32 - 1)))))) := congrFun (hS195.2 59 (by decide)) _
            have e55 : S187.2 59 (4 * ((S.2 68 ((S.2 77 (((S.1 54 32 - 1))))))) + ((S.2 80 (((S.1 54 32 - 1)))))) = S124.2 59 (4 * ((S.2 68 ((S.2 77 (((S.1 54 32 - 1))))))) + ((S.2 80 (((S.1 54 32 - 1)))))) := congrFun (hS187.2 59 (by decide)) _
            have e56 : S124.2 59 (4 * ((S.2 68 ((S.2 77 (((S.1 54 32 - 1))))))) + ((S.2 80 (((S.1 54 32 - 1)))))) = S.2 59 (4 * ((S.2 68 ((S.2 77 (((S.1 54 32 - 1))))))) + ((S.2 80 (((S.1 54 32 - 1)))))) := congrFun (hS124.2 59 (by decide)) _
            have e57 : S235.2 69 (4 * ((S.2 77 (((S.1 54 32 - 1))))) + ((S.2 80 (((S.1 54 32 - 1)))))) = S201.2 69 (4 * ((S.2 77 (((S.1 54 32 - 1))))) + ((S.2 80 (((S.1 54 32 - 1)))))) := congrFun (hS235.2 69 (by decide)) _
            have e58 : S201.2 69 (4 * ((S.2 77 (((S.1 54 32 - 1))))) + ((S.2 80 (((S.1 54 32 - 1)))))) = S195.2 69 (4 * ((S.2 77 (((S.1 54 32 - 1))))) + ((S.2 80 (((S.1 54 32 - 1)))))) := congrFun (hS201.2 69 (by decide)) _
            have e59 : S195.2 69 (4 * ((S.2 77 (((S.1 54 32 - 1))))) + ((S.2 80 (((S.1 54 32 - 1)))))) = S187.2 69 (4 * ((S.2 77 (((S.1 54 32 - 1))))) + ((S.2 80 (((S.1 54 32 - 1)))))) := congrFun (hS195.2 69 (by decide)) _
            have e60 : S187.2 69 (4 * ((S.2 77 (((S.1 54 32 - 1))))) + ((S.2 80 (((S.1 54 32 - 1)))))) = S124.2 69 (4 * ((S.2 77 (((S.1 54 32 - 1))))) + ((S.2 80 (((S.1 54 32 - 1)))))) := congrFun (hS187.2 69 (by decide)) _
            have e61 : S124.2 69 (4 * ((S.2 77 (((S.1 54 32 - 1))))) + ((S.2 80 (((S.1 54 32 - 1)))))) = S.2 69 (4 * ((S.2 77 (((S.1 54 32 - 1))))) + ((S.2 80 (((S.1 54 32 - 1)))))) := congrFun (hS124.2 69 (by decide)) _
            refine tX11_putValue (by omega) (by omega) (by omega) (by omega) (by omega) (fun r245 S245 hS245 n245_0 n245_1 => ?_)
            refine ⟨by omega, ?_⟩
            have e62 : S245.2 57 (((6 + (((4 * (S.2 68 ((S.2 77 (((S.1 54 32 - 1))))))) + (S.2 80 (((S.1 54 32 - 1))))))))) = S235.2 57 (((6 + (((4 * (S.2 68 ((S.2 77 (((S.1 54 32 - 1))))))) + (S.2 80 (((S.1 54 32 - 1))))))))) := congrFun (hS245.2 57 (by decide)) _
            have e63 : S235.2 57 (((6 + (((4 * (S.2 68 ((S.2 77 (((S.1 54 32 - 1))))))) + (S.2 80 (((S.1 54 32 - 1))))))))) = S201.2 57 (((6 + (((4 * (S.2 68 ((S.2 77 (((S.1 54 32 - 1))))))) + (S.2 80 (((S.1 54 32 - 1))))))))) := congrFun (hS235.2 57 (by decide)) _
            have e64 : S201.2 57 (((6 + (((4 * (S.2 68 ((S.2 77 (((S.1 54 32 - 1))))))) + (S.2 80 (((S.1 54 32 - 1))))))))) = S195.2 57 (((6 + (((4 * (S.2 68 ((S.2 77 (((S.1 54 32 - 1))))))) + (S.2 80 (((S.1 54 32 - 1))))))))) := congrFun (hS201.2 57 (by decide)) _
            have e65 : S195.2 57 (((6 + (((4 * (S.2 68 ((S.2 77 (((S.1 54 32 - 1))))))) + (S.2 80 (((S.1 54 32 - 1))))))))) = S187.2 57 (((6 + (((4 * (S.2 68 ((S.2 77 (((S.1 54 32 - 1))))))) + (S.2 80 (((S.1 54 32 - 1))))))))) := congrFun (hS195.2 57 (by decide)) _
            have e66 : S187.2 57 (((6 + (((4 * (S.2 68 ((S.2 77 (((S.1 54 32 - 1))))))) + (S.2 80 (((S.1 54 32 - 1))))))))) = S124.2 57 (((6 + (((4 * (S.2 68 ((S.2 77 (((S.1 54 32 - 1))))))) + (S.2 80 (((S.1 54 32 - 1))))))))) := congrFun (hS187.2 57 (by decide)) _
            have e67 : S124.2 57 (((6 + (((4 * (S.2 68 ((S.2 77 (((S.1 54 32 - 1))))))) + (S.2 80 (((S.1 54 32 - 1))))))))) = S.2 57 (((6 + (((4 * (S.2 68 ((S.2 77 (((S.1 54 32 - 1))))))) + (S.2 80 (((S.1 54 32 - 1))))))))) := congrFun (hS124.2 57 (by decide)) _
            refine tX11_end (by omega) (by omega) (fun r251 S251 hS251 n251_0 n251_1 n251_2 n251_3 => ?_)
            have e68 : S251.1 54 30 = S245.1 54 30 := hS251.1 30 (by decide)
            have e69 : S245.1 54 30 = S235.1 54 30 := hS245.1 30 (by decide)
            have e70 : S235.1 54 30 = S201.1 54 30 := hS235.1 30 (by decide)
            have e71 : S201.1 54 30 = S195.1 54 30 := hS201.1 30 (by decide)
            have e72 : S195.1 54 30 = S187.1 54 30 := hS195.1 30 (by decide)
            have e73 : S187.1 54 30 = S124.1 54 30 := hS187.1 30 (by decide)
            have e74 : S124.1 54 30 = S.1 54 30 := hS124.1 30 (by decide)
            have e75 : S251.1 54 25 = S245.1 54 25 := hS251.1 25 (by decide)
            have e76 : S245.1 54 25 = S235.1 54 25 := hS245.1 25 (by decide)
            have e77 : S235.1 54 25 = S201.1 54 25 := hS235.1 25 (by decide)
            have e78 : S201.1 54 25 = S195.1 54 25 := hS201.1 25 (by decide)
            have e79 : S195.1 54 25 = S187.1 54 25 := hS195.1 25 (by decide)
            have e80 : S251.1 54 32 = S245.1 54 32 := hS251.1 32 (by decide)
            have e81 : S245.1 54 32 = S235.1 54 32 := hS245.1 32 (by decide)
            have e82 : S235.1 54 32 = S201.1 54 32 := hS235.1 32 (by decide)
            have e83 : S201.1 54 32 = S195.1 54 32 := hS201.1 32 (by decide)
            have e84 : S195.1 54 32 = S187.1 54 32 := hS195.1 32 (by decide)
            have e85 : S187.1 54 32 = S124.1 54 32 := hS187.1 32 (by decide)
            have e86 : S124.1 54 32 = S.1 54 32 := hS124.1 32 (by decide)
            have e87 : S251.1 54 32 = S245.1 54 32 := hS251.1 32 (by decide)
            have e88 : S245.1 54 32 = S235.1 54 32 := hS245.1 32 (by decide)
            have e89 : S235.1 54 32 = S201.1 54 32 := hS235.1 32 (by decide)
            have e90 : S201.1 54 32 = S195.1 54 32 := hS201.1 32 (by decide)
            have e91 : S195.1 54 32 = S187.1 54 32 := hS195.1 32 (by decide)
            have e92 : S187.1 54 32 = S124.1 54 32 := hS187.1 32 (by decide)
            have e93 : S124.1 54 32 = S.1 54 32 := hS124.1 32 (by decide)
            have e94 : S251.2 80 ((S.1 54 32) - 1) = S245.2 80 ((S.1 54 32) - 1) := congrFun (hS251.2 80 (by decide)) _
            have e95 : S245.2 80 ((S.1 54 32) - 1) = S235.2 80 ((S.1 54 32) - 1) := congrFun (hS245.2 80 (by decide)) _
            have e96 : S235.2 80 ((S.1 54 32) - 1) = S201.2 80 ((S.1 54 32) - 1) := congrFun (hS235.2 80 (by decide)) _
            have e97 : S201.2 80 ((S.1 54 32) - 1) = S195.2 80 ((S.1 54 32) - 1) := congrFun (hS201.2 80 (by decide)) _
            have e98 : S195.2 80 ((S.1 54 32) - 1) = S187.2 80 ((S.1 54 32) - 1) := congrFun (hS195.2 80 (by decide)) _
            have e99 : S187.2 80 ((S.1 54 32) - 1) = S124.2 80 ((S.1 54 32) - 1) := congrFun (hS187.2 80 (by decide)) _
            have e100 : S124.2 80 ((S.1 54 32) - 1) = ((S.2 80 (((S.1 54 32 - 1))) + 1)) := by have q := hS124v ((S.1 54 32) - 1); omega
            have e101 : S251.2 77 (S.1 54 32 - 1) = S245.2 77 (S.1 54 32 - 1) := congrFun (hS251.2 77 (by decide)) _
            have e102 : S245.2 77 (S.1 54 32 - 1) = S235.2 77 (S.1 54 32 - 1) := congrFun (hS245.2 77 (by decide)) _
            have e103 : S235.2 77 (S.1 54 32 - 1) = S201.2 77 (S.1 54 32 - 1) := congrFun (hS235.2 77 (by decide)) _
            have e104 : S201.2 77 (S.1 54 32 - 1) = S195.2 77 (S.1 54 32 - 1) := congrFun (hS201.2 77 (by decide)) _
            have e105 : S195.2 77 (S.1 54 32 - 1) = S187.2 77 (S.1 54 32 - 1) := congrFun (hS195.2 77 (by decide)) _
            have e106 : S187.2 77 (S.1 54 32 - 1) = S124.2 77 (S.1 54 32 - 1) := congrFun (hS187.2 77 (by decide)) _
            have e107 : S124.2 77 (S.1 54 32 - 1) = S.2 77 (S.1 54 32 - 1) := congrFun (hS124.2 77 (by decide)) _
            have e108 : S251.2 78 (S.1 54 32 - 1) = S245.2 78 (S.1 54 32 - 1) := congrFun (hS251.2 78 (by decide)) _
            have e109 : S245.2 78 (S.1 54 32 - 1) = S235.2 78 (S.1 54 32 - 1) := congrFun (hS245.2 78 (by decide)) _
            have e110 : S235.2 78 (S.1 54 32 - 1) = S201.2 78 (S.1 54 32 - 1) := congrFun (hS235.2 78 (by decide)) _
            have e111 : S201.2 78 (S.1 54 32 - 1) = S195.2 78 (S.1 54 32 - 1) := congrFun (hS201.2 78 (by decide)) _
            have e112 : S195.2 78 (S.1 54 32 - 1) = S187.2 78 (S.1 54 32 - 1) := congrFun (hS195.2 78 (by decide)) _
            have e113 : S187.2 78 (S.1 54 32 - 1) = S124.2 78 (S.1 54 32 - 1) := congrFun (hS187.2 78 (by decide)) _
            have e114 : S124.2 78 (S.1 54 32 - 1) = S.2 78 (S.1 54 32 - 1) := congrFun (hS124.2 78 (by decide)) _
            have e115 : S251.2 79 (S.1 54 32 - 1) = S245.2 79 (S.1 54 32 - 1) := congrFun (hS251.2 79 (by decide)) _
            have e116 : S245.2 79 (S.1 54 32 - 1) = S235.2 79 (S.1 54 32 - 1) := congrFun (hS245.2 79 (by decide)) _
            have e117 : S235.2 79 (S.1 54 32 - 1) = S201.2 79 (S.1 54 32 - 1) := congrFun (hS235.2 79 (by decide)) _
            have e118 : S201.2 79 (S.1 54 32 - 1) = S195.2 79 (S.1 54 32 - 1) := congrFun (hS201.2 79 (by decide)) _
            have e119 : S195.2 79 (S.1 54 32 - 1) = S187.2 79 (S.1 54 32 - 1) := congrFun (hS195.2 79 (by decide)) _
            have e120 : S187.2 79 (S.1 54 32 - 1) = S124.2 79 (S.1 54 32 - 1) := congrFun (hS187.2 79 (by decide)) _
            have e121 : S124.2 79 (S.1 54 32 - 1) = S.2 79 (S.1 54 32 - 1) := congrFun (hS124.2 79 (by decide)) _
            have e122 : S251.2 80 (S.1 54 32 - 1) = S245.2 80 (S.1 54 32 - 1) := congrFun (hS251.2 80 (by decide)) _
            have e123 : S245.2 80 (S.1 54 32 - 1) = S235.2 80 (S.1 54 32 - 1) := congrFun (hS245.2 80 (by decide)) _
            have e124 : S235.2 80 (S.1 54 32 - 1) = S201.2 80 (S.1 54 32 - 1) := congrFun (hS235.2 80 (by decide)) _
            have e125 : S201.2 80 (S.1 54 32 - 1) = S195.2 80 (S.1 54 32 - 1) := congrFun (hS201.2 80 (by decide)) _
            have e126 : S195.2 80 (S.1 54 32 - 1) = S187.2 80 (S.1 54 32 - 1) := congrFun (hS195.2 80 (by decide)) _
            have e127 : S187.2 80 (S.1 54 32 - 1) = S124.2 80 (S.1 54 32 - 1) := congrFun (hS187.2 80 (by decide)) _
            have e128 : S124.2 80 (S.1 54 32 - 1) = ((S.2 80 (((S.1 54 32 - 1))) + 1)) := by have q := hS124v (S.1 54 32 - 1); omega
            have e129 : S251.2 81 (S.1 54 32 - 1) = S245.2 81 (S.1 54 32 - 1) := congrFun (hS251.2 81 (by decide)) _
            have e130 : S245.2 81 (S.1 54 32 - 1) = S235.2 81 (S.1 54 32 - 1) := congrFun (hS245.2 81 (by decide)) _
            have e131 : S235.2 81 (S.1 54 32 - 1) = S201.2 81 (S.1 54 32 - 1) := congrFun (hS235.2 81 (by decide)) _
            have e132 : S201.2 81 (S.1 54 32 - 1) = S195.2 81 (S.1 54 32 - 1) := congrFun (hS201.2 81 (by decide)) _
            have e133 : S195.2 81 (S.1 54 32 - 1) = S187.2 81 (S.1 54 32 - 1) := congrFun (hS195.2 81 (by decide)) _
            have e134 : S187.2 81 (S.1 54 32 - 1) = S124.2 81 (S.1 54 32 - 1) := congrFun (hS187.2 81 (by decide)) _
            have e135 : S124.2 81 (S.1 54 32 - 1) = S.2 81 (S.1 54 32 - 1) := congrFun (hS124.2 81 (by decide)) _
            have e136 : S251.2 82 (S.1 54 32 - 1) = S245.2 82 (S.1 54 32 - 1) := congrFun (hS251.2 82 (by decide)) _
            have e137 : S245.2 82 (S.1 54 32 - 1) = S235.2 82 (S.1 54 32 - 1) := congrFun (hS245.2 82 (by decide)) _
            have e138 : S235.2 82 (S.1 54 32 - 1) = S201.2 82 (S.1 54 32 - 1) := congrFun (hS235.2 82 (by decide)) _
            have e139 : S201.2 82 (S.1 54 32 - 1) = S195.2 82 (S.1 54 32 - 1) := congrFun (hS201.2 82 (by decide)) _
            have e140 : S195.2 82 (S.1 54 32 - 1) = S187.2 82 (S.1 54 32 - 1) := congrFun (hS195.2 82 (by decide)) _
            have e141 : S187.2 82 (S.1 54 32 - 1) = S124.2 82 (S.1 54 32 - 1) := congrFun (hS187.2 82 (by decide)) _
            have e142 : S124.2 82 (S.1 54 32 - 1) = S.2 82 (S.1 54 32 - 1) := congrFun (hS124.2 82 (by decide)) _
            have fb := fl_z (S := S251) (o := (S.1 54 32 - 1)) (by omega)
            have fa := fl_01 (S := S) (x := (S.1 54 32 - 1))
            have fa0 := fl_z (S := S) (o := (S.1 54 32 - 1)) (by omega)
            exact hK (1) S251 (Ch.wk (Ch.tr (Ch.tr (Ch.tr (Ch.tr (Ch.tr (Ch.tr hS124 hS187) hS195) hS201) hS235) hS245) hS251) (by decide) (by decide)) (by omega) (by omega) (by omega) (PW.mv n187_2 (((Ch.tr (Ch.tr (Ch.tr (Ch.tr hS195 hS201) hS235) hS245) hS251)).1 25 (by decide)) (((Ch.tr (Ch.tr (Ch.tr (Ch.tr hS195 hS201) hS235) hS245) hS251)).2 72 (by decide))) (BW.mv2 n187_3 (((Ch.tr (Ch.tr (Ch.tr (Ch.tr hS195 hS201) hS235) hS245) hS251)).1 25 (by decide)) (((Ch.tr (Ch.tr (Ch.tr (Ch.tr hS195 hS201) hS235) hS245) hS251)).2 75 (by decide))) (OWI_step (o := (S.1 54 32 - 1)) (Ch.wk (Ch.tr (Ch.tr (Ch.tr (Ch.tr (Ch.tr (Ch.tr hS124 hS187) hS195) hS201) hS235) hS245) hS251) (by decide) (by decide)) (by omega) (by omega) (by omega) p10 (by
                  intro x
                  try clear hk8
                  try clear hnm
                  try clear hs0
                  try clear hw6
                  try clear c13
                  try clear k4
                  try clear k5
                  try clear hs
                  try clear htp
                  try clear fa
                  try clear fb
                  try clear fa0
                  try clear m7
                  try clear hti
                  have e143 : S251.2 77 x = S245.2 77 x := congrFun (hS251.2 77 (by decide)) _
                  have e144 : S245.2 77 x = S235.2 77 x := congrFun (hS245.2 77 (by decide)) _
                  have e145 : S235.2 77 x = S201.2 77 x := congrFun (hS235.2 77 (by decide)) _
                  have e146 : S201.2 77 x = S195.2 77 x := congrFun (hS201.2 77 (by decide)) _
                  have e147 : S195.2 77 x = S187.2 77 x := congrFun (hS195.2 77 (by decide)) _
                  have e148 : S187.2 77 x = S124.2 77 x := congrFun (hS187.2 77 (by decide)) _
                  have e149 : S124.2 77 x = S.2 77 x := congrFun (hS124.2 77 (by decide)) _
                  omega) (by
                  intro x
                  try clear hk8
                  try clear hnm
                  try clear hs0
                  try clear hw6
                  try clear c13
                  try clear k4
                  try clear k5
                  try clear hs
                  try clear htp
                  try clear fa
                  try clear fb
                  try clear fa0
                  try clear m7
                  try clear hti
                  have e150 : S251.2 78 x = S245.2 78 x := congrFun (hS251.2 78 (by decide)) _
                  have e151 : S245.2 78 x = S235.2 78 x := congrFun (hS245.2 78 (by decide)) _
                  have e152 : S235.2 78 x = S201.2 78 x := congrFun (hS235.2 78 (by decide)) _
                  have e153 : S201.2 78 x = S195.2 78 x := congrFun (hS201.2 78 (by decide)) _
                  have e154 : S195.2 78 x = S187.2 78 x := congrFun (hS195.2 78 (by decide)) _
                  have e155 : S187.2 78 x = S124.2 78 x := congrFun (hS187.2 78 (by decide)) _
                  have e156 : S124.2 78 x = S.2 78 x := congrFun (hS124.2 78 (by decide)) _
                  omega) (by
                  intro x
                  try clear hk8
                  try clear hnm
                  try clear hs0
                  try clear hw6
                  try clear c13
                  try clear k4
                  try clear k5
                  try clear hs
                  try clear htp
                  try clear fa
                  try clear fb
                  try clear fa0
                  try clear m7
                  try clear hti
                  have e157 : S251.2 79 x = S245.2 79 x := congrFun (hS251.2 79 (by decide)) _
                  have e158 : S245.2 79 x = S235.2 79 x := congrFun (hS245.2 79 (by decide)) _
                  have e159 : S235.2 79 x = S201.2 79 x := congrFun (hS235.2 79 (by decide)) _
                  have e160 : S201.2 79 x = S195.2 79 x := congrFun (hS201.2 79 (by decide)) _
                  have e161 : S195.2 79 x = S187.2 79 x := congrFun (hS195.2 79 (by decide)) _
                  have e162 : S187.2 79 x = S124.2 79 x := congrFun (hS187.2 79 (by decide)) _
                  have e163 : S124.2 79 x = S.2 79 x := congrFun (hS124.2 79 (by decide)) _
                  omega) (by
                  intro x
                  try clear hk8
                  try clear hnm
                  try clear hs0
                  try clear hw6
                  try clear c13
                  try clear k4
                  try clear k5
                  try clear hs
                  try clear htp
                  try clear fa
                  try clear fb
                  try clear fa0
                  try clear m7
                  try clear hti
                  have e164 : S251.2 80 x = S245.2 80 x := congrFun (hS251.2 80 (by decide)) _
                  have e165 : S245.2 80 x = S235.2 80 x := congrFun (hS245.2 80 (by decide)) _
                  have e166 : S235.2 80 x = S201.2 80 x := congrFun (hS235.2 80 (by decide)) _
                  have e167 : S201.2 80 x = S195.2 80 x := congrFun (hS201.2 80 (by decide)) _
                  have e168 : S195.2 80 x = S187.2 80 x := congrFun (hS195.2 80 (by decide)) _
                  have e169 : S187.2 80 x = S124.2 80 x := congrFun (hS187.2 80 (by decide)) _
                  have e170 := hS124v x
                  omega) (by
                  intro x
                  try clear hk8
                  try clear hnm
                  try clear hs0
                  try clear hw6
                  try clear c13
                  try clear k4
                  try clear k5
                  try clear hs
                  try clear htp
                  try clear fa
                  try clear fb
                  try clear fa0
                  try clear m7
                  try clear hti
                  have e171 : S251.2 81 x = S245.2 81 x := congrFun (hS251.2 81 (by decide)) _
                  have e172 : S245.2 81 x = S235.2 81 x := congrFun (hS245.2 81 (by decide)) _
                  have e173 : S235.2 81 x = S201.2 81 x := congrFun (hS235.2 81 (by decide)) _
                  have e174 : S201.2 81 x = S195.2 81 x := congrFun (hS201.2 81 (by decide)) _
                  have e175 : S195.2 81 x = S187.2 81 x := congrFun (hS195.2 81 (by decide)) _
                  have e176 : S187.2 81 x = S124.2 81 x := congrFun (hS187.2 81 (by decide)) _
                  have e177 : S124.2 81 x = S.2 81 x := congrFun (hS124.2 81 (by decide)) _
                  omega) (by
                  intro x
                  try clear hk8
                  try clear hnm
                  try clear hs0
                  try clear hw6
                  try clear c13
                  try clear k4
                  try clear k5
                  try clear hs
                  try clear htp
                  try clear fa
                  try clear fb
                  try clear fa0
                  try clear m7
                  try clear hti
                  have e178 : S251.2 82 x = S245.2 82 x := congrFun (hS251.2 82 (by decide)) _
                  have e179 : S245.2 82 x = S235.2 82 x := congrFun (hS245.2 82 (by decide)) _
                  have e180 : S235.2 82 x = S201.2 82 x := congrFun (hS235.2 82 (by decide)) _
                  have e181 : S201.2 82 x = S195.2 82 x := congrFun (hS201.2 82 (by decide)) _
                  have e182 : S195.2 82 x = S187.2 82 x := congrFun (hS195.2 82 (by decide)) _
                  have e183 : S187.2 82 x = S124.2 82 x := congrFun (hS187.2 82 (by decide)) _
                  have e184 : S124.2 82 x = S.2 82 x := congrFun (hS124.2 82 (by decide)) _
                  omega) (Or.inr (owi_top (Ch.wk (Ch.tr (Ch.tr (Ch.tr (Ch.tr (Ch.tr (Ch.tr hS124 hS187) hS195) hS201) hS235) hS245) hS251) (by decide) (by decide)) (owi_of p10 (by omega) (by omega)) (by omega) (by omega) (by omega) (by omega) (by omega) (by omega))) (Or.inl (by omega))) (EWI_step (o := (S.1 54 32 - 1)) (by omega) (Ch.wk (Ch.tr (Ch.tr (Ch.tr (Ch.tr (Ch.tr (Ch.tr hS124 hS187) hS195) hS201) hS235) hS245) hS251) (by decide) (by decide)) (by omega) p11 (by omega) (by
                  intro x
                  try clear hk8
                  try clear hnm
                  try clear hs0
                  try clear hw6
                  try clear c13
                  try clear k4
                  try clear k5
                  try clear hs
                  try clear htp
                  try clear fa
                  try clear fb
                  try clear fa0
                  try clear m7
                  try clear hti
                  have e185 : S251.2 77 x = S245.2 77 x := congrFun (hS251.2 77 (by decide)) _
                  have e186 : S245.2 77 x = S235.2 77 x := congrFun (hS245.2 77 (by decide)) _
                  have e187 : S235.2 77 x = S201.2 77 x := congrFun (hS235.2 77 (by decide)) _
                  have e188 : S201.2 77 x = S195.2 77 x := congrFun (hS201.2 77 (by decide)) _
                  have e189 : S195.2 77 x = S187.2 77 x := congrFun (hS195.2 77 (by decide)) _
                  have e190 : S187.2 77 x = S124.2 77 x := congrFun (hS187.2 77 (by decide)) _
                  have e191 : S124.2 77 x = S.2 77 x := congrFun (hS124.2 77 (by decide)) _
                  omega) (by
                  intro x
                  try clear hk8
                  try clear hnm
                  try clear hs0
                  try clear hw6
                  try clear c13
                  try clear k4
                  try clear k5
                  try clear hs
                  try clear htp
                  try clear fa
                  try clear fb
                  try clear fa0
                  try clear m7
                  try clear hti
                  have e192 : S251.2 80 x = S245.2 80 x := congrFun (hS251.2 80 (by decide)) _
                  have e193 : S245.2 80 x = S235.2 80 x := congrFun (hS245.2 80 (by decide)) _
                  have e194 : S235.2 80 x = S201.2 80 x := congrFun (hS235.2 80 (by decide)) _
                  have e195 : S201.2 80 x = S195.2 80 x := congrFun (hS201.2 80 (by decide)) _
                  have e196 : S195.2 80 x = S187.2 80 x := congrFun (hS195.2 80 (by decide)) _
                  have e197 : S187.2 80 x = S124.2 80 x := congrFun (hS187.2 80 (by decide)) _
                  have e198 := hS124v x
                  omega) (by
                  intro x
                  try clear hk8
                  try clear hnm
                  try clear hs0
                  try clear hw6
                  try clear c13
                  try clear k4
                  try clear k5
                  try clear hs
                  try clear htp
                  try clear fa
                  try clear fb
                  try clear fa0
                  try clear m7
                  try clear hti
                  have e199 : S251.2 81 x = S245.2 81 x := congrFun (hS251.2 81 (by decide)) _
                  have e200 : S245.2 81 x = S235.2 81 x := congrFun (hS245.2 81 (by decide)) _
                  have e201 : S235.2 81 x = S201.2 81 x := congrFun (hS235.2 81 (by decide)) _
                  have e202 : S201.2 81 x = S195.2 81 x := congrFun (hS201.2 81 (by decide)) _
                  have e203 : S195.2 81 x = S187.2 81 x := congrFun (hS195.2 81 (by decide)) _
                  have e204 : S187.2 81 x = S124.2 81 x := congrFun (hS187.2 81 (by decide)) _
                  have e205 : S124.2 81 x = S.2 81 x := congrFun (hS124.2 81 (by decide)) _
                  omega) (by
                  by_cases hdd : S251.1 54 39 = 3001
                  · exact Or.inl hdd
                  · first
                    | exact Or.inr (Or.inr (Or.inl ⟨by omega, by omega⟩))
                    | exact Or.inr (Or.inr (Or.inr ⟨by omega, by omega⟩))
                    | exact Or.inr (Or.inl ⟨by omega, by omega⟩))) (by
                  first
                  | exact Or.inr (Or.inr (Or.inl k1))
                  | (by_cases hdd : S251.1 54 39 = 3001
                     · exact Or.inl hdd
                     · by_cases hdf : S.1 54 39 < S251.1 54 39
                       · exact Or.inr (Or.inl hdf)
                       · exact Or.inr (Or.inr (Or.inr ⟨by omega, by omega, by omega, by omega, by omega⟩)))) (by omega) (by omega)
          · refine ⟨fun h217 => ?_, fun h217 => ?_⟩
            · unfold wX11_goesOn_232
              refine tX11_put  (fun r235 S235 hS235 n235_0 n235_1 => ?_)
              refine ⟨by omega, ?_⟩
              refine ⟨by omega, ?_⟩
              refine ⟨by omega, ?_⟩
              have e206 : S235.2 59 (4 * ((S.2 68 ((S.2 77 (((S.1 54 32 - 1))))))) + ((S.2 80 (((S.1 54 32 - 1)))))) = S201.2 59 (4 * ((S.2 68 ((S.2 77 (((S.1 54 32 - 1))))))) + ((S.2 80 (((S.1 54 32 - 1)))))) := congrFun (hS235.2 59 (by decide)) _
              have e207 : S201.2 59 (4 * ((S.2 68 ((S.2 77 (((S.1 54 32 - 1))))))) + ((S.2 80 (((S.1 54 32 - 1)))))) = S195.2 59 (4 * ((S.2 68 ((S.2 77 (((S.1 54 32 - 1))))))) + ((S.2 80 (((S.1 54 32 - 1)))))) := congrFun (hS201.2 59 (by decide)) _
              have e208 : S195.2 59 (4 * ((S.2 68 ((S.2 77 (((S.1 54 32 - 1))))))) + ((S.2 80 (((S.1 54 32 - 1)))))) = S187.2 59 (4 * ((S.2 68 ((S.2 77 (((S.1 54 32 - 1))))))) + ((S.2 80 (((S.1 54 32 - 1)))))) := congrFun (hS195.2 59 (by decide)) _
              have e209 : S187.2 59 (4 * ((S.2 68 ((S.2 77 (((S.1 54 32 - 1))))))) + ((S.2 80 (((S.1 54 32 - 1)))))) = S124.2 59 (4 * ((S.2 68 ((S.2 77 (((S.1 54 32 - 1))))))) + ((S.2 80 (((S.1 54 32 - 1)))))) := congrFun (hS187.2 59 (by decide)) _
              have e210 : S124.2 59 (4 * ((S.2 68 ((S.2 77 (((S.1 54 32 - 1))))))) + ((S.2 80 (((S.1 54 32 - 1)))))) = S.2 59 (4 * ((S.2 68 ((S.2 77 (((S.1 54 32 - 1))))))) + ((S.2 80 (((S.1 54 32 - 1)))))) := congrFun (hS124.2 59 (by decide)) _
              have e211 : S235.2 69 (4 * ((S.2 77 (((S.1 54 32 - 1))))) + ((S.2 80 (((S.1 54 32 - 1)))))) = S201.2 69 (4 * ((S.2 77 (((S.1 54 32 - 1))))) + ((S.2 80 (((S.1 54 32 - 1)))))) := congrFun (hS235.2 69 (by decide)) _
              have e212 : S201.2 69 (4 * ((S.2 77 (((S.1 54 32 - 1))))) + ((S.2 80 (((S.1 54 32 - 1)))))) = S195.2 69 (4 * ((S.2 77 (((S.1 54 32 - 1))))) + ((S.2 80 (((S.1 54 32 - 1)))))) := congrFun (hS201.2 69 (by decide)) _
              have e213 : S195.2 69 (4 * ((S.2 77 (((S.1 54 32 - 1))))) + ((S.2 80 (((S.1 54 32 - 1)))))) = S187.2 69 (4 * ((S.2 77 (((S.1 54 32 - 1))))) + ((S.2 80 (((S.1 54 32 - 1)))))) := congrFun (hS195.2 69 (by decide)) _
              have e214 : S187.2 69 (4 * ((S.2 77 (((S.1 54 32 - 1))))) + ((S.2 80 (((S.1 54 32 - 1)))))) = S124.2 69 (4 * ((S.2 77 (((S.1 54 32 - 1))))) + ((S.2 80 (((S.1 54 32 - 1)))))) := congrFun (hS187.2 69 (by decide)) _
              have e215 : S124.2 69 (4 * ((S.2 77 (((S.1 54 32 - 1))))) + ((S.2 80 (((S.1 54 32 - 1)))))) = S.2 69 (4 * ((S.2 77 (((S.1 54 32 - 1))))) + ((S.2 80 (((S.1 54 32 - 1)))))) := congrFun (hS124.2 69 (by decide)) _
              refine tX11_putValue (by omega) (by omega) (by omega) (by omega) (by omega) (fun r245 S245 hS245 n245_0 n245_1 => ?_)
              refine ⟨by omega, ?_⟩
              have e216 : S245.2 57 (((6 + (((4 * (S.2 68 ((S.2 77 (((S.1 54 32 - 1))))))) + (S.2 80 (((S.1 54 32 - 1))))))))) = S235.2 57 (((6 + (((4 * (S.2 68 ((S.2 77 (((S.1 54 32 - 1))))))) + (S.2 80 (((S.1 54 32 - 1))))))))) := congrFun (hS245.2 57 (by decide)) _
              have e217 : S235.2 57 (((6 + (((4 * (S.2 68 ((S.2 77 (((S.1 54 32 - 1))))))) + (S.2 80 (((S.1 54 32 - 1))))))))) = S201.2 57 (((6 + (((4 * (S.2 68 ((S.2 77 (((S.1 54 32 - 1))))))) + (S.2 80 (((S.1 54 32 - 1))))))))) := congrFun (hS235.2 57 (by decide)) _
              have e218 : S201.2 57 (((6 + (((4 * (S.2 68 ((S.2 77 (((S.1 54 32 - 1))))))) + (S.2 80 (((S.1 54 32 - 1))))))))) = S195.2 57 (((6 + (((4 * (S.2 68 ((S.2 77 (((S.1 54 32 - 1))))))) + (S.2 80 (((S.1 54 32 - 1))))))))) := congrFun (hS201.2 57 (by decide)) _
              have e219 : S195.2 57 (((6 + (((4 * (S.2 68 ((S.2 77 (((S.1 54 32 - 1))))))) + (S.2 80 (((S.1 54 32 - 1))))))))) = S187.2 57 (((6 + (((4 * (S.2 68 ((S.2 77 (((S.1 54 32 - 1))))))) + (S.2 80 (((S.1 54 32 - 1))))))))) := congrFun (hS195.2 57 (by decide)) _
              have e220 : S187.2 57 (((6 + (((4 * (S.2 68 ((S.2 77 (((S.1 54 32 - 1))))))) + (S.2 80 (((S.1 54 32 - 1))))))))) = S124.2 57 (((6 + (((4 * (S.2 68 ((S.2 77 (((S.1 54 32 - 1))))))) + (S.2 80 (((S.1 54 32 - 1))))))))) := congrFun (hS187.2 57 (by decide)) _
              have e221 : S124.2 57 (((6 + (((4 * (S.2 68 ((S.2 77 (((S.1 54 32 - 1))))))) + (S.2 80 (((S.1 54 32 - 1))))))))) = S.2 57 (((6 + (((4 * (S.2 68 ((S.2 77 (((S.1 54 32 - 1))))))) + (S.2 80 (((S.1 54 32 - 1))))))))) := congrFun (hS124.2 57 (by decide)) _
              refine tX11_end (by omega) (by omega) (fun r251 S251 hS251 n251_0 n251_1 n251_2 n251_3 => ?_)
              have e222 : S251.1 54 30 = S245.1 54 30 := hS251.1 30 (by decide)
              have e223 : S245.1 54 30 = S235.1 54 30 := hS245.1 30 (by decide)
              have e224 : S235.1 54 30 = S201.1 54 30 := hS235.1 30 (by decide)
              have e225 : S201.1 54 30 = S195.1 54 30 := hS201.1 30 (by decide)
              have e226 : S195.1 54 30 = S187.1 54 30 := hS195.1 30 (by decide)
              have e227 : S187.1 54 30 = S124.1 54 30 := hS187.1 30 (by decide)
              have e228 : S124.1 54 30 = S.1 54 30 := hS124.1 30 (by decide)
              have e229 : S251.1 54 25 = S245.1 54 25 := hS251.1 25 (by decide)
              have e230 : S245.1 54 25 = S235.1 54 25 := hS245.1 25 (by decide)
              have e231 : S235.1 54 25 = S201.1 54 25 := hS235.1 25 (by decide)
              have e232 : S201.1 54 25 = S195.1 54 25 := hS201.1 25 (by decide)
              have e233 : S195.1 54 25 = S187.1 54 25 := hS195.1 25 (by decide)
              have e234 : S251.1 54 32 = S245.1 54 32 := hS251.1 32 (by decide)
              have e235 : S245.1 54 32 = S235.1 54 32 := hS245.1 32 (by decide)
              have e236 : S235.1 54 32 = S201.1 54 32 := hS235.1 32 (by decide)
              have e237 : S201.1 54 32 = S195.1 54 32 := hS201.1 32 (by decide)
              have e238 : S195.1 54 32 = S187.1 54 32 := hS195.1 32 (by decide)
              have e239 : S187.1 54 32 = S124.1 54 32 := hS187.1 32 (by decide)
              have e240 : S124.1 54 32 = S.1 54 32 := hS124.1 32 (by decide)
              have e241 : S251.1 54 32 = S245.1 54 32 := hS251.1 32 (by decide)
              have e242 : S245.1 54 32 = S235.1 54 32 := hS245.1 32 (by decide)
              have e243 : S235.1 54 32 = S201.1 54 32 := hS235.1 32 (by decide)
              have e244 : S201.1 54 32 = S195.1 54 32 := hS201.1 32 (by decide)
              have e245 : S195.1 54 32 = S187.1 54 32 := hS195.1 32 (by decide)
              have e246 : S187.1 54 32 = S124.1 54 32 := hS187.1 32 (by decide)
              have e247 : S124.1 54 32 = S.1 54 32 := hS124.1 32 (by decide)
              have e248 : S251.2 80 ((S.1 54 32) - 1) = S245.2 80 ((S.1 54 32) - 1) := congrFun (hS251.2 80 (by decide)) _
              have e249 : S245.2 80 ((S.1 54 32) - 1) = S235.2 80 ((S.1 54 32) - 1) := congrFun (hS245.2 80 (by decide)) _
              have e250 : S235.2 80 ((S.1 54 32) - 1) = S201.2 80 ((S.1 54 32) - 1) := congrFun (hS235.2 80 (by decide)) _
              have e251 : S201.2 80 ((S.1 54 32) - 1) = S195.2 80 ((S.1 54 32) - 1) := congrFun (hS201.2 80 (by decide)) _
              have e252 : S195.2 80 ((S.1 54 32) - 1) = S187.2 80 ((S.1 54 32) - 1) := congrFun (hS195.2 80 (by decide)) _
              have e253 : S187.2 80 ((S.1 54 32) - 1) = S124.2 80 ((S.1 54 32) - 1) := congrFun (hS187.2 80 (by decide)) _
              have e254 : S124.2 80 ((S.1 54 32) - 1) = ((S.2 80 (((S.1 54 32 - 1))) + 1)) := by have q := hS124v ((S.1 54 32) - 1); omega
              have e255 : S251.2 77 (S.1 54 32 - 1) = S245.2 77 (S.1 54 32 - 1) := congrFun (hS251.2 77 (by decide)) _
              have e256 : S245.2 77 (S.1 54 32 - 1) = S235.2 77 (S.1 54 32 - 1) := congrFun (hS245.2 77 (by decide)) _
              have e257 : S235.2 77 (S.1 54 32 - 1) = S201.2 77 (S.1 54 32 - 1) := congrFun (hS235.2 77 (by decide)) _
              have e258 : S201.2 77 (S.1 54 32 - 1) = S195.2 77 (S.1 54 32 - 1) := congrFun (hS201.2 77 (by decide)) _
              have e259 : S195.2 77 (S.1 54 32 - 1) = S187.2 77 (S.1 54 32 - 1) := congrFun (hS195.2 77 (by decide)) _
              have e260 : S187.2 77 (S.1 54 32 - 1) = S124.2 77 (S.1 54 32 - 1) := congrFun (hS187.2 77 (by decide)) _
              have e261 : S124.2 77 (S.1 54 32 - 1) = S.2 77 (S.1 54 32 - 1) := congrFun (hS124.2 77 (by decide)) _
              have e262 : S251.2 78 (S.1 54 32 - 1) = S245.2 78 (S.1 54 32 - 1) := congrFun (hS251.2 78 (by decide)) _
              have e263 : S245.2 78 (S.1 54 32 - 1) = S235.2 78 (S.1 54 32 - 1) := congrFun (hS245.2 78 (by decide)) _
              have e264 : S235.2 78 (S.1 54 32 - 1) = S201.2 78 (S.1 54 32 - 1) := congrFun (hS235.2 78 (by decide)) _
              have e265 : S201.2 78 (S.1 54 32 - 1) = S195.2 78 (S.1 54 32 - 1) := congrFun (hS201.2 78 (by decide)) _
              have e266 : S195.2 78 (S.1 54 32 - 1) = S187.2 78 (S.1 54 32 - 1) := congrFun (hS195.2 78 (by decide)) _
              have e267 : S187.2 78 (S.1 54 32 - 1) = S124.2 78 (S.1 54 32 - 1) := congrFun (hS187.2 78 (by decide)) _
              have e268 : S124.2 78 (S.1 54 32 - 1) = S.2 78 (S.1 54 32 - 1) := congrFun (hS124.2 78 (by decide)) _
              have e269 : S251.2 79 (S.1 54 32 - 1) = S245.2 79 (S.1 54 32 - 1) := congrFun (hS251.2 79 (by decide)) _
              have e270 : S245.2 79 (S.1 54 32 - 1) = S235.2 79 (S.1 54 32 - 1) := congrFun (hS245.2 79 (by decide)) _
              have e271 : S235.2 79 (S.1 54 32 - 1) = S201.2 79 (S.1 54 32 - 1) := congrFun (hS235.2 79 (by decide)) _
              have e272 : S201.2 79 (S.1 54 32 - 1) = S195.2 79 (S.1 54 32 - 1) := congrFun (hS201.2 79 (by decide)) _
              have e273 : S195.2 79 (S.1 54 32 - 1) = S187.2 79 (S.1 54 32 - 1) := congrFun (hS195.2 79 (by decide)) _
              have e274 : S187.2 79 (S.1 54 32 - 1) = S124.2 79 (S.1 54 32 - 1) := congrFun (hS187.2 79 (by decide)) _
              have e275 : S124.2 79 (S.1 54 32 - 1) = S.2 79 (S.1 54 32 - 1) := congrFun (hS124.2 79 (by decide)) _
              have e276 : S251.2 80 (S.1 54 32 - 1) = S245.2 80 (S.1 54 32 - 1) := congrFun (hS251.2 80 (by decide)) _
              have e277 : S245.2 80 (S.1 54 32 - 1) = S235.2 80 (S.1 54 32 - 1) := congrFun (hS245.2 80 (by decide)) _
              have e278 : S235.2 80 (S.1 54 32 - 1) = S201.2 80 (S.1 54 32 - 1) := congrFun (hS235.2 80 (by decide)) _
              have e279 : S201.2 80 (S.1 54 32 - 1) = S195.2 80 (S.1 54 32 - 1) := congrFun (hS201.2 80 (by decide)) _
              have e280 : S195.2 80 (S.1 54 32 - 1) = S187.2 80 (S.1 54 32 - 1) := congrFun (hS195.2 80 (by decide)) _
              have e281 : S187.2 80 (S.1 54 32 - 1) = S124.2 80 (S.1 54 32 - 1) := congrFun (hS187.2 80 (by decide)) _
              have e282 : S124.2 80 (S.1 54 32 - 1) = ((S.2 80 (((S.1 54 32 - 1))) + 1)) := by have q := hS124v (S.1 54 32 - 1); omega
              have e283 : S251.2 81 (S.1 54 32 - 1) = S245.2 81 (S.1 54 32 - 1) := congrFun (hS251.2 81 (by decide)) _
              have e284 : S245.2 81 (S.1 54 32 - 1) = S235.2 81 (S.1 54 32 - 1) := congrFun (hS245.2 81 (by decide)) _
              have e285 : S235.2 81 (S.1 54 32 - 1) = S201.2 81 (S.1 54 32 - 1) := congrFun (hS235.2 81 (by decide)) _
              have e286 : S201.2 81 (S.1 54 32 - 1) = S195.2 81 (S.1 54 32 - 1) := congrFun (hS201.2 81 (by decide)) _
              have e287 : S195.2 81 (S.1 54 32 - 1) = S187.2 81 (S.1 54 32 - 1) := congrFun (hS195.2 81 (by decide)) _
              have e288 : S187.2 81 (S.1 54 32 - 1) = S124.2 81 (S.1 54 32 - 1) := congrFun (hS187.2 81 (by decide)) _
              have e289 : S124.2 81 (S.1 54 32 - 1) = S.2 81 (S.1 54 32 - 1) := congrFun (hS124.2 81 (by decide)) _
              have e290 : S251.2 82 (S.1 54 32 - 1) = S245.2 82 (S.1 54 32 - 1) := congrFun (hS251.2 82 (by decide)) _
              have e291 : S245.2 82 (S.1 54 32 - 1) = S235.2 82 (S.1 54 32 - 1) := congrFun (hS245.2 82 (by decide)) _
              have e292 : S235.2 82 (S.1 54 32 - 1) = S201.2 82 (S.1 54 32 - 1) := congrFun (hS235.2 82 (by decide)) _
              have e293 : S201.2 82 (S.1 54 32 - 1) = S195.2 82 (S.1 54 32 - 1) := congrFun (hS201.2 82 (by decide)) _
              have e294 : S195.2 82 (S.1 54 32 - 1) = S187.2 82 (S.1 54 32 - 1) := congrFun (hS195.2 82 (by decide)) _
              have e295 : S187.2 82 (S.1 54 32 - 1) = S124.2 82 (S.1 54 32 - 1) := congrFun (hS187.2 82 (by decide)) _
              have e296 : S124.2 82 (S.1 54 32 - 1) = S.2 82 (S.1 54 32 - 1) := congrFun (hS124.2 82 (by decide)) _
              have fb := fl_z (S := S251) (o := (S.1 54 32 - 1)) (by omega)
              have fa := fl_01 (S := S) (x := (S.1 54 32 - 1))
              have fa0 := fl_z (S := S) (o := (S.1 54 32 - 1)) (by omega)
              exact hK (1) S251 (Ch.wk (Ch.tr (Ch.tr (Ch.tr (Ch.tr (Ch.tr (Ch.tr hS124 hS187) hS195) hS201) hS235) hS245) hS251) (by decide) (by decide)) (by omega) (by omega) (by omega) (PW.mv n187_2 (((Ch.tr (Ch.tr (Ch.tr (Ch.tr hS195 hS201) hS235) hS245) hS251)).1 25 (by decide)) (((Ch.tr (Ch.tr (Ch.tr (Ch.tr hS195 hS201) hS235) hS245) hS251)).2 72 (by decide))) (BW.mv2 n187_3 (((Ch.tr (Ch.tr (Ch.tr (Ch.tr hS195 hS201) hS235) hS245) hS251)).1 25 (by decide)) (((Ch.tr (Ch.tr (Ch.tr (Ch.tr hS195 hS201) hS235) hS245) hS251)).2 75 (by decide))) (OWI_step (o := (S.1 54 32 - 1)) (Ch.wk (Ch.tr (Ch.tr (Ch.tr (Ch.tr (Ch.tr (Ch.tr hS124 hS187) hS195) hS201) hS235) hS245) hS251) (by decide) (by decide)) (by omega) (by omega) (by omega) p10 (by
                    intro x
                    try clear hk8
                    try clear hnm
                    try clear hs0
                    try clear hw6
                    try clear c13
                    try clear k4
                    try clear k5
                    try clear hs
                    try clear htp
                    try clear fa
                    try clear fb
                    try clear fa0
                    try clear m7
                    try clear hti
                    have e297 : S251.2 77 x = S245.2 77 x := congrFun (hS251.2 77 (by decide)) _
                    have e298 : S245.2 77 x = S235.2 77 x := congrFun (hS245.2 77 (by decide)) _
                    have e299 : S235.2 77 x = S201.2 77 x := congrFun (hS235.2 77 (by decide)) _
                    have e300 : S201.2 77 x = S195.2 77 x := congrFun (hS201.2 77 (by decide)) _
                    have e301 : S195.2 77 x = S187.2 77 x := congrFun (hS195.2 77 (by decide)) _
                    have e302 : S187.2 77 x = S124.2 77 x := congrFun (hS187.2 77 (by decide)) _
                    have e303 : S124.2 77 x = S.2 77 x := congrFun (hS124.2 77 (by decide)) _
                    omega) (by
                    intro x
                    try clear hk8
                    try clear hnm
                    try clear hs0
                    try clear hw6
                    try clear c13
                    try clear k4
                    try clear k5
                    try clear hs
                    try clear htp
                    try clear fa
                    try clear fb
                    try clear fa0
                    try clear m7
                    try clear hti
                    have e304 : S251.2 78 x = S245.2 78 x := congrFun (hS251.2 78 (by decide)) _
                    have e305 : S245.2 78 x = S235.2 78 x := congrFun (hS245.2 78 (by decide)) _
                    have e306 : S235.2 78 x = S201.2 78 x := congrFun (hS235.2 78 (by decide)) _
                    have e307 : S201.2 78 x = S195.2 78 x := congrFun (hS201.2 78 (by decide)) _
                    have e308 : S195.2 78 x = S187.2 78 x := congrFun (hS195.2 78 (by decide)) _
                    have e309 : S187.2 78 x = S124.2 78 x := congrFun (hS187.2 78 (by decide)) _
                    have e310 : S124.2 78 x = S.2 78 x := congrFun (hS124.2 78 (by decide)) _
                    omega) (by
                    intro x
                    try clear hk8
                    try clear hnm
                    try clear hs0
                    try clear hw6
                    try clear c13
                    try clear k4
                    try clear k5
                    try clear hs
                    try clear htp
                    try clear fa
                    try clear fb
                    try clear fa0
                    try clear m7
                    try clear hti
                    have e311 : S251.2 79 x = S245.2 79 x := congrFun (hS251.2 79 (by decide)) _
                    have e312 : S245.2 79 x = S235.2 79 x := congrFun (hS245.2 79 (by decide)) _
                    have e313 : S235.2 79 x = S201.2 79 x := congrFun (hS235.2 79 (by decide)) _
                    have e314 : S201.2 79 x = S195.2 79 x := congrFun (hS201.2 79 (by decide)) _
                    have e315 : S195.2 79 x = S187.2 79 x := congrFun (hS195.2 79 (by decide)) _
                    have e316 : S187.2 79 x = S124.2 79 x := congrFun (hS187.2 79 (by decide)) _
                    have e317 : S124.2 79 x = S.2 79 x := congrFun (hS124.2 79 (by decide)) _
                    omega) (by
                    intro x
                    try clear hk8
                    try clear hnm
                    try clear hs0
                    try clear hw6
                    try clear c13
                    try clear k4
                    try clear k5
                    try clear hs
                    try clear htp
                    try clear fa
                    try clear fb
                    try clear fa0
                    try clear m7
                    try clear hti
                    have e318 : S251.2 80 x = S245.2 80 x := congrFun (hS251.2 80 (by decide)) _
                    have e319 : S245.2 80 x = S235.2 80 x := congrFun (hS245.2 80 (by decide)) _
                    have e320 : S235.2 80 x = S201.2 80 x := congrFun (hS235.2 80 (by decide)) _
                    have e321 : S201.2 80 x = S195.2 80 x := congrFun (hS201.2 80 (by decide)) _
                    have e322 : S195.2 80 x = S187.2 80 x := congrFun (hS195.2 80 (by decide)) _
                    have e323 : S187.2 80 x = S124.2 80 x := congrFun (hS187.2 80 (by decide)) _
                    have e324 := hS124v x
                    omega) (by
                    intro x
                    try clear hk8
                    try clear hnm
                    try clear hs0
                    try clear hw6
                    try clear c13
                    try clear k4
                    try clear k5
                    try clear hs
                    try clear htp
                    try clear fa
                    try clear fb
                    try clear fa0
                    try clear m7
                    try clear hti
                    have e325 : S251.2 81 x = S245.2 81 x := congrFun (hS251.2 81 (by decide)) _
                    have e326 : S245.2 81 x = S235.2 81 x := congrFun (hS245.2 81 (by decide)) _
                    have e327 : S235.2 81 x = S201.2 81 x := congrFun (hS235.2 81 (by decide)) _
                    have e328 : S201.2 81 x = S195.2 81 x := congrFun (hS201.2 81 (by decide)) _
                    have e329 : S195.2 81 x = S187.2 81 x := congrFun (hS195.2 81 (by decide)) _
                    have e330 : S187.2 81 x = S124.2 81 x := congrFun (hS187.2 81 (by decide)) _
                    have e331 : S124.2 81 x = S.2 81 x := congrFun (hS124.2 81 (by decide)) _
                    omega) (by
                    intro x
                    try clear hk8
                    try clear hnm
                    try clear hs0
                    try clear hw6
                    try clear c13
                    try clear k4
                    try clear k5
                    try clear hs
                    try clear htp
                    try clear fa
                    try clear fb
                    try clear fa0
                    try clear m7
                    try clear hti
                    have e332 : S251.2 82 x = S245.2 82 x := congrFun (hS251.2 82 (by decide)) _
                    have e333 : S245.2 82 x = S235.2 82 x := congrFun (hS245.2 82 (by decide)) _
                    have e334 : S235.2 82 x = S201.2 82 x := congrFun (hS235.2 82 (by decide)) _
                    have e335 : S201.2 82 x = S195.2 82 x := congrFun (hS201.2 82 (by decide)) _
                    have e336 : S195.2 82 x = S187.2 82 x := congrFun (hS195.2 82 (by decide)) _
                    have e337 : S187.2 82 x = S124.2 82 x := congrFun (hS187.2 82 (by decide)) _
                    have e338 : S124.2 82 x = S.2 82 x := congrFun (hS124.2 82 (by decide)) _
                    omega) (Or.inr (owi_top (Ch.wk (Ch.tr (Ch.tr (Ch.tr (Ch.tr (Ch.tr (Ch.tr hS124 hS187) hS195) hS201) hS235) hS245) hS251) (by decide) (by decide)) (owi_of p10 (by omega) (by omega)) (by omega) (by omega) (by omega) (by omega) (by omega) (by omega))) (Or.inl (by omega))) (EWI_step (o := (S.1 54 32 - 1)) (by omega) (Ch.wk (Ch.tr (Ch.tr (Ch.tr (Ch.tr (Ch.tr (Ch.tr hS124 hS187) hS195) hS201) hS235) hS245) hS251) (by decide) (by decide)) (by omega) p11 (by omega) (by
                    intro x
                    try clear hk8
                    try clear hnm
                    try clear hs0
                    try clear hw6
                    try clear c13
                    try clear k4
                    try clear k5
                    try clear hs
                    try clear htp
                    try clear fa
                    try clear fb
                    try clear fa0
                    try clear m7
                    try clear hti
                    have e339 : S251.2 77 x = S245.2 77 x := congrFun (hS251.2 77 (by decide)) _
                    have e340 : S245.2 77 x = S235.2 77 x := congrFun (hS245.2 77 (by decide)) _
                    have e341 : S235.2 77 x = S201.2 77 x := congrFun (hS235.2 77 (by decide)) _
                    have e342 : S201.2 77 x = S195.2 77 x := congrFun (hS201.2 77 (by decide)) _
                    have e343 : S195.2 77 x = S187.2 77 x := congrFun (hS195.2 77 (by decide)) _
                    have e344 : S187.2 77 x = S124.2 77 x := congrFun (hS187.2 77 (by decide)) _
                    have e345 : S124.2 77 x = S.2 77 x := congrFun (hS124.2 77 (by decide)) _
                    omega) (by
                    intro x
                    try clear hk8
                    try clear hnm
                    try clear hs0
                    try clear hw6
                    try clear c13
                    try clear k4
                    try clear k5
                    try clear hs
                    try clear htp
                    try clear fa
                    try clear fb
                    try clear fa0
                    try clear m7
                    try clear hti
                    have e346 : S251.2 80 x = S245.2 80 x := congrFun (hS251.2 80 (by decide)) _
                    have e347 : S245.2 80 x = S235.2 80 x := congrFun (hS245.2 80 (by decide)) _
                    have e348 : S235.2 80 x = S201.2 80 x := congrFun (hS235.2 80 (by decide)) _
                    have e349 : S201.2 80 x = S195.2 80 x := congrFun (hS201.2 80 (by decide)) _
                    have e350 : S195.2 80 x = S187.2 80 x := congrFun (hS195.2 80 (by decide)) _
                    have e351 : S187.2 80 x = S124.2 80 x := congrFun (hS187.2 80 (by decide)) _
                    have e352 := hS124v x
                    omega) (by
                    intro x
                    try clear hk8
                    try clear hnm
                    try clear hs0
                    try clear hw6
                    try clear c13
                    try clear k4
                    try clear k5
                    try clear hs
                    try clear htp
                    try clear fa
                    try clear fb
                    try clear fa0
                    try clear m7
                    try clear hti
                    have e353 : S251.2 81 x = S245.2 81 x := congrFun (hS251.2 81 (by decide)) _
                    have e354 : S245.2 81 x = S235.2 81 x := congrFun (hS245.2 81 (by decide)) _
                    have e355 : S235.2 81 x = S201.2 81 x := congrFun (hS235.2 81 (by decide)) _
                    have e356 : S201.2 81 x = S195.2 81 x := congrFun (hS201.2 81 (by decide)) _
                    have e357 : S195.2 81 x = S187.2 81 x := congrFun (hS195.2 81 (by decide)) _
                    have e358 : S187.2 81 x = S124.2 81 x := congrFun (hS187.2 81 (by decide)) _
                    have e359 : S124.2 81 x = S.2 81 x := congrFun (hS124.2 81 (by decide)) _
                    omega) (by
                    by_cases hdd : S251.1 54 39 = 3001
                    · exact Or.inl hdd
                    · first
                      | exact Or.inr (Or.inr (Or.inl ⟨by omega, by omega⟩))
                      | exact Or.inr (Or.inr (Or.inr ⟨by omega, by omega⟩))
                      | exact Or.inr (Or.inl ⟨by omega, by omega⟩))) (by
                    first
                    | exact Or.inr (Or.inr (Or.inl k1))
                    | (by_cases hdd : S251.1 54 39 = 3001
                       · exact Or.inl hdd
                       · by_cases hdf : S.1 54 39 < S251.1 54 39
                         · exact Or.inr (Or.inl hdf)
                         · exact Or.inr (Or.inr (Or.inr ⟨by omega, by omega, by omega, by omega, by omega⟩)))) (by omega) (by omega)
            · refine tX11_putWord (by omega) (fun r227 S227 hS227 n227_0 n227_1 n227_2 n227_3 => ?_)
              have e360 : S227.1 54 30 = S201.1 54 30 := hS227.1 30 (by decide)
              have e361 : S201.1 54 30 = S195.1 54 30 := hS201.1 30 (by decide)
              have e362 : S195.1 54 30 = S187.1 54 30 := hS195.1 30 (by decide)
              have e363 : S187.1 54 30 = S124.1 54 30 := hS187.1 30 (by decide)
              have e364 : S124.1 54 30 = S.1 54 30 := hS124.1 30 (by decide)
              have e365 : S227.1 54 25 = S201.1 54 25 := hS227.1 25 (by decide)
              have e366 : S201.1 54 25 = S195.1 54 25 := hS201.1 25 (by decide)
              have e367 : S195.1 54 25 = S187.1 54 25 := hS195.1 25 (by decide)
              have e368 : S227.1 54 32 = S201.1 54 32 := hS227.1 32 (by decide)
              have e369 : S201.1 54 32 = S195.1 54 32 := hS201.1 32 (by decide)
              have e370 : S195.1 54 32 = S187.1 54 32 := hS195.1 32 (by decide)
              have e371 : S187.1 54 32 = S124.1 54 32 := hS187.1 32 (by decide)
              have e372 : S124.1 54 32 = S.1 54 32 := hS124.1 32 (by decide)
              have e373 : S227.1 54 32 = S201.1 54 32 := hS227.1 32 (by decide)
              have e374 : S201.1 54 32 = S195.1 54 32 := hS201.1 32 (by decide)
              have e375 : S195.1 54 32 = S187.1 54 32 := hS195.1 32 (by decide)
              have e376 : S187.1 54 32 = S124.1 54 32 := hS187.1 32 (by decide)
              have e377 : S124.1 54 32 = S.1 54 32 := hS124.1 32 (by decide)
              have e378 : S227.2 80 ((S.1 54 32) - 1) = S201.2 80 ((S.1 54 32) - 1) := congrFun (hS227.2 80 (by decide)) _
              have e379 : S201.2 80 ((S.1 54 32) - 1) = S195.2 80 ((S.1 54 32) - 1) := congrFun (hS201.2 80 (by decide)) _
              have e380 : S195.2 80 ((S.1 54 32) - 1) = S187.2 80 ((S.1 54 32) - 1) := congrFun (hS195.2 80 (by decide)) _
              have e381 : S187.2 80 ((S.1 54 32) - 1) = S124.2 80 ((S.1 54 32) - 1) := congrFun (hS187.2 80 (by decide)) _
              have e382 : S124.2 80 ((S.1 54 32) - 1) = ((S.2 80 (((S.1 54 32 - 1))) + 1)) := by have q := hS124v ((S.1 54 32) - 1); omega
              have e383 : S227.2 77 (S.1 54 32 - 1) = S201.2 77 (S.1 54 32 - 1) := congrFun (hS227.2 77 (by decide)) _
              have e384 : S201.2 77 (S.1 54 32 - 1) = S195.2 77 (S.1 54 32 - 1) := congrFun (hS201.2 77 (by decide)) _
              have e385 : S195.2 77 (S.1 54 32 - 1) = S187.2 77 (S.1 54 32 - 1) := congrFun (hS195.2 77 (by decide)) _
              have e386 : S187.2 77 (S.1 54 32 - 1) = S124.2 77 (S.1 54 32 - 1) := congrFun (hS187.2 77 (by decide)) _
              have e387 : S124.2 77 (S.1 54 32 - 1) = S.2 77 (S.1 54 32 - 1) := congrFun (hS124.2 77 (by decide)) _
              have e388 : S227.2 78 (S.1 54 32 - 1) = S201.2 78 (S.1 54 32 - 1) := congrFun (hS227.2 78 (by decide)) _
              have e389 : S201.2 78 (S.1 54 32 - 1) = S195.2 78 (S.1 54 32 - 1) := congrFun (hS201.2 78 (by decide)) _
              have e390 : S195.2 78 (S.1 54 32 - 1) = S187.2 78 (S.1 54 32 - 1) := congrFun (hS195.2 78 (by decide)) _
              have e391 : S187.2 78 (S.1 54 32 - 1) = S124.2 78 (S.1 54 32 - 1) := congrFun (hS187.2 78 (by decide)) _
              have e392 : S124.2 78 (S.1 54 32 - 1) = S.2 78 (S.1 54 32 - 1) := congrFun (hS124.2 78 (by decide)) _
              have e393 : S227.2 79 (S.1 54 32 - 1) = S201.2 79 (S.1 54 32 - 1) := congrFun (hS227.2 79 (by decide)) _
              have e394 : S201.2 79 (S.1 54 32 - 1) = S195.2 79 (S.1 54 32 - 1) := congrFun (hS201.2 79 (by decide)) _
              have e395 : S195.2 79 (S.1 54 32 - 1) = S187.2 79 (S.1 54 32 - 1) := congrFun (hS195.2 79 (by decide)) _
              have e396 : S187.2 79 (S.1 54 32 - 1) = S124.2 79 (S.1 54 32 - 1) := congrFun (hS187.2 79 (by decide)) _
              have e397 : S124.2 79 (S.1 54 32 - 1) = S.2 79 (S.1 54 32 - 1) := congrFun (hS124.2 79 (by decide)) _
              have e398 : S227.2 80 (S.1 54 32 - 1) = S201.2 80 (S.1 54 32 - 1) := congrFun (hS227.2 80 (by decide)) _
              have e399 : S201.2 80 (S.1 54 32 - 1) = S195.2 80 (S.1 54 32 - 1) := congrFun (hS201.2 80 (by decide)) _
              have e400 : S195.2 80 (S.1 54 32 - 1) = S187.2 80 (S.1 54 32 - 1) := congrFun (hS195.2 80 (by decide)) _
              have e401 : S187.2 80 (S.1 54 32 - 1) = S124.2 80 (S.1 54 32 - 1) := congrFun (hS187.2 80 (by decide)) _
              have e402 : S124.2 80 (S.1 54 32 - 1) = ((S.2 80 (((S.1 54 32 - 1))) + 1)) := by have q := hS124v (S.1 54 32 - 1); omega
              have e403 : S227.2 81 (S.1 54 32 - 1) = S201.2 81 (S.1 54 32 - 1) := congrFun (hS227.2 81 (by decide)) _
              have e404 : S201.2 81 (S.1 54 32 - 1) = S195.2 81 (S.1 54 32 - 1) := congrFun (hS201.2 81 (by decide)) _
              have e405 : S195.2 81 (S.1 54 32 - 1) = S187.2 81 (S.1 54 32 - 1) := congrFun (hS195.2 81 (by decide)) _
              have e406 : S187.2 81 (S.1 54 32 - 1) = S124.2 81 (S.1 54 32 - 1) := congrFun (hS187.2 81 (by decide)) _
              have e407 : S124.2 81 (S.1 54 32 - 1) = S.2 81 (S.1 54 32 - 1) := congrFun (hS124.2 81 (by decide)) _
              have e408 : S227.2 82 (S.1 54 32 - 1) = S201.2 82 (S.1 54 32 - 1) := congrFun (hS227.2 82 (by decide)) _
              have e409 : S201.2 82 (S.1 54 32 - 1) = S195.2 82 (S.1 54 32 - 1) := congrFun (hS201.2 82 (by decide)) _
              have e410 : S195.2 82 (S.1 54 32 - 1) = S187.2 82 (S.1 54 32 - 1) := congrFun (hS195.2 82 (by decide)) _
              have e411 : S187.2 82 (S.1 54 32 - 1) = S124.2 82 (S.1 54 32 - 1) := congrFun (hS187.2 82 (by decide)) _
              have e412 : S124.2 82 (S.1 54 32 - 1) = S.2 82 (S.1 54 32 - 1) := congrFun (hS124.2 82 (by decide)) _
              have fb := fl_z (S := S227) (o := (S.1 54 32 - 1)) (by omega)
              have fa := fl_01 (S := S) (x := (S.1 54 32 - 1))
              have fa0 := fl_z (S := S) (o := (S.1 54 32 - 1)) (by omega)
              exact hK (1) S227 (Ch.wk (Ch.tr (Ch.tr (Ch.tr (Ch.tr hS124 hS187) hS195) hS201) hS227) (by decide) (by decide)) (by omega) (by omega) (by omega) (PW.mv n187_2 (((Ch.tr (Ch.tr hS195 hS201) hS227)).1 25 (by decide)) (((Ch.tr (Ch.tr hS195 hS201) hS227)).2 72 (by decide))) (BW.mv2 n187_3 (((Ch.tr (Ch.tr hS195 hS201) hS227)).1 25 (by decide)) (((Ch.tr (Ch.tr hS195 hS201) hS227)).2 75 (by decide))) (OWI_step (o := (S.1 54 32 - 1)) (Ch.wk (Ch.tr (Ch.tr (Ch.tr (Ch.tr hS124 hS187) hS195) hS201) hS227) (by decide) (by decide)) (by omega) (by omega) (by omega) p10 (by
                    intro x
                    try clear hk8
                    try clear hnm
                    try clear hs0
                    try clear hw6
                    try clear c13
                    try clear k4
                    try clear k5
                    try clear hs
                    try clear htp
                    try clear fa
                    try clear fb
                    try clear fa0
                    try clear m7
                    try clear hti
                    have e413 : S227.2 77 x = S201.2 77 x := congrFun (hS227.2 77 (by decide)) _
                    have e414 : S201.2 77 x = S195.2 77 x := congrFun (hS201.2 77 (by decide)) _
                    have e415 : S195.2 77 x = S187.2 77 x := congrFun (hS195.2 77 (by decide)) _
                    have e416 : S187.2 77 x = S124.2 77 x := congrFun (hS187.2 77 (by decide)) _
                    have e417 : S124.2 77 x = S.2 77 x := congrFun (hS124.2 77 (by decide)) _
                    omega) (by
                    intro x
                    try clear hk8
                    try clear hnm
                    try clear hs0
                    try clear hw6
                    try clear c13
                    try clear k4
                    try clear k5
                    try clear hs
                    try clear htp
                    try clear fa
                    try clear fb
                    try clear fa0
                    try clear m7
                    try clear hti
                    have e418 : S227.2 78 x = S201.2 78 x := congrFun (hS227.2 78 (by decide)) _
                    have e419 : S201.2 78 x = S195.2 78 x := congrFun (hS201.2 78 (by decide)) _
                    have e420 : S195.2 78 x = S187.2 78 x := congrFun (hS195.2 78 (by decide)) _
                    have e421 : S187.2 78 x = S124.2 78 x := congrFun (hS187.2 78 (by decide)) _
                    have e422 : S124.2 78 x = S.2 78 x := congrFun (hS124.2 78 (by decide)) _
                    omega) (by
                    intro x
                    try clear hk8
                    try clear hnm
                    try clear hs0
                    try clear hw6
                    try clear c13
                    try clear k4
                    try clear k5
                    try clear hs
                    try clear htp
                    try clear fa
                    try clear fb
                    try clear fa0
                    try clear m7
                    try clear hti
                    have e423 : S227.2 79 x = S201.2 79 x := congrFun (hS227.2 79 (by decide)) _
                    have e424 : S201.2 79 x = S195.2 79 x := congrFun (hS201.2 79 (by decide)) _
                    have e425 : S195.2 79 x = S187.2 79 x := congrFun (hS195.2 79 (by decide)) _
                    have e426 : S187.2 79 x = S124.2 79 x := congrFun (hS187.2 79 (by decide)) _
                    have e427 : S124.2 79 x = S.2 79 x := congrFun (hS124.2 79 (by decide)) _
                    omega) (by
                    intro x
                    try clear hk8
                    try clear hnm
                    try clear hs0
                    try clear hw6
                    try clear c13
                    try clear k4
                    try clear k5
                    try clear hs
                    try clear htp
                    try clear fa
                    try clear fb
                    try clear fa0
                    try clear m7
                    try clear hti
                    have e428 : S227.2 80 x = S201.2 80 x := congrFun (hS227.2 80 (by decide)) _
                    have e429 : S201.2 80 x = S195.2 80 x := congrFun (hS201.2 80 (by decide)) _
                    have e430 : S195.2 80 x = S187.2 80 x := congrFun (hS195.2 80 (by decide)) _
                    have e431 : S187.2 80 x = S124.2 80 x := congrFun (hS187.2 80 (by decide)) _
                    have e432 := hS124v x
                    omega) (by
                    intro x
                    try clear hk8
                    try clear hnm
                    try clear hs0
                    try clear hw6
                    try clear c13
                    try clear k4
                    try clear k5
                    try clear hs
                    try clear htp
                    try clear fa
                    try clear fb
                    try clear fa0
                    try clear m7
                    try clear hti
                    have e433 : S227.2 81 x = S201.2 81 x := congrFun (hS227.2 81 (by decide)) _
                    have e434 : S201.2 81 x = S195.2 81 x := congrFun (hS201.2 81 (by decide)) _
                    have e435 : S195.2 81 x = S187.2 81 x := congrFun (hS195.2 81 (by decide)) _
                    have e436 : S187.2 81 x = S124.2 81 x := congrFun (hS187.2 81 (by decide)) _
                    have e437 : S124.2 81 x = S.2 81 x := congrFun (hS124.2 81 (by decide)) _
                    omega) (by
                    intro x
                    try clear hk8
                    try clear hnm
                    try clear hs0
                    try clear hw6
                    try clear c13
                    try clear k4
                    try clear k5
                    try clear hs
                    try clear htp
                    try clear fa
                    try clear fb
                    try clear fa0
                    try clear m7
                    try clear hti
                    have e438 : S227.2 82 x = S201.2 82 x := congrFun (hS227.2 82 (by decide)) _
                    have e439 : S201.2 82 x = S195.2 82 x := congrFun (hS201.2 82 (by decide)) _
                    have e440 : S195.2 82 x = S187.2 82 x := congrFun (hS195.2 82 (by decide)) _
                    have e441 : S187.2 82 x = S124.2 82 x := congrFun (hS187.2 82 (by decide)) _
                    have e442 : S124.2 82 x = S.2 82 x := congrFun (hS124.2 82 (by decide)) _
                    omega) (Or.inr (owi_top (Ch.wk (Ch.tr (Ch.tr (Ch.tr (Ch.tr hS124 hS187) hS195) hS201) hS227) (by decide) (by decide)) (owi_of p10 (by omega) (by omega)) (by omega) (by omega) (by omega) (by omega) (by omega) (by omega))) (Or.inl (by omega))) (EWI_step (o := (S.1 54 32 - 1)) (by omega) (Ch.wk (Ch.tr (Ch.tr (Ch.tr (Ch.tr hS124 hS187) hS195) hS201) hS227) (by decide) (by decide)) (by omega) p11 (by omega) (by
                    intro x
                    try clear hk8
                    try clear hnm
                    try clear hs0
                    try clear hw6
                    try clear c13
                    try clear k4
                    try clear k5
                    try clear hs
                    try clear htp
                    try clear fa
                    try clear fb
                    try clear fa0
                    try clear m7
                    try clear hti
                    have e443 : S227.2 77 x = S201.2 77 x := congrFun (hS227.2 77 (by decide)) _
                    have e444 : S201.2 77 x = S195.2 77 x := congrFun (hS201.2 77 (by decide)) _
                    have e445 : S195.2 77 x = S187.2 77 x := congrFun (hS195.2 77 (by decide)) _
                    have e446 : S187.2 77 x = S124.2 77 x := congrFun (hS187.2 77 (by decide)) _
                    have e447 : S124.2 77 x = S.2 77 x := congrFun (hS124.2 77 (by decide)) _
                    omega) (by
                    intro x
                    try clear hk8
                    try clear hnm
                    try clear hs0
                    try clear hw6
                    try clear c13
                    try clear k4
                    try clear k5
                    try clear hs
                    try clear htp
                    try clear fa
                    try clear fb
                    try clear fa0
                    try clear m7
                    try clear hti
                    have e448 : S227.2 80 x = S201.2 80 x := congrFun (hS227.2 80 (by decide)) _
                    have e449 : S201.2 80 x = S195.2 80 x := congrFun (hS201.2 80 (by decide)) _
                    have e450 : S195.2 80 x = S187.2 80 x := congrFun (hS195.2 80 (by decide)) _
                    have e451 : S187.2 80 x = S124.2 80 x := congrFun (hS187.2 80 (by decide)) _
                    have e452 := hS124v x
                    omega) (by
                    intro x
                    try clear hk8
                    try clear hnm
                    try clear hs0
                    try clear hw6
                    try clear c13
                    try clear k4
                    try clear k5
                    try clear hs
                    try clear htp
                    try clear fa
                    try clear fb
                    try clear fa0
                    try clear m7
                    try clear hti
                    have e453 : S227.2 81 x = S201.2 81 x := congrFun (hS227.2 81 (by decide)) _
                    have e454 : S201.2 81 x = S195.2 81 x := congrFun (hS201.2 81 (by decide)) _
                    have e455 : S195.2 81 x = S187.2 81 x := congrFun (hS195.2 81 (by decide)) _
                    have e456 : S187.2 81 x = S124.2 81 x := congrFun (hS187.2 81 (by decide)) _
                    have e457 : S124.2 81 x = S.2 81 x := congrFun (hS124.2 81 (by decide)) _
                    omega) (by
                    by_cases hdd : S227.1 54 39 = 3001
                    · exact Or.inl hdd
                    · first
                      | exact Or.inr (Or.inr (Or.inl ⟨by omega, by omega⟩))
                      | exact Or.inr (Or.inr (Or.inr ⟨by omega, by omega⟩))
                      | exact Or.inr (Or.inl ⟨by omega, by omega⟩))) (by
                    first
                    | exact Or.inr (Or.inr (Or.inl k1))
                    | (by_cases hdd : S227.1 54 39 = 3001
                       · exact Or.inl hdd
                       · by_cases hdf : S.1 54 39 < S227.1 54 39
                         · exact Or.inr (Or.inl hdf)
                         · exact Or.inr (Or.inr (Or.inr ⟨by omega, by omega, by omega, by omega, by omega⟩)))) (by omega) (by omega)
      · have t5 := t2.resolve_left (fun h => h (by omega))
        clear t1 t2
        refine ⟨fun h140 => ?_, fun h140 => ?_⟩
        · have e458 : S124.1 54 30 = S.1 54 30 := hS124.1 30 (by decide)
          have e459 : S124.1 54 25 = S.1 54 25 := hS124.1 25 (by decide)
          have e460 : S124.1 54 32 = S.1 54 32 := hS124.1 32 (by decide)
          have e461 : S124.1 54 39 = S.1 54 39 := hS124.1 39 (by decide)
          have e462 : S124.1 54 32 = S.1 54 32 := hS124.1 32 (by decide)
          have e463 : S124.2 80 ((S.1 54 32) - 1) = ((S.2 80 (((S.1 54 32 - 1))) + 1)) := by have q := hS124v ((S.1 54 32) - 1); omega
          have e464 : S124.1 54 39 = S.1 54 39 := hS124.1 39 (by decide)
          have e465 : S124.1 54 39 = S.1 54 39 := hS124.1 39 (by decide)
          have e466 : S124.2 77 (S.1 54 32 - 1) = S.2 77 (S.1 54 32 - 1) := congrFun (hS124.2 77 (by decide)) _
          have e467 : S124.2 78 (S.1 54 32 - 1) = S.2 78 (S.1 54 32 - 1) := congrFun (hS124.2 78 (by decide)) _
          have e468 : S124.2 79 (S.1 54 32 - 1) = S.2 79 (S.1 54 32 - 1) := congrFun (hS124.2 79 (by decide)) _
          have e469 : S124.2 80 (S.1 54 32 - 1) = ((S.2 80 (((S.1 54 32 - 1))) + 1)) := by have q := hS124v (S.1 54 32 - 1); omega
          have e470 : S124.2 81 (S.1 54 32 - 1) = S.2 81 (S.1 54 32 - 1) := congrFun (hS124.2 81 (by decide)) _
          have e471 : S124.2 82 (S.1 54 32 - 1) = S.2 82 (S.1 54 32 - 1) := congrFun (hS124.2 82 (by decide)) _
          have fb := fl_z (S := S124) (o := (S.1 54 32 - 1)) (by omega)
          have fa := fl_01 (S := S) (x := (S.1 54 32 - 1))
          have fa0 := fl_z (S := S) (o := (S.1 54 32 - 1)) (by omega)
          exact hK (1) S124 (Ch.wk hS124 (by decide) (by decide)) (by omega) (by omega) (by omega) (PW.mv p5 ((hS124).1 25 (by decide)) ((hS124).2 72 (by decide))) (BW.mv2 p6 ((hS124).1 25 (by decide)) ((hS124).2 75 (by decide))) (OWI_step (o := (S.1 54 32 - 1)) (Ch.wk hS124 (by decide) (by decide)) (by omega) (by omega) (by omega) p10 (by
                intro x
                try clear hk8
                try clear hnm
                try clear hs0
                try clear hw6
                try clear c13
                try clear k4
                try clear k5
                try clear hs
                try clear htp
                try clear fa
                try clear fb
                try clear fa0
                try clear m7
                try clear hti
                have e472 : S124.2 77 x = S.2 77 x := congrFun (hS124.2 77 (by decide)) _
                omega) (by
                intro x
                try clear hk8
                try clear hnm
                try clear hs0
                try clear hw6
                try clear c13
                try clear k4
                try clear k5
                try clear hs
                try clear htp
                try clear fa
                try clear fb
                try clear fa0
                try clear m7
                try clear hti
                have e473 : S124.2 78 x = S.2 78 x := congrFun (hS124.2 78 (by decide)) _
                omega) (by
                intro x
                try clear hk8
                try clear hnm
                try clear hs0
                try clear hw6
                try clear c13
                try clear k4
                try clear k5
                try clear hs
                try clear htp
                try clear fa
                try clear fb
                try clear fa0
                try clear m7
                try clear hti
                have e474 : S124.2 79 x = S.2 79 x := congrFun (hS124.2 79 (by decide)) _
                omega) (by
                intro x
                try clear hk8
                try clear hnm
                try clear hs0
                try clear hw6
                try clear c13
                try clear k4
                try clear k5
                try clear hs
                try clear htp
                try clear fa
                try clear fb
                try clear fa0
                try clear m7
                try clear hti
                have e475 := hS124v x
                omega) (by
                intro x
                try clear hk8
                try clear hnm
                try clear hs0
                try clear hw6
                try clear c13
                try clear k4
                try clear k5
                try clear hs
                try clear htp
                try clear fa
                try clear fb
                try clear fa0
                try clear m7
                try clear hti
                have e476 : S124.2 81 x = S.2 81 x := congrFun (hS124.2 81 (by decide)) _
                omega) (by
                intro x
                try clear hk8
                try clear hnm
                try clear hs0
                try clear hw6
                try clear c13
                try clear k4
                try clear k5
                try clear hs
                try clear htp
                try clear fa
                try clear fb
                try clear fa0
                try clear m7
                try clear hti
                have e477 : S124.2 82 x = S.2 82 x := congrFun (hS124.2 82 (by decide)) _
                omega) (Or.inr (owi_top (Ch.wk hS124 (by decide) (by decide)) (owi_of p10 (by omega) (by omega)) (by omega) (by omega) (by omega) (by omega) (by omega) (by omega))) (Or.inl (by omega))) (EWI_step (o := (S.1 54 32 - 1)) (by omega) (Ch.wk hS124 (by decide) (by decide)) (by omega) p11 (by omega) (by
                intro x
                try clear hk8
                try clear hnm
                try clear hs0
                try clear hw6
                try clear c13
                try clear k4
                try clear k5
                try clear hs
                try clear htp
                try clear fa
                try clear fb
                try clear fa0
                try clear m7
                try clear hti
                have e478 : S124.2 77 x = S.2 77 x := congrFun (hS124.2 77 (by decide)) _
                omega) (by
                intro x
                try clear hk8
                try clear hnm
                try clear hs0
                try clear hw6
                try clear c13
                try clear k4
                try clear k5
                try clear hs
                try clear htp
                try clear fa
                try clear fb
                try clear fa0
                try clear m7
                try clear hti
                have e479 := hS124v x
                omega) (by
                intro x
                try clear hk8
                try clear hnm
                try clear hs0
                try clear hw6
                try clear c13
                try clear k4
                try clear k5
                try clear hs
                try clear htp
                try clear fa
                try clear fb
                try clear fa0
                try clear m7
                try clear hti
                have e480 : S124.2 81 x = S.2 81 x := congrFun (hS124.2 81 (by decide)) _
                omega) (by
                by_cases hdd : S124.1 54 39 = 3001
                · exact Or.inl hdd
                · first
                  | exact Or.inr (Or.inr (Or.inl ⟨by omega, by omega⟩))
                  | exact Or.inr (Or.inr (Or.inr ⟨by omega, by omega⟩))
                  | exact Or.inr (Or.inl ⟨by omega, by omega⟩))) (by
                first
                | exact Or.inr (Or.inr (Or.inl k1))
                | (by_cases hdd : S124.1 54 39 = 3001
                   · exact Or.inl hdd
                   · by_cases hdf : S.1 54 39 < S124.1 54 39
                     · exact Or.inr (Or.inl hdf)
                     · exact Or.inr (Or.inr (Or.inr ⟨by omega, by omega, by omega, by omega, by omega⟩)))) (by omega) (by omega)
        · refine ⟨by omega, by omega, ?_⟩
          intro q481
          have e482 : S124.2 78 (((S.1 54 32 - 1))) = S.2 78 (((S.1 54 32 - 1))) := congrFun (hS124.2 78 (by decide)) _
          refine ⟨by omega, ?_⟩
          have e483 : S124.1 54 25 = S.1 54 25 := hS124.1 25 (by decide)
          have e484 : S124.2 57 (((6 + (((4 * (S.2 68 ((S.2 77 (((S.1 54 32 - 1))))))) + (S.2 80 (((S.1 54 32 - 1))))))))) = S.2 57 (((6 + (((4 * (S.2 68 ((S.2 77 (((S.1 54 32 - 1))))))) + (S.2 80 (((S.1 54 32 - 1))))))))) := congrFun (hS124.2 57 (by decide)) _
          have e485 : S124.1 54 32 = S.1 54 32 := hS124.1 32 (by decide)
          have e486 : S124.1 54 19 = S.1 54 19 := hS124.1 19 (by decide)
          have e487 : S124.1 54 25 = S.1 54 25 := hS124.1 25 (by decide)
          have e488 : S124.1 54 30 = S.1 54 30 := hS124.1 30 (by decide)
          have e489 : S124.1 54 25 = S.1 54 25 := hS124.1 25 (by decide)
          have e490 : S124.2 67 0 = S.2 67 0 := congrFun (hS124.2 67 (by decide)) _
          have e491 : S124.1 54 39 = S.1 54 39 := hS124.1 39 (by decide)
          have e492 : S124.1 54 25 = S.1 54 25 := hS124.1 25 (by decide)
          have e493 : S124.1 54 32 = S.1 54 32 := hS124.1 32 (by decide)
          have e494 : S124.1 54 39 = S.1 54 39 := hS124.1 39 (by decide)
          have e495 : S124.1 54 25 = S.1 54 25 := hS124.1 25 (by decide)
          have e496 : S124.1 54 19 = S.1 54 19 := hS124.1 19 (by decide)
          have e497 : S124.2 56 ((S124.2 68) ((S.2 69 (((4 * (S.2 77 (((S.1 54 32 - 1))))) + (S.2 80 (((S.1 54 32 - 1))))))))) = S.2 56 ((S124.2 68) ((S.2 69 (((4 * (S.2 77 (((S.1 54 32 - 1))))) + (S.2 80 (((S.1 54 32 - 1))))))))) := congrFun (hS124.2 56 (by decide)) _
          have e498 : S124.2 68 ((S.2 69 (((4 * (S.2 77 (((S.1 54 32 - 1))))) + (S.2 80 (((S.1 54 32 - 1)))))))) = S.2 68 ((S.2 69 (((4 * (S.2 77 (((S.1 54 32 - 1))))) + (S.2 80 (((S.1 54 32 - 1)))))))) := congrFun (hS124.2 68 (by decide)) _
          have e499 : S124.1 54 39 = S.1 54 39 := hS124.1 39 (by decide)
          have e500 : S124.1 54 32 = S.1 54 32 := hS124.1 32 (by decide)
          have e501 : S124.1 54 32 = S.1 54 32 := hS124.1 32 (by decide)
          have e502 : S124.1 54 32 = S.1 54 32 := hS124.1 32 (by decide)
          have e503 : S124.1 54 32 = S.1 54 32 := hS124.1 32 (by decide)
          have e504 : S124.1 54 32 = S.1 54 32 := hS124.1 32 (by decide)
          have e505 : S124.1 54 32 = S.1 54 32 := hS124.1 32 (by decide)
          refine tX11_child (by omega) (by omega) (by omega) (by omega) (by omega) (by omega) (by omega) (by omega) (by omega) (PW.mv p5 ((hS124).1 25 (by decide)) ((hS124).2 72 (by decide))) (BW.mv2 p6 ((hS124).1 25 (by decide)) ((hS124).2 75 (by decide))) (OK0.mv p7  ((hS124).2 59 (by decide)) ((hS124).2 67 (by decide)) ((hS124).2 68 (by decide)) ((hS124).2 69 (by decide))) (by omega) (by omega) (fun r156 S156 hS156 n156_0 n156_1 n156_2 n156_3 n156_4 n156_5 n156_6 n156_7 n156_8 n156_9 n156_10 n156_11 n156_12 => ?_)
          refine ⟨by omega, ?_⟩
          refine ⟨fun h159 => ?_, fun h159 => ?_⟩
          · first | have e506 : S156.2 80 ((S.1 54 32) - 1) = S124.2 80 ((S.1 54 32) - 1) := by have q := n156_9 ((S.1 54 32) - 1); omega | have e506 := n156_9 ((S.1 54 32) - 1)
            have e507 : S124.2 80 ((S.1 54 32) - 1) = ((S.2 80 (((S.1 54 32 - 1))) + 1)) := by have q := hS124v ((S.1 54 32) - 1); omega
            first | have e508 : S156.2 77 (S.1 54 32 - 1) = S124.2 77 (S.1 54 32 - 1) := by have q := n156_6 (S.1 54 32 - 1); omega | have e508 := n156_6 (S.1 54 32 - 1)
            have e509 : S124.2 77 (S.1 54 32 - 1) = S.2 77 (S.1 54 32 - 1) := congrFun (hS124.2 77 (by decide)) _
            first | have e510 : S156.2 78 (S.1 54 32 - 1) = S124.2 78 (S.1 54 32 - 1) := by have q := n156_7 (S.1 54 32 - 1); omega | have e510 := n156_7 (S.1 54 32 - 1)
            have e511 : S124.2 78 (S.1 54 32 - 1) = S.2 78 (S.1 54 32 - 1) := congrFun (hS124.2 78 (by decide)) _
            first | have e512 : S156.2 79 (S.1 54 32 - 1) = S124.2 79 (S.1 54 32 - 1) := by have q := n156_8 (S.1 54 32 - 1); omega | have e512 := n156_8 (S.1 54 32 - 1)
            have e513 : S124.2 79 (S.1 54 32 - 1) = S.2 79 (S.1 54 32 - 1) := congrFun (hS124.2 79 (by decide)) _
            first | have e514 : S156.2 80 (S.1 54 32 - 1) = S124.2 80 (S.1 54 32 - 1) := by have q := n156_9 (S.1 54 32 - 1); omega | have e514 := n156_9 (S.1 54 32 - 1)
            have e515 : S124.2 80 (S.1 54 32 - 1) = ((S.2 80 (((S.1 54 32 - 1))) + 1)) := by have q := hS124v (S.1 54 32 - 1); omega
            first | have e516 : S156.2 81 (S.1 54 32 - 1) = S124.2 81 (S.1 54 32 - 1) := by have q := n156_10 (S.1 54 32 - 1); omega | have e516 := n156_10 (S.1 54 32 - 1)
            have e517 : S124.2 81 (S.1 54 32 - 1) = S.2 81 (S.1 54 32 - 1) := congrFun (hS124.2 81 (by decide)) _
            first | have e518 : S156.2 82 (S.1 54 32 - 1) = S124.2 82 (S.1 54 32 - 1) := by have q := n156_11 (S.1 54 32 - 1); omega | have e518 := n156_11 (S.1 54 32 - 1)
            have e519 : S124.2 82 (S.1 54 32 - 1) = S.2 82 (S.1 54 32 - 1) := congrFun (hS124.2 82 (by decide)) _
            have hop : S124.1 54 32 = (S.1 54 32 - 1) + 1 := by omega
            rw [hop] at n156_4
            rcases n156_4 with ⟨k1, k2, k3, k4⟩ | ⟨k1, k2, k3, k4⟩ | ⟨k1, k2, k3, k4, k5, ⟨m1, m2, m3, m4, m5, m6⟩, m7⟩
            all_goals have fb := fl_z (S := S156) (o := (S.1 54 32 - 1)) (by omega)
            all_goals have fa := fl_01 (S := S) (x := (S.1 54 32 - 1))
            all_goals have fa0 := fl_z (S := S) (o := (S.1 54 32 - 1)) (by omega)
            all_goals exact hK (0) S156 (Ch.wk (Ch.tr hS124 hS156) (by decide) (by decide)) (by omega) (by omega) (by omega) n156_2 n156_3 (OWI_step (o := (S.1 54 32 - 1)) (Ch.wk (Ch.tr hS124 hS156) (by decide) (by decide)) (by omega) (by omega) (by omega) p10 (by
                  intro x
                  try clear hk8
                  try clear hnm
                  try clear hs0
                  try clear hw6
                  try clear c13
                  try clear k4
                  try clear k5
                  try clear hs
                  try clear htp
                  try clear fa
                  try clear fb
                  try clear fa0
                  try clear m7
                  try clear hti
                  have e520 := n156_6 x
                  have e521 : S124.2 77 x = S.2 77 x := congrFun (hS124.2 77 (by decide)) _
                  omega) (by
                  intro x
                  try clear hk8
                  try clear hnm
                  try clear hs0
                  try clear hw6
                  try clear c13
                  try clear k4
                  try clear k5
                  try clear hs
                  try clear htp
                  try clear fa
                  try clear fb
                  try clear fa0
                  try clear m7
                  try clear hti
                  have e522 := n156_7 x
                  have e523 : S124.2 78 x = S.2 78 x := congrFun (hS124.2 78 (by decide)) _
                  omega) (by
                  intro x
                  try clear hk8
                  try clear hnm
                  try clear hs0
                  try clear hw6
                  try clear c13
                  try clear k4
                  try clear k5
                  try clear hs
                  try clear htp
                  try clear fa
                  try clear fb
                  try clear fa0
                  try clear m7
                  try clear hti
                  have e524 := n156_8 x
                  have e525 : S124.2 79 x = S.2 79 x := congrFun (hS124.2 79 (by decide)) _
                  omega) (by
                  intro x
                  try clear hk8
                  try clear hnm
                  try clear hs0
                  try clear hw6
                  try clear c13
                  try clear k4
                  try clear k5
                  try clear hs
                  try clear htp
                  try clear fa
                  try clear fb
                  try clear fa0
                  try clear m7
                  try clear hti
                  have e526 := n156_9 x
                  have e527 := hS124v x
                  omega) (by
                  intro x
                  try clear hk8
                  try clear hnm
                  try clear hs0
                  try clear hw6
                  try clear c13
                  try clear k4
                  try clear k5
                  try clear hs
                  try clear htp
                  try clear fa
                  try clear fb
                  try clear fa0
                  try clear m7
                  try clear hti
                  have e528 := n156_10 x
                  have e529 : S124.2 81 x = S.2 81 x := congrFun (hS124.2 81 (by decide)) _
                  omega) (by
                  intro x
                  try clear hk8
                  try clear hnm
                  try clear hs0
                  try clear hw6
                  try clear c13
                  try clear k4
                  try clear k5
                  try clear hs
                  try clear htp
                  try clear fa
                  try clear fb
                  try clear fa0
                  try clear m7
                  try clear hti
                  have e530 := n156_11 x
                  have e531 : S124.2 82 x = S.2 82 x := congrFun (hS124.2 82 (by decide)) _
                  omega) (Or.inr (owi_top (Ch.wk (Ch.tr hS124 hS156) (by decide) (by decide)) (owi_of p10 (by omega) (by omega)) (by omega) (by omega) (by omega) (by omega) (by omega) (by omega))) (by
                  first
                  | exact Or.inl (by omega)
                  | (refine Or.inr (owi_new (Ch.wk (Ch.tr hS124 hS156) (by decide) (by decide)) (by omega) (by omega) ?_ (by omega) ?_ (by omega) (by omega) (by omega))
                     · rw [m3]
                       omega
                     · rw [m1]
                       have hs2 := m7
                       rw [(show S124.2 56 = S.2 56 from (hS124).2 56 (by decide)), (show S124.2 68 = S.2 68 from (hS124).2 68 (by decide))] at hs2
                       exact hs2))) (EWI_step (o := (S.1 54 32 - 1)) (by omega) (Ch.wk (Ch.tr hS124 hS156) (by decide) (by decide)) (by omega) p11 (by omega) (by
                  intro x
                  try clear hk8
                  try clear hnm
                  try clear hs0
                  try clear hw6
                  try clear c13
                  try clear k4
                  try clear k5
                  try clear hs
                  try clear htp
                  try clear fa
                  try clear fb
                  try clear fa0
                  try clear m7
                  try clear hti
                  have e532 := n156_6 x
                  have e533 : S124.2 77 x = S.2 77 x := congrFun (hS124.2 77 (by decide)) _
                  omega) (by
                  intro x
                  try clear hk8
                  try clear hnm
                  try clear hs0
                  try clear hw6
                  try clear c13
                  try clear k4
                  try clear k5
                  try clear hs
                  try clear htp
                  try clear fa
                  try clear fb
                  try clear fa0
                  try clear m7
                  try clear hti
                  have e534 := n156_9 x
                  have e535 := hS124v x
                  omega) (by
                  intro x
                  try clear hk8
                  try clear hnm
                  try clear hs0
                  try clear hw6
                  try clear c13
                  try clear k4
                  try clear k5
                  try clear hs
                  try clear htp
                  try clear fa
                  try clear fb
                  try clear fa0
                  try clear m7
                  try clear hti
                  have e536 := n156_10 x
                  have e537 : S124.2 81 x = S.2 81 x := congrFun (hS124.2 81 (by decide)) _
                  omega) (by
                  by_cases hdd : S156.1 54 39 = 3001
                  · exact Or.inl hdd
                  · first
                    | exact Or.inr (Or.inr (Or.inl ⟨by omega, by omega⟩))
                    | exact Or.inr (Or.inr (Or.inr ⟨by omega, by omega⟩))
                    | exact Or.inr (Or.inl ⟨by omega, by omega⟩))) (by
                  first
                  | exact Or.inr (Or.inr (Or.inl k1))
                  | (by_cases hdd : S156.1 54 39 = 3001
                     · exact Or.inl hdd
                     · by_cases hdf : S.1 54 39 < S156.1 54 39
                       · exact Or.inr (Or.inl hdf)
                       · exact Or.inr (Or.inr (Or.inr ⟨by omega, by omega, by omega, by omega, by omega⟩)))) (by omega) (by omega)
          · first | have e538 : S156.2 80 ((S.1 54 32) - 1) = S124.2 80 ((S.1 54 32) - 1) := by have q := n156_9 ((S.1 54 32) - 1); omega | have e538 := n156_9 ((S.1 54 32) - 1)
            have e539 : S124.2 80 ((S.1 54 32) - 1) = ((S.2 80 (((S.1 54 32 - 1))) + 1)) := by have q := hS124v ((S.1 54 32) - 1); omega
            first | have e540 : S156.2 77 (S.1 54 32 - 1) = S124.2 77 (S.1 54 32 - 1) := by have q := n156_6 (S.1 54 32 - 1); omega | have e540 := n156_6 (S.1 54 32 - 1)
            have e541 : S124.2 77 (S.1 54 32 - 1) = S.2 77 (S.1 54 32 - 1) := congrFun (hS124.2 77 (by decide)) _
            first | have e542 : S156.2 78 (S.1 54 32 - 1) = S124.2 78 (S.1 54 32 - 1) := by have q := n156_7 (S.1 54 32 - 1); omega | have e542 := n156_7 (S.1 54 32 - 1)
            have e543 : S124.2 78 (S.1 54 32 - 1) = S.2 78 (S.1 54 32 - 1) := congrFun (hS124.2 78 (by decide)) _
            first | have e544 : S156.2 79 (S.1 54 32 - 1) = S124.2 79 (S.1 54 32 - 1) := by have q := n156_8 (S.1 54 32 - 1); omega | have e544 := n156_8 (S.1 54 32 - 1)
            have e545 : S124.2 79 (S.1 54 32 - 1) = S.2 79 (S.1 54 32 - 1) := congrFun (hS124.2 79 (by decide)) _
            first | have e546 : S156.2 80 (S.1 54 32 - 1) = S124.2 80 (S.1 54 32 - 1) := by have q := n156_9 (S.1 54 32 - 1); omega | have e546 := n156_9 (S.1 54 32 - 1)
            have e547 : S124.2 80 (S.1 54 32 - 1) = ((S.2 80 (((S.1 54 32 - 1))) + 1)) := by have q := hS124v (S.1 54 32 - 1); omega
            first | have e548 : S156.2 81 (S.1 54 32 - 1) = S124.2 81 (S.1 54 32 - 1) := by have q := n156_10 (S.1 54 32 - 1); omega | have e548 := n156_10 (S.1 54 32 - 1)
            have e549 : S124.2 81 (S.1 54 32 - 1) = S.2 81 (S.1 54 32 - 1) := congrFun (hS124.2 81 (by decide)) _
            first | have e550 : S156.2 82 (S.1 54 32 - 1) = S124.2 82 (S.1 54 32 - 1) := by have q := n156_11 (S.1 54 32 - 1); omega | have e550 := n156_11 (S.1 54 32 - 1)
            have e551 : S124.2 82 (S.1 54 32 - 1) = S.2 82 (S.1 54 32 - 1) := congrFun (hS124.2 82 (by decide)) _
            have hop : S124.1 54 32 = (S.1 54 32 - 1) + 1 := by omega
            rw [hop] at n156_4
            rcases n156_4 with ⟨k1, k2, k3, k4⟩ | ⟨k1, k2, k3, k4⟩ | ⟨k1, k2, k3, k4, k5, ⟨m1, m2, m3, m4, m5, m6⟩, m7⟩
            all_goals have fb := fl_z (S := S156) (o := (S.1 54 32 - 1)) (by omega)
            all_goals have fa := fl_01 (S := S) (x := (S.1 54 32 - 1))
            all_goals have fa0 := fl_z (S := S) (o := (S.1 54 32 - 1)) (by omega)
            all_goals exact hK (1) S156 (Ch.wk (Ch.tr hS124 hS156) (by decide) (by decide)) (by omega) (by omega) (by omega) n156_2 n156_3 (OWI_step (o := (S.1 54 32 - 1)) (Ch.wk (Ch.tr hS124 hS156) (by decide) (by decide)) (by omega) (by omega) (by omega) p10 (by
                  intro x
                  try clear hk8
                  try clear hnm
                  try clear hs0
                  try clear hw6
                  try clear c13
                  try clear k4
                  try clear k5
                  try clear hs
                  try clear htp
                  try clear fa
                  try clear fb
                  try clear fa0
                  try clear m7
                  try clear hti
                  have e552 := n156_6 x
                  have e553 : S124.2 77 x = S.2 77 x := congrFun (hS124.2 77 (by decide)) _
                  omega) (by
                  intro x
                  try clear hk8
                  try clear hnm
                  try clear hs0
                  try clear hw6
                  try clear c13
                  try clear k4
                  try clear k5
                  try clear hs
                  try clear htp
                  try clear fa
                  try clear fb
                  try clear fa0
                  try clear m7
                  try clear hti
                  have e554 := n156_7 x
                  have e555 : S124.2 78 x = S.2 78 x := congrFun (hS124.2 78 (by decide)) _
                  omega) (by
                  intro x
                  try clear hk8
                  try clear hnm
                  try clear hs0
                  try clear hw6
                  try clear c13
                  try clear k4
                  try clear k5
                  try clear hs
                  try clear htp
                  try clear fa
                  try clear fb
                  try clear fa0
                  try clear m7
                  try clear hti
                  have e556 := n156_8 x
                  have e557 : S124.2 79 x = S.2 79 x := congrFun (hS124.2 79 (by decide)) _
                  omega) (by
                  intro x
                  try clear hk8
                  try clear hnm
                  try clear hs0
                  try clear hw6
                  try clear c13
                  try clear k4
                  try clear k5
                  try clear hs
                  try clear htp
                  try clear fa
                  try clear fb
                  try clear fa0
                  try clear m7
                  try clear hti
                  have e558 := n156_9 x
                  have e559 := hS124v x
                  omega) (by
                  intro x
                  try clear hk8
                  try clear hnm
                  try clear hs0
                  try clear hw6
                  try clear c13
                  try clear k4
                  try clear k5
                  try clear hs
                  try clear htp
                  try clear fa
                  try clear fb
                  try clear fa0
                  try clear m7
                  try clear hti
                  have e560 := n156_10 x
                  have e561 : S124.2 81 x = S.2 81 x := congrFun (hS124.2 81 (by decide)) _
                  omega) (by
                  intro x
                  try clear hk8
                  try clear hnm
                  try clear hs0
                  try clear hw6
                  try clear c13
                  try clear k4
                  try clear k5
                  try clear hs
                  try clear htp
                  try clear fa
                  try clear fb
                  try clear fa0
                  try clear m7
                  try clear hti
                  have e562 := n156_11 x
                  have e563 : S124.2 82 x = S.2 82 x := congrFun (hS124.2 82 (by decide)) _
                  omega) (Or.inr (owi_top (Ch.wk (Ch.tr hS124 hS156) (by decide) (by decide)) (owi_of p10 (by omega) (by omega)) (by omega) (by omega) (by omega) (by omega) (by omega) (by omega))) (by
                  first
                  | exact Or.inl (by omega)
                  | (refine Or.inr (owi_new (Ch.wk (Ch.tr hS124 hS156) (by decide) (by decide)) (by omega) (by omega) ?_ (by omega) ?_ (by omega) (by omega) (by omega))
                     · rw [m3]
                       omega
                     · rw [m1]
                       have hs2 := m7
                       rw [(show S124.2 56 = S.2 56 from (hS124).2 56 (by decide)), (show S124.2 68 = S.2 68 from (hS124).2 68 (by decide))] at hs2
                       exact hs2))) (EWI_step (o := (S.1 54 32 - 1)) (by omega) (Ch.wk (Ch.tr hS124 hS156) (by decide) (by decide)) (by omega) p11 (by omega) (by
                  intro x
                  try clear hk8
                  try clear hnm
                  try clear hs0
                  try clear hw6
                  try clear c13
                  try clear k4
                  try clear k5
                  try clear hs
                  try clear htp
                  try clear fa
                  try clear fb
                  try clear fa0
                  try clear m7
                  try clear hti
                  have e564 := n156_6 x
                  have e565 : S124.2 77 x = S.2 77 x := congrFun (hS124.2 77 (by decide)) _
                  omega) (by
                  intro x
                  try clear hk8
                  try clear hnm
                  try clear hs0
                  try clear hw6
                  try clear c13
                  try clear k4
                  try clear k5
                  try clear hs
                  try clear htp
                  try clear fa
                  try clear fb
                  try clear fa0
                  try clear m7
                  try clear hti
                  have e566 := n156_9 x
                  have e567 := hS124v x
                  omega) (by
                  intro x
                  try clear hk8
                  try clear hnm
                  try clear hs0
                  try clear hw6
                  try clear c13
                  try clear k4
                  try clear k5
                  try clear hs
                  try clear htp
                  try clear fa
                  try clear fb
                  try clear fa0
                  try clear m7
                  try clear hti
                  have e568 := n156_10 x
                  have e569 : S124.2 81 x = S.2 81 x := congrFun (hS124.2 81 (by decide)) _
                  omega) (by
                  by_cases hdd : S156.1 54 39 = 3001
                  · exact Or.inl hdd
                  · first
                    | exact Or.inr (Or.inr (Or.inl ⟨by omega, by omega⟩))
                    | exact Or.inr (Or.inr (Or.inr ⟨by omega, by omega⟩))
                    | exact Or.inr (Or.inl ⟨by omega, by omega⟩))) (by
                  first
                  | exact Or.inr (Or.inr (Or.inl k1))
                  | (by_cases hdd : S156.1 54 39 = 3001
                     · exact Or.inl hdd
                     · by_cases hdf : S.1 54 39 < S156.1 54 39
                       · exact Or.inr (Or.inl hdf)
                       · exact Or.inr (Or.inr (Or.inr ⟨by omega, by omega, by omega, by omega, by omega⟩)))) (by omega) (by omega)
    · have t4 := t3.resolve_left (fun h => h (by omega))
      clear t1 t2 t3
      refine ⟨by omega, ?_⟩
      refine ⟨by omega, ?_⟩
      refine tX11_lists (by omega) (by omega) (by omega) (by omega) (by omega) (by omega) (by omega) (by omega) (by omega) (p5) (p6) (p7) (p8) (p9) (p10) (p11) (by omega) (by omega) (by omega) (by omega) (by omega) (by omega) (by omega) (by omega) (fun r111 S111 hS111 n111_0 n111_1 n111_2 n111_3 n111_4 n111_5 n111_6 n111_7 n111_8 n111_9 => ?_)
      refine ⟨by omega, ?_⟩
      exact hK (r111) S111 (Ch.wk hS111 (by decide) (by decide)) (by omega) (n111_1) (n111_2) n111_3 n111_4 n111_5 n111_6 n111_7 (by omega) (by omega)
  · refine ⟨by omega, ?_⟩
    intro S49 hS49e
    have hS49 : Ch [32] [] S S49 := Ch_I hS49e
    have hS49v : S49.1 54 32 = (S.1 54 32 - 1) := pI_at hS49e
    refine ⟨by omega, by omega, ?_⟩
    intro q570
    have e571 : S49.2 79 (((S.1 54 32 - 1))) = S.2 79 (((S.1 54 32 - 1))) := congrFun (hS49.2 79 (by decide)) _
    have hsz : 1 ≤ S.2 57 (S49.2 79 (S.1 54 32 - 1)) := by
      rw [(show S49.2 79 = S.2 79 from (hS49).2 79 (by decide))]
      omega
    have e572 : S49.1 54 39 = S.1 54 39 := hS49.1 39 (by decide)
    have e573 : S49.1 54 39 = S.1 54 39 := hS49.1 39 (by decide)
    have e574 : S49.1 54 39 = S.1 54 39 := hS49.1 39 (by decide)
    have e575 : S49.2 57 (S49.2 79 (((S.1 54 32 - 1)))) = S.2 57 (S49.2 79 (((S.1 54 32 - 1)))) := congrFun (hS49.2 57 (by decide)) _
    have e576 : S49.1 54 39 = S.1 54 39 := hS49.1 39 (by decide)
    refine tX11_end (by omega) (by omega) (fun r59 S59 hS59 n59_0 n59_1 n59_2 n59_3 => ?_)
    have e577 : S59.1 54 30 = S49.1 54 30 := hS59.1 30 (by decide)
    have e578 : S49.1 54 30 = S.1 54 30 := hS49.1 30 (by decide)
    have e579 : S59.1 54 25 = S49.1 54 25 := hS59.1 25 (by decide)
    have e580 : S49.1 54 25 = S.1 54 25 := hS49.1 25 (by decide)
    have e581 : S59.1 54 32 = S49.1 54 32 := hS59.1 32 (by decide)
    have e582 : S59.1 54 32 = S49.1 54 32 := hS59.1 32 (by decide)
    have e583 : S59.2 80 ((S.1 54 32) - 1) = S49.2 80 ((S.1 54 32) - 1) := congrFun (hS59.2 80 (by decide)) _
    have e584 : S49.2 80 ((S.1 54 32) - 1) = S.2 80 ((S.1 54 32) - 1) := congrFun (hS49.2 80 (by decide)) _
    have e585 : S59.2 77 (S.1 54 32 - 1) = S49.2 77 (S.1 54 32 - 1) := congrFun (hS59.2 77 (by decide)) _
    have e586 : S49.2 77 (S.1 54 32 - 1) = S.2 77 (S.1 54 32 - 1) := congrFun (hS49.2 77 (by decide)) _
    have e587 : S59.2 78 (S.1 54 32 - 1) = S49.2 78 (S.1 54 32 - 1) := congrFun (hS59.2 78 (by decide)) _
    have e588 : S49.2 78 (S.1 54 32 - 1) = S.2 78 (S.1 54 32 - 1) := congrFun (hS49.2 78 (by decide)) _
    have e589 : S59.2 79 (S.1 54 32 - 1) = S49.2 79 (S.1 54 32 - 1) := congrFun (hS59.2 79 (by decide)) _
    have e590 : S49.2 79 (S.1 54 32 - 1) = S.2 79 (S.1 54 32 - 1) := congrFun (hS49.2 79 (by decide)) _
    have e591 : S59.2 80 (S.1 54 32 - 1) = S49.2 80 (S.1 54 32 - 1) := congrFun (hS59.2 80 (by decide)) _
    have e592 : S49.2 80 (S.1 54 32 - 1) = S.2 80 (S.1 54 32 - 1) := congrFun (hS49.2 80 (by decide)) _
    have e593 : S59.2 81 (S.1 54 32 - 1) = S49.2 81 (S.1 54 32 - 1) := congrFun (hS59.2 81 (by decide)) _
    have e594 : S49.2 81 (S.1 54 32 - 1) = S.2 81 (S.1 54 32 - 1) := congrFun (hS49.2 81 (by decide)) _
    have e595 : S59.2 82 (S.1 54 32 - 1) = S49.2 82 (S.1 54 32 - 1) := congrFun (hS59.2 82 (by decide)) _
    have e596 : S49.2 82 (S.1 54 32 - 1) = S.2 82 (S.1 54 32 - 1) := congrFun (hS49.2 82 (by decide)) _
    have fa := fl_01 (S := S) (x := (S.1 54 32 - 1))
    exact hK (1) S59 (Ch.wk (Ch.tr hS49 hS59) (by decide) (by decide)) (by omega) (by omega) (by omega) (PW.mv p5 (((Ch.tr hS49 hS59)).1 25 (by decide)) (((Ch.tr hS49 hS59)).2 72 (by decide))) (BW.mv2 p6 (((Ch.tr hS49 hS59)).1 25 (by decide)) (((Ch.tr hS49 hS59)).2 75 (by decide))) (OWI_step (o := (S.1 54 32 - 1)) (Ch.wk (Ch.tr hS49 hS59) (by decide) (by decide)) (by omega) (by omega) (by omega) p10 (by
          intro x
          try clear hk8
          try clear hnm
          try clear hs0
          try clear hw6
          try clear c13
          try clear k4
          try clear k5
          try clear hs
          try clear htp
          try clear fa
          try clear fb
          try clear fa0
          try clear m7
          try clear hti
          have e597 : S59.2 77 x = S49.2 77 x := congrFun (hS59.2 77 (by decide)) _
          have e598 : S49.2 77 x = S.2 77 x := congrFun (hS49.2 77 (by decide)) _
          omega) (by
          intro x
          try clear hk8
          try clear hnm
          try clear hs0
          try clear hw6
          try clear c13
          try clear k4
          try clear k5
          try clear hs
          try clear htp
          try clear fa
          try clear fb
          try clear fa0
          try clear m7
          try clear hti
          have e599 : S59.2 78 x = S49.2 78 x := congrFun (hS59.2 78 (by decide)) _
          have e600 : S49.2 78 x = S.2 78 x := congrFun (hS49.2 78 (by decide)) _
          omega) (by
          intro x
          try clear hk8
          try clear hnm
          try clear hs0
          try clear hw6
          try clear c13
          try clear k4
          try clear k5
          try clear hs
          try clear htp
          try clear fa
          try clear fb
          try clear fa0
          try clear m7
          try clear hti
          have e601 : S59.2 79 x = S49.2 79 x := congrFun (hS59.2 79 (by decide)) _
          have e602 : S49.2 79 x = S.2 79 x := congrFun (hS49.2 79 (by decide)) _
          omega) (by
          intro x
          try clear hk8
          try clear hnm
          try clear hs0
          try clear hw6
          try clear c13
          try clear k4
          try clear k5
          try clear hs
          try clear htp
          try clear fa
          try clear fb
          try clear fa0
          try clear m7
          try clear hti
          have e603 : S59.2 80 x = S49.2 80 x := congrFun (hS59.2 80 (by decide)) _
          have e604 : S49.2 80 x = S.2 80 x := congrFun (hS49.2 80 (by decide)) _
          omega) (by
          intro x
          try clear hk8
          try clear hnm
          try clear hs0
          try clear hw6
          try clear c13
          try clear k4
          try clear k5
          try clear hs
          try clear htp
          try clear fa
          try clear fb
          try clear fa0
          try clear m7
          try clear hti
          have e605 : S59.2 81 x = S49.2 81 x := congrFun (hS59.2 81 (by decide)) _
          have e606 : S49.2 81 x = S.2 81 x := congrFun (hS49.2 81 (by decide)) _
          omega) (by
          intro x
          try clear hk8
          try clear hnm
          try clear hs0
          try clear hw6
          try clear c13
          try clear k4
          try clear k5
          try clear hs
          try clear htp
          try clear fa
          try clear fb
          try clear fa0
          try clear m7
          try clear hti
          have e607 : S59.2 82 x = S49.2 82 x := congrFun (hS59.2 82 (by decide)) _
          have e608 : S49.2 82 x = S.2 82 x := congrFun (hS49.2 82 (by decide)) _
          omega) (Or.inl (by omega)) (Or.inl (by omega))) (EWI_step (o := (S.1 54 32 - 1)) (by omega) (Ch.wk (Ch.tr hS49 hS59) (by decide) (by decide)) (by omega) p11 (by omega) (by
          intro x
          try clear hk8
          try clear hnm
          try clear hs0
          try clear hw6
          try clear c13
          try clear k4
          try clear k5
          try clear hs
          try clear htp
          try clear fa
          try clear fb
          try clear fa0
          try clear m7
          try clear hti
          have e609 : S59.2 77 x = S49.2 77 x := congrFun (hS59.2 77 (by decide)) _
          have e610 : S49.2 77 x = S.2 77 x := congrFun (hS49.2 77 (by decide)) _
          omega) (by
          intro x
          try clear hk8
          try clear hnm
          try clear hs0
          try clear hw6
          try clear c13
          try clear k4
          try clear k5
          try clear hs
          try clear htp
          try clear fa
          try clear fb
          try clear fa0
          try clear m7
          try clear hti
          have e611 : S59.2 80 x = S49.2 80 x := congrFun (hS59.2 80 (by decide)) _
          have e612 : S49.2 80 x = S.2 80 x := congrFun (hS49.2 80 (by decide)) _
          omega) (by
          intro x
          try clear hk8
          try clear hnm
          try clear hs0
          try clear hw6
          try clear c13
          try clear k4
          try clear k5
          try clear hs
          try clear htp
          try clear fa
          try clear fb
          try clear fa0
          try clear m7
          try clear hti
          have e613 : S59.2 81 x = S49.2 81 x := congrFun (hS59.2 81 (by decide)) _
          have e614 : S49.2 81 x = S.2 81 x := congrFun (hS49.2 81 (by decide)) _
          omega) (by
          by_cases hdd : S59.1 54 39 = 3001
          · exact Or.inl hdd
          · first
            | exact Or.inr (Or.inr (Or.inl ⟨by omega, by omega⟩))
            | exact Or.inr (Or.inr (Or.inr ⟨by omega, by omega⟩))
            | exact Or.inr (Or.inl ⟨by omega, by omega⟩))) (by
          first
          | exact Or.inr (Or.inr (Or.inl k1))
          | (by_cases hdd : S59.1 54 39 = 3001
             · exact Or.inl hdd
             · by_cases hdf : S.1 54 39 < S59.1 54 39
               · exact Or.inr (Or.inl hdf)
               · exact Or.inr (Or.inr (Or.inr ⟨by omega, by omega, by omega, by omega, by omega⟩)))) (by omega) (by omega)
