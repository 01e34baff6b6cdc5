set_option maxRecDepth 100000 in
set_option maxHeartbeats 4000000 in
theorem tX11_lists_74 {a1 a2 a3 a4 l1 l2 l3 l4 l5 l6 : Int} {S S1c : St} {K : Int → St → Prop} (g1 : rng a1) (g2 : rng a2) (g3 : rng a3) (g4 : rng a4) (p1 : a1 = (S.1 54 32) - 1) (p2 : 0 ≤ a1) (p3 : a2 = 4 * (S.2 68) ((S.2 77) a1) + (S.2 80) a1) (p4 : (S.2 80) a1 + 1 ≤ (S.2 56) ((S.2 68) ((S.2 77) a1))) (p5 : (S.2 59) a2 = 3) (p6 : a3 = (S.2 69) (4 * (S.2 77) a1 + (S.2 80) a1)) (p7 : (S.1 54 39) ≤ 3000) (p8 : (S.1 54 30) ≤ (S.1 54 25)) (p9 : (S.1 54 32) ≤ (S.1 54 19)) (p10 : PW S) (p11 : BW S) (p12 : OK0 S) (p13 : OL0 S) (p14 : NMS S) (p15 : OWI S) (p16 : EWI S) (p17 : iv 0 29 ((S.2 77) a1)) (p18 : iv 0 4 ((S.2 80) a1)) (p19 : (S.1 54 32) ≤ 20) (p20 : iv 0 5 ((S.2 68) ((S.2 77) a1))) (p21 : (S.2 56) ((S.2 68) ((S.2 77) a1)) ≤ 4) (p22 : iv 1 20 (S.1 54 19)) (p23 : (S.2 67) 0 ≤ 30) (p24 : (S.1 54 39) ≤ 3001) (hS1c : Ch [25, 39] [72, 73, 74, 82, 83] S S1c) (c1 : a1 = l1) (c2 : a2 = l2) (c3 : a3 = l3) (c4 : a4 = l4) (c5 : 6 + a2 = l5) (c6 : (S.2 81) a1 = l6) (c7 : (S.1 54 25) ≤ (S1c.1 54 25)) (c8 : (S1c.1 54 25) ≤ (S.1 54 25) + 1) (c9 : PW S1c) (c10 : BW S1c) (c11 : ∀ x, x = a1 ∨ (S1c.2 82) x = (S.2 82) x) (c12 : (S1c.2 82) a1 < (S1c.1 54 25)) (c13 : ((S1c.1 54 25) = (S.1 54 25) ∧ (S1c.1 54 39) = (S.1 54 39) ∧ (¬ l6 = 0 ∨ ¬ (S.2 60) a2 = 0)) ∨ ((S1c.1 54 25) = (S.1 54 25) + 1 ∧ l6 = 0 ∧ (S.2 60) a2 = 0 ∧ ((S1c.1 54 39) = 3001 ∨ (a3 = 0 ∧ (S.1 54 39) + 4 ≤ (S1c.1 54 39)) ∨ (¬ a3 = 0 ∧ (S.1 54 39) + 3 ≤ (S1c.1 54 39))))) (c14 : (S.1 54 39) ≤ (S1c.1 54 39)) (c15 : iv 0 8 ((S.2 81) a1)) (c16 : (S1c.1 54 39) ≤ 3001) (hK : ∀ (r : Int) (S' : St), Ch [25, 30, 32, 39] [72, 73, 74, 75, 76, 77, 78, 79, 80, 81, 82, 83] S S' → (iv 0 1 r) → ((S'.1 54 30) ≤ (S'.1 54 25)) → ((S'.1 54 32) ≤ (S.1 54 19)) → (PW S') → (BW S') → (OWI S') → (EWI S') → ((S'.1 54 39) = 3001 ∨ (S.1 54 39) < (S'.1 54 39) ∨ r = 0 ∨ ((S'.1 54 39) = (S.1 54 39) ∧ (S'.1 54 32) = (S.1 54 32) ∧ (S'.2 80) a1 = (S.2 80) a1 + 1 ∧ 0 ≤ (S.2 80) a1 ∧ (S.2 80) a1 ≤ 3)) → ((S.1 54 39) ≤ (S'.1 54 39)) → ((S'.1 54 39) ≤ 3001) → K r S') : wX11_lists_74 l1 l2 l3 l4 l5 l6 S1c K := by
  unfold wX11_lists_74
  subst c1
  subst c2
  subst c3
  subst c4
  subst c5
  subst c6
  have hk3 : (S.2 59) (4 * (S.2 68) ((S.2 77) a1) + (S.2 80) a1) = 3 := by rw [← p3]; exact p5
  have hk8 := p12 ((S.2 77) a1) ((S.2 80) a1)
  unfold tyV at hk8
  have hel := EWI_lt p16 p7 (by omega) (by omega)
  have hw6 := owi_of p15 (x := a1) (by omega) (by omega)
  unfold owi at hw6
  have hnm := p14 ((S.2 77) a1) ((S.2 80) a1)
  rw [← p3] at hnm
  refine ⟨by omega, ?_⟩
  refine ⟨by omega, ?_⟩
  refine ⟨fun h77 => ?_, fun h77 => ?_⟩
  · refine ⟨by omega, by omega, ?_⟩
    intro q1
    have e2 : S1c.2 60 ((a2)) = S.2 60 ((a2)) := congrFun (hS1c.2 60 (by decide)) _
    refine ⟨fun h165 => ?_, fun h165 => ?_⟩
    · unfold wX11_lists_178
      refine ⟨by omega, by omega, ?_⟩
      intro q3
      have e4 : S1c.2 80 ((a1)) = S.2 80 ((a1)) := congrFun (hS1c.2 80 (by decide)) _
      refine ⟨by omega, by omega, ?_⟩
      refine ⟨by omega, ?_⟩
      intro S187 hS187e
      have hS187 : Ch [] [80] S1c S187 := Ch_A hS187e
      have hS187v : ∀ x, (x = (a1) ∧ S187.2 80 x = (S1c.2 80 ((a1)) + 1)) ∨ (¬ x = (a1) ∧ S187.2 80 x = S1c.2 80 x) := pA_at hS187e
      refine ⟨by omega, by omega, ?_⟩
      intro S194 hS194e
      have hS194 : Ch [] [81] S187 S194 := Ch_A hS194e
      have hS194v : ∀ x, (x = (a1) ∧ S194.2 81 x = 0) ∨ (¬ x = (a1) ∧ S194.2 81 x = S187.2 81 x) := pA_at hS194e
      have e5 : S194.1 54 30 = S187.1 54 30 := hS194.1 30 (by decide)
      have e6 : S187.1 54 30 = S1c.1 54 30 := hS187.1 30 (by decide)
      have e7 : S1c.1 54 30 = S.1 54 30 := hS1c.1 30 (by decide)
      have e8 : S194.1 54 25 = S187.1 54 25 := hS194.1 25 (by decide)
      have e9 : S187.1 54 25 = S1c.1 54 25 := hS187.1 25 (by decide)
      have e10 : S194.1 54 32 = S187.1 54 32 := hS194.1 32 (by decide)
      have e11 : S187.1 54 32 = S1c.1 54 32 := hS187.1 32 (by decide)
      have e12 : S1c.1 54 32 = S.1 54 32 := hS1c.1 32 (by decide)
      have e13 : S194.1 54 39 = S187.1 54 39 := hS194.1 39 (by decide)
      have e14 : S187.1 54 39 = S1c.1 54 39 := hS187.1 39 (by decide)
      have e15 : S194.1 54 32 = S187.1 54 32 := hS194.1 32 (by decide)
      have e16 : S187.1 54 32 = S1c.1 54 32 := hS187.1 32 (by decide)
      have e17 : S1c.1 54 32 = S.1 54 32 := hS1c.1 32 (by decide)
      have e18 : S194.2 80 a1 = S187.2 80 a1 := congrFun (hS194.2 80 (by decide)) _
      have e19 : S187.2 80 a1 = ((S1c.2 80 ((a1)) + 1)) := by have q := hS187v a1; omega
      have e20 : S1c.2 80 a1 = S.2 80 a1 := congrFun (hS1c.2 80 (by decide)) _
      have e21 : S194.1 54 39 = S187.1 54 39 := hS194.1 39 (by decide)
      have e22 : S187.1 54 39 = S1c.1 54 39 := hS187.1 39 (by decide)
      have e23 : S194.1 54 39 = S187.1 54 39 := hS194.1 39 (by decide)
      have e24 : S187.1 54 39 = S1c.1 54 39 := hS187.1 39 (by decide)
      have e25 : S194.2 77 a1 = S187.2 77 a1 := congrFun (hS194.2 77 (by decide)) _
      have e26 : S187.2 77 a1 = S1c.2 77 a1 := congrFun (hS187.2 77 (by decide)) _
      have e27 : S1c.2 77 a1 = S.2 77 a1 := congrFun (hS1c.2 77 (by decide)) _
      have e28 : S194.2 78 a1 = S187.2 78 a1 := congrFun (hS194.2 78 (by decide)) _
      have e29 : S187.2 78 a1 = S1c.2 78 a1 := congrFun (hS187.2 78 (by decide)) _
      have e30 : S1c.2 78 a1 = S.2 78 a1 := congrFun (hS1c.2 78 (by decide)) _
      have e31 : S194.2 79 a1 = S187.2 79 a1 := congrFun (hS194.2 79 (by decide)) _
      have e32 : S187.2 79 a1 = S1c.2 79 a1 := congrFun (hS187.2 79 (by decide)) _
      have e33 : S1c.2 79 a1 = S.2 79 a1 := congrFun (hS1c.2 79 (by decide)) _
      have e34 : S194.2 80 a1 = S187.2 80 a1 := congrFun (hS194.2 80 (by decide)) _
      have e35 : S187.2 80 a1 = ((S1c.2 80 ((a1)) + 1)) := by have q := hS187v a1; omega
      have e36 : S1c.2 80 a1 = S.2 80 a1 := congrFun (hS1c.2 80 (by decide)) _
      have e37 : S194.2 81 a1 = (0) := by have q := hS194v a1; omega
      have e38 : S187.2 81 a1 = S1c.2 81 a1 := congrFun (hS187.2 81 (by decide)) _
      have e39 : S1c.2 81 a1 = S.2 81 a1 := congrFun (hS1c.2 81 (by decide)) _
      have e40 : S194.2 82 a1 = S187.2 82 a1 := congrFun (hS194.2 82 (by decide)) _
      have e41 : S187.2 82 a1 = S1c.2 82 a1 := congrFun (hS187.2 82 (by decide)) _
      first | have e42 : S1c.2 82 a1 = S.2 82 a1 := by have q := c11 a1; omega | have e42 := c11 a1
      have fb := fl_z (S := S194) (o := a1) (by omega)
      have fa := fl_is (S := S) (o := a1) (k := a2) p3
      exact hK (1) S194 (Ch.wk (Ch.tr (Ch.tr hS1c hS187) hS194) (by decide) (by decide)) (by omega) (by omega) (by omega) (PW.mv c9 (((Ch.tr hS187 hS194)).1 25 (by decide)) (((Ch.tr hS187 hS194)).2 72 (by decide))) (BW.mv2 c10 (((Ch.tr hS187 hS194)).1 25 (by decide)) (((Ch.tr hS187 hS194)).2 75 (by decide))) (OWI_step (o := a1) (Ch.wk (Ch.tr (Ch.tr hS1c hS187) hS194) (by decide) (by decide)) (by omega) (by omega) (by omega) p15 (by
            intro x
            try clear hk8
            try clear hnm
            try clear hs0
            try clear hw6
            try clear c13
            try clear k4
            try clear k5
            try clear hs
            try clear htp
            try clear fa
            try clear fb
            try clear fa0
            try clear m7
            try clear hti
            have e43 : S194.2 77 x = S187.2 77 x := congrFun (hS194.2 77 (by decide)) _
            have e44 : S187.2 77 x = S1c.2 77 x := congrFun (hS187.2 77 (by decide)) _
            have e45 : S1c.2 77 x = S.2 77 x := congrFun (hS1c.2 77 (by decide)) _
            omega) (by
            intro x
            try clear hk8
            try clear hnm
            try clear hs0
            try clear hw6
            try clear c13
            try clear k4
            try clear k5
            try clear hs
            try clear htp
            try clear fa
            try clear fb
            try clear fa0
            try clear m7
            try clear hti
            have e46 : S194.2 78 x = S187.2 78 x := congrFun (hS194.2 78 (by decide)) _
            have e47 : S187.2 78 x = S1c.2 78 x := congrFun (hS187.2 78 (by decide)) _
            have e48 : S1c.2 78 x = S.2 78 x := congrFun (hS1c.2 78 (by decide)) _
            omega) (by
            intro x
            try clear hk8
            try clear hnm
            try clear hs0
            try clear hw6
            try clear c13
            try clear k4
            try clear k5
            try clear hs
            try clear htp
            try clear fa
            try clear fb
            try clear fa0
            try clear m7
            try clear hti
            have e49 : S194.2 79 x = S187.2 79 x := congrFun (hS194.2 79 (by decide)) _
            have e50 : S187.2 79 x = S1c.2 79 x := congrFun (hS187.2 79 (by decide)) _
            have e51 : S1c.2 79 x = S.2 79 x := congrFun (hS1c.2 79 (by decide)) _
            omega) (by
            intro x
            try clear hk8
            try clear hnm
            try clear hs0
            try clear hw6
            try clear c13
            try clear k4
            try clear k5
            try clear hs
            try clear htp
            try clear fa
            try clear fb
            try clear fa0
            try clear m7
            try clear hti
            have e52 : S194.2 80 x = S187.2 80 x := congrFun (hS194.2 80 (by decide)) _
            have e53 := hS187v x
            have e54 : S1c.2 80 x = S.2 80 x := congrFun (hS1c.2 80 (by decide)) _
            omega) (by
            intro x
            try clear hk8
            try clear hnm
            try clear hs0
            try clear hw6
            try clear c13
            try clear k4
            try clear k5
            try clear hs
            try clear htp
            try clear fa
            try clear fb
            try clear fa0
            try clear m7
            try clear hti
            have e55 := hS194v x
            have e56 : S187.2 81 x = S1c.2 81 x := congrFun (hS187.2 81 (by decide)) _
            have e57 : S1c.2 81 x = S.2 81 x := congrFun (hS1c.2 81 (by decide)) _
            omega) (by
            intro x
            try clear hk8
            try clear hnm
            try clear hs0
            try clear hw6
            try clear c13
            try clear k4
            try clear k5
            try clear hs
            try clear htp
            try clear fa
            try clear fb
            try clear fa0
            try clear m7
            try clear hti
            have e58 : S194.2 82 x = S187.2 82 x := congrFun (hS194.2 82 (by decide)) _
            have e59 : S187.2 82 x = S1c.2 82 x := congrFun (hS187.2 82 (by decide)) _
            have e60 := c11 x
            omega) (Or.inr (owi_top (Ch.wk (Ch.tr (Ch.tr hS1c hS187) hS194) (by decide) (by decide)) (owi_of p15 (by omega) (by omega)) (by omega) (by omega) (by omega) (by omega) (by omega) (by omega))) (Or.inl (by omega))) (EWI_step (o := a1) (by omega) (Ch.wk (Ch.tr (Ch.tr hS1c hS187) hS194) (by decide) (by decide)) (by omega) p16 (by omega) (by
            intro x
            try clear hk8
            try clear hnm
            try clear hs0
            try clear hw6
            try clear c13
            try clear k4
            try clear k5
            try clear hs
            try clear htp
            try clear fa
            try clear fb
            try clear fa0
            try clear m7
            try clear hti
            have e61 : S194.2 77 x = S187.2 77 x := congrFun (hS194.2 77 (by decide)) _
            have e62 : S187.2 77 x = S1c.2 77 x := congrFun (hS187.2 77 (by decide)) _
            have e63 : S1c.2 77 x = S.2 77 x := congrFun (hS1c.2 77 (by decide)) _
            omega) (by
            intro x
            try clear hk8
            try clear hnm
            try clear hs0
            try clear hw6
            try clear c13
            try clear k4
            try clear k5
            try clear hs
            try clear htp
            try clear fa
            try clear fb
            try clear fa0
            try clear m7
            try clear hti
            have e64 : S194.2 80 x = S187.2 80 x := congrFun (hS194.2 80 (by decide)) _
            have e65 := hS187v x
            have e66 : S1c.2 80 x = S.2 80 x := congrFun (hS1c.2 80 (by decide)) _
            omega) (by
            intro x
            try clear hk8
            try clear hnm
            try clear hs0
            try clear hw6
            try clear c13
            try clear k4
            try clear k5
            try clear hs
            try clear htp
            try clear fa
            try clear fb
            try clear fa0
            try clear m7
            try clear hti
            have e67 := hS194v x
            have e68 : S187.2 81 x = S1c.2 81 x := congrFun (hS187.2 81 (by decide)) _
            have e69 : S1c.2 81 x = S.2 81 x := congrFun (hS1c.2 81 (by decide)) _
            omega) (by
            by_cases hdd : S194.1 54 39 = 3001
            · exact Or.inl hdd
            · first
              | exact Or.inr (Or.inr (Or.inl ⟨by omega, by omega⟩))
              | exact Or.inr (Or.inr (Or.inr ⟨by omega, by omega⟩))
              | exact Or.inr (Or.inl ⟨by omega, by omega⟩))) (by
            first
            | exact Or.inr (Or.inr (Or.inl k1))
            | (by_cases hdd : S194.1 54 39 = 3001
               · exact Or.inl hdd
               · by_cases hdf : S.1 54 39 < S194.1 54 39
                 · exact Or.inr (Or.inl hdf)
                 · exact Or.inr (Or.inr (Or.inr ⟨by omega, by omega, by omega, by omega, by omega⟩)))) (by omega) (by omega)
    · refine ⟨fun h169 => ?_, fun h169 => ?_⟩
      · unfold wX11_lists_178
        refine ⟨by omega, by omega, ?_⟩
        intro q70
        have e71 : S1c.2 80 ((a1)) = S.2 80 ((a1)) := congrFun (hS1c.2 80 (by decide)) _
        refine ⟨by omega, by omega, ?_⟩
        refine ⟨by omega, ?_⟩
        intro S187 hS187e
        have hS187 : Ch [] [80] S1c S187 := Ch_A hS187e
        have hS187v : ∀ x, (x = (a1) ∧ S187.2 80 x = (S1c.2 80 ((a1)) + 1)) ∨ (¬ x = (a1) ∧ S187.2 80 x = S1c.2 80 x) := pA_at hS187e
        refine ⟨by omega, by omega, ?_⟩
        intro S194 hS194e
        have hS194 : Ch [] [81] S187 S194 := Ch_A hS194e
        have hS194v : ∀ x, (x = (a1) ∧ S194.2 81 x = 0) ∨ (¬ x = (a1) ∧ S194.2 81 x = S187.2 81 x) := pA_at hS194e
        have e72 : S194.1 54 30 = S187.1 54 30 := hS194.1 30 (by decide)
        have e73 : S187.1 54 30 = S1c.1 54 30 := hS187.1 30 (by decide)
        have e74 : S1c.1 54 30 = S.1 54 30 := hS1c.1 30 (by decide)
        have e75 : S194.1 54 25 = S187.1 54 25 := hS194.1 25 (by decide)
        have e76 : S187.1 54 25 = S1c.1 54 25 := hS187.1 25 (by decide)
        have e77 : S194.1 54 32 = S187.1 54 32 := hS194.1 32 (by decide)
        have e78 : S187.1 54 32 = S1c.1 54 32 := hS187.1 32 (by decide)
        have e79 : S1c.1 54 32 = S.1 54 32 := hS1c.1 32 (by decide)
        have e80 : S194.1 54 39 = S187.1 54 39 := hS194.1 39 (by decide)
        have e81 : S187.1 54 39 = S1c.1 54 39 := hS187.1 39 (by decide)
        have e82 : S194.1 54 32 = S187.1 54 32 := hS194.1 32 (by decide)
        have e83 : S187.1 54 32 = S1c.1 54 32 := hS187.1 32 (by decide)
        have e84 : S1c.1 54 32 = S.1 54 32 := hS1c.1 32 (by decide)
        have e85 : S194.2 80 a1 = S187.2 80 a1 := congrFun (hS194.2 80 (by decide)) _
        have e86 : S187.2 80 a1 = ((S1c.2 80 ((a1)) + 1)) := by have q := hS187v a1; omega
        have e87 : S1c.2 80 a1 = S.2 80 a1 := congrFun (hS1c.2 80 (by decide)) _
        have e88 : S194.1 54 39 = S187.1 54 39 := hS194.1 39 (by decide)
        have e89 : S187.1 54 39 = S1c.1 54 39 := hS187.1 39 (by decide)
        have e90 : S194.1 54 39 = S187.1 54 39 := hS194.1 39 (by decide)
        have e91 : S187.1 54 39 = S1c.1 54 39 := hS187.1 39 (by decide)
        have e92 : S194.2 77 a1 = S187.2 77 a1 := congrFun (hS194.2 77 (by decide)) _
        have e93 : S187.2 77 a1 = S1c.2 77 a1 := congrFun (hS187.2 77 (by decide)) _
        have e94 : S1c.2 77 a1 = S.2 77 a1 := congrFun (hS1c.2 77 (by decide)) _
        have e95 : S194.2 78 a1 = S187.2 78 a1 := congrFun (hS194.2 78 (by decide)) _
        have e96 : S187.2 78 a1 = S1c.2 78 a1 := congrFun (hS187.2 78 (by decide)) _
        have e97 : S1c.2 78 a1 = S.2 78 a1 := congrFun (hS1c.2 78 (by decide)) _
        have e98 : S194.2 79 a1 = S187.2 79 a1 := congrFun (hS194.2 79 (by decide)) _
        have e99 : S187.2 79 a1 = S1c.2 79 a1 := congrFun (hS187.2 79 (by decide)) _
        have e100 : S1c.2 79 a1 = S.2 79 a1 := congrFun (hS1c.2 79 (by decide)) _
        have e101 : S194.2 80 a1 = S187.2 80 a1 := congrFun (hS194.2 80 (by decide)) _
        have e102 : S187.2 80 a1 = ((S1c.2 80 ((a1)) + 1)) := by have q := hS187v a1; omega
        have e103 : S1c.2 80 a1 = S.2 80 a1 := congrFun (hS1c.2 80 (by decide)) _
        have e104 : S194.2 81 a1 = (0) := by have q := hS194v a1; omega
        have e105 : S187.2 81 a1 = S1c.2 81 a1 := congrFun (hS187.2 81 (by decide)) _
        have e106 : S1c.2 81 a1 = S.2 81 a1 := congrFun (hS1c.2 81 (by decide)) _
        have e107 : S194.2 82 a1 = S187.2 82 a1 := congrFun (hS194.2 82 (by decide)) _
        have e108 : S187.2 82 a1 = S1c.2 82 a1 := congrFun (hS187.2 82 (by decide)) _
        first | have e109 : S1c.2 82 a1 = S.2 82 a1 := by have q := c11 a1; omega | have e109 := c11 a1
        have fb := fl_z (S := S194) (o := a1) (by omega)
        have fa := fl_is (S := S) (o := a1) (k := a2) p3
        exact hK (1) S194 (Ch.wk (Ch.tr (Ch.tr hS1c hS187) hS194) (by decide) (by decide)) (by omega) (by omega) (by omega) (PW.mv c9 (((Ch.tr hS187 hS194)).1 25 (by decide)) (((Ch.tr hS187 hS194)).2 72 (by decide))) (BW.mv2 c10 (((Ch.tr hS187 hS194)).1 25 (by decide)) (((Ch.tr hS187 hS194)).2 75 (by decide))) (OWI_step (o := a1) (Ch.wk (Ch.tr (Ch.tr hS1c hS187) hS194) (by decide) (by decide)) (by omega) (by omega) (by omega) p15 (by
              intro x
              try clear hk8
              try clear hnm
              try clear hs0
              try clear hw6
              try clear c13
              try clear k4
              try clear k5
              try clear hs
              try clear htp
              try clear fa
              try clear fb
              try clear fa0
              try clear m7
              try clear hti
              have e110 : S194.2 77 x = S187.2 77 x := congrFun (hS194.2 77 (by decide)) _
              have e111 : S187.2 77 x = S1c.2 77 x := congrFun (hS187.2 77 (by decide)) _
              have e112 : S1c.2 77 x = S.2 77 x := congrFun (hS1c.2 77 (by decide)) _
              omega) (by
              intro x
              try clear hk8
              try clear hnm
              try clear hs0
              try clear hw6
              try clear c13
              try clear k4
              try clear k5
              try clear hs
              try clear htp
              try clear fa
              try clear fb
              try clear fa0
              try clear m7
              try clear hti
              have e113 : S194.2 78 x = S187.2 78 x := congrFun (hS194.2 78 (by decide)) _
              have e114 : S187.2 78 x = S1c.2 78 x := congrFun (hS187.2 78 (by decide)) _
              have e115 : S1c.2 78 x = S.2 78 x := congrFun (hS1c.2 78 (by decide)) _
              omega) (by
              intro x
              try clear hk8
              try clear hnm
              try clear hs0
              try clear hw6
              try clear c13
              try clear k4
              try clear k5
              try clear hs
              try clear htp
              try clear fa
              try clear fb
              try clear fa0
              try clear m7
              try clear hti
              have e116 : S194.2 79 x = S187.2 79 x := congrFun (hS194.2 79 (by decide)) _
              have e117 : S187.2 79 x = S1c.2 79 x := congrFun (hS187.2 79 (by decide)) _
              have e118 : S1c.2 79 x = S.2 79 x := congrFun (hS1c.2 79 (by decide)) _
              omega) (by
              intro x
              try clear hk8
              try clear hnm
              try clear hs0
              try clear hw6
              try clear c13
              try clear k4
              try clear k5
              try clear hs
              try clear htp
              try clear fa
              try clear fb
              try clear fa0
              try clear m7
              try clear hti
              have e119 : S194.2 80 x = S187.2 80 x := congrFun (hS194.2 80 (by decide)) _
              have e120 := hS187v x
              have e121 : S1c.2 80 x = S.2 80 x := congrFun (hS1c.2 80 (by decide)) _
              omega) (by
              intro x
              try clear hk8
              try clear hnm
              try clear hs0
              try clear hw6
              try clear c13
              try clear k4
              try clear k5
              try clear hs
              try clear htp
              try clear fa
              try clear fb
              try clear fa0
              try clear m7
              try clear hti
              have e122 := hS194v x
              have e123 : S187.2 81 x = S1c.2 81 x := congrFun (hS187.2 81 (by decide)) _
              have e124 : S1c.2 81 x = S.2 81 x := congrFun (hS1c.2 81 (by decide)) _
              omega) (by
              intro x
              try clear hk8
              try clear hnm
              try clear hs0
              try clear hw6
              try clear c13
              try clear k4
              try clear k5
              try clear hs
              try clear htp
              try clear fa
              try clear fb
              try clear fa0
              try clear m7
              try clear hti
              have e125 : S194.2 82 x = S187.2 82 x := congrFun (hS194.2 82 (by decide)) _
              have e126 : S187.2 82 x = S1c.2 82 x := congrFun (hS187.2 82 (by decide)) _
              have e127 := c11 x
              omega) (Or.inr (owi_top (Ch.wk (Ch.tr (Ch.tr hS1c hS187) hS194) (by decide) (by decide)) (owi_of p15 (by omega) (by omega)) (by omega) (by omega) (by omega) (by omega) (by omega) (by omega))) (Or.inl (by omega))) (EWI_step (o := a1) (by omega) (Ch.wk (Ch.tr (Ch.tr hS1c hS187) hS194) (by decide) (by decide)) (by omega) p16 (by omega) (by
              intro x
              try clear hk8
              try clear hnm
              try clear hs0
              try clear hw6
              try clear c13
              try clear k4
              try clear k5
              try clear hs
              try clear htp
              try clear fa
              try clear fb
              try clear fa0
              try clear m7
              try clear hti
              have e128 : S194.2 77 x = S187.2 77 x := congrFun (hS194.2 77 (by decide)) _
              have e129 : S187.2 77 x = S1c.2 77 x := congrFun (hS187.2 77 (by decide)) _
              have e130 : S1c.2 77 x = S.2 77 x := congrFun (hS1c.2 77 (by decide)) _
              omega) (by
              intro x
              try clear hk8
              try clear hnm
              try clear hs0
              try clear hw6
              try clear c13
              try clear k4
              try clear k5
              try clear hs
              try clear htp
              try clear fa
              try clear fb
              try clear fa0
              try clear m7
              try clear hti
              have e131 : S194.2 80 x = S187.2 80 x := congrFun (hS194.2 80 (by decide)) _
              have e132 := hS187v x
              have e133 : S1c.2 80 x = S.2 80 x := congrFun (hS1c.2 80 (by decide)) _
              omega) (by
              intro x
              try clear hk8
              try clear hnm
              try clear hs0
              try clear hw6
              try clear c13
              try clear k4
              try clear k5
              try clear hs
              try clear htp
              try clear fa
              try clear fb
              try clear fa0
              try clear m7
              try clear hti
              have e134 := hS194v x
              have e135 : S187.2 81 x = S1c.2 81 x := congrFun (hS187.2 81 (by decide)) _
              have e136 : S1c.2 81 x = S.2 81 x := congrFun (hS1c.2 81 (by decide)) _
              omega) (by
              by_cases hdd : S194.1 54 39 = 3001
              · exact Or.inl hdd
              · first
                | exact Or.inr (Or.inr (Or.inl ⟨by omega, by omega⟩))
                | exact Or.inr (Or.inr (Or.inr ⟨by omega, by omega⟩))
                | exact Or.inr (Or.inl ⟨by omega, by omega⟩))) (by
              first
              | exact Or.inr (Or.inr (Or.inl k1))
              | (by_cases hdd : S194.1 54 39 = 3001
                 · exact Or.inl hdd
                 · by_cases hdf : S.1 54 39 < S194.1 54 39
                   · exact Or.inr (Or.inl hdf)
                   · exact Or.inr (Or.inr (Or.inr ⟨by omega, by omega, by omega, by omega, by omega⟩)))) (by omega) (by omega)
      · refine ⟨by omega, ?_⟩
        have e137 : S1c.2 57 ((6 + a2)) = S.2 57 ((6 + a2)) := congrFun (hS1c.2 57 (by decide)) _
        refine tX11_end (by omega) (by omega) (fun r175 S175 hS175 n175_0 n175_1 n175_2 n175_3 => ?_)
        unfold wX11_lists_178
        refine ⟨by omega, by omega, ?_⟩
        intro q138
        have e139 : S175.2 80 ((a1)) = S1c.2 80 ((a1)) := congrFun (hS175.2 80 (by decide)) _
        have e140 : S1c.2 80 ((a1)) = S.2 80 ((a1)) := congrFun (hS1c.2 80 (by decide)) _
        refine ⟨by omega, by omega, ?_⟩
        refine ⟨by omega, ?_⟩
        intro S187 hS187e
        have hS187 : Ch [] [80] S175 S187 := Ch_A hS187e
        have hS187v : ∀ x, (x = (a1) ∧ S187.2 80 x = (S175.2 80 ((a1)) + 1)) ∨ (¬ x = (a1) ∧ S187.2 80 x = S175.2 80 x) := pA_at hS187e
        refine ⟨by omega, by omega, ?_⟩
        intro S194 hS194e
        have hS194 : Ch [] [81] S187 S194 := Ch_A hS194e
        have hS194v : ∀ x, (x = (a1) ∧ S194.2 81 x = 0) ∨ (¬ x = (a1) ∧ S194.2 81 x = S187.2 81 x) := pA_at hS194e
        have e141 : S194.1 54 30 = S187.1 54 30 := hS194.1 30 (by decide)
        have e142 : S187.1 54 30 = S175.1 54 30 := hS187.1 30 (by decide)
        have e143 : S175.1 54 30 = S1c.1 54 30 := hS175.1 30 (by decide)
        have e144 : S1c.1 54 30 = S.1 54 30 := hS1c.1 30 (by decide)
        have e145 : S194.1 54 25 = S187.1 54 25 := hS194.1 25 (by decide)
        have e146 : S187.1 54 25 = S175.1 54 25 := hS187.1 25 (by decide)
        have e147 : S175.1 54 25 = S1c.1 54 25 := hS175.1 25 (by decide)
        have e148 : S194.1 54 32 = S187.1 54 32 := hS194.1 32 (by decide)
        have e149 : S187.1 54 32 = S175.1 54 32 := hS187.1 32 (by decide)
        have e150 : S175.1 54 32 = S1c.1 54 32 := hS175.1 32 (by decide)
        have e151 : S1c.1 54 32 = S.1 54 32 := hS1c.1 32 (by decide)
        have e152 : S194.1 54 39 = S187.1 54 39 := hS194.1 39 (by decide)
        have e153 : S187.1 54 39 = S175.1 54 39 := hS187.1 39 (by decide)
        have e154 : S194.1 54 32 = S187.1 54 32 := hS194.1 32 (by decide)
        have e155 : S187.1 54 32 = S175.1 54 32 := hS187.1 32 (by decide)
        have e156 : S175.1 54 32 = S1c.1 54 32 := hS175.1 32 (by decide)
        have e157 : S1c.1 54 32 = S.1 54 32 := hS1c.1 32 (by decide)
        have e158 : S194.2 80 a1 = S187.2 80 a1 := congrFun (hS194.2 80 (by decide)) _
        have e159 : S187.2 80 a1 = ((S175.2 80 ((a1)) + 1)) := by have q := hS187v a1; omega
        have e160 : S175.2 80 a1 = S1c.2 80 a1 := congrFun (hS175.2 80 (by decide)) _
        have e161 : S1c.2 80 a1 = S.2 80 a1 := congrFun (hS1c.2 80 (by decide)) _
        have e162 : S194.1 54 39 = S187.1 54 39 := hS194.1 39 (by decide)
        have e163 : S187.1 54 39 = S175.1 54 39 := hS187.1 39 (by decide)
        have e164 : S194.1 54 39 = S187.1 54 39 := hS194.1 39 (by decide)
        have e165 : S187.1 54 39 = S175.1 54 39 := hS187.1 39 (by decide)
        have e166 : S194.2 77 a1 = S187.2 77 a1 := congrFun (hS194.2 77 (by decide)) _
        have e167 : S187.2 77 a1 = S175.2 77 a1 := congrFun (hS187.2 77 (by decide)) _
        have e168 : S175.2 77 a1 = S1c.2 77 a1 := congrFun (hS175.2 77 (by decide)) _
        have e169 : S1c.2 77 a1 = S.2 77 a1 := congrFun (hS1c.2 77 (by decide)) _
        have e170 : S194.2 78 a1 = S187.2 78 a1 := congrFun (hS194.2 78 (by decide)) _
        have e171 : S187.2 78 a1 = S175.2 78 a1 := congrFun (hS187.2 78 (by decide)) _
        have e172 : S175.2 78 a1 = S1c.2 78 a1 := congrFun (hS175.2 78 (by decide)) _
        have e173 : S1c.2 78 a1 = S.2 78 a1 := congrFun (hS1c.2 78 (by decide)) _
        have e174 : S194.2 79 a1 = S187.2 79 a1 := congrFun (hS194.2 79 (by decide)) _
        have e175 : S187.2 79 a1 = S175.2 79 a1 := congrFun (hS187.2 79 (by decide)) _
        have e176 : S175.2 79 a1 = S1c.2 79 a1 := congrFun (hS175.2 79 (by decide)) _
        have e177 : S1c.2 79 a1 = S.2 79 a1 := congrFun (hS1c.2 79 (by decide)) _
        have e178 : S194.2 80 a1 = S187.2 80 a1 := congrFun (hS194.2 80 (by decide)) _
        have e179 : S187.2 80 a1 = ((S175.2 80 ((a1)) + 1)) := by have q := hS187v a1; omega
        have e180 : S175.2 80 a1 = S1c.2 80 a1 := congrFun (hS175.2 80 (by decide)) _
        have e181 : S1c.2 80 a1 = S.2 80 a1 := congrFun (hS1c.2 80 (by decide)) _
        have e182 : S194.2 81 a1 = (0) := by have q := hS194v a1; omega
        have e183 : S187.2 81 a1 = S175.2 81 a1 := congrFun (hS187.2 81 (by decide)) _
        have e184 : S175.2 81 a1 = S1c.2 81 a1 := congrFun (hS175.2 81 (by decide)) _
        have e185 : S1c.2 81 a1 = S.2 81 a1 := congrFun (hS1c.2 81 (by decide)) _
        have e186 : S194.2 82 a1 = S187.2 82 a1 := congrFun (hS194.2 82 (by decide)) _
        have e187 : S187.2 82 a1 = S175.2 82 a1 := congrFun (hS187.2 82 (by decide)) _
        have e188 : S175.2 82 a1 = S1c.2 82 a1 := congrFun (hS175.2 82 (by decide)) _
        first | have e189 : S1c.2 82 a1 = S.2 82 a1 := by have q := c11 a1; omega | have e189 := c11 a1
        have fb := fl_z (S := S194) (o := a1) (by omega)
        have fa := fl_is (S := S) (o := a1) (k := a2) p3
        exact hK (1) S194 (Ch.wk (Ch.tr (Ch.tr (Ch.tr hS1c hS175) hS187) hS194) (by decide) (by decide)) (by omega) (by omega) (by omega) (PW.mv c9 (((Ch.tr (Ch.tr hS175 hS187) hS194)).1 25 (by decide)) (((Ch.tr (Ch.tr hS175 hS187) hS194)).2 72 (by decide))) (BW.mv2 c10 (((Ch.tr (Ch.tr hS175 hS187) hS194)).1 25 (by decide)) (((Ch.tr (Ch.tr hS175 hS187) hS194)).2 75 (by decide))) (OWI_step (o := a1) (Ch.wk (Ch.tr (Ch.tr (Ch.tr hS1c hS175) hS187) hS194) (by decide) (by decide)) (by omega) (by omega) (by omega) p15 (by
              intro x
              try clear hk8
              try clear hnm
              try clear hs0
              try clear hw6
              try clear c13
              try clear k4
              try clear k5
              try clear hs
              try clear htp
              try clear fa
              try clear fb
              try clear fa0
              try clear m7
              try clear hti
              have e190 : S194.2 77 x = S187.2 77 x := congrFun (hS194.2 77 (by decide)) _
              have e191 : S187.2 77 x = S175.2 77 x := congrFun (hS187.2 77 (by decide)) _
              have e192 : S175.2 77 x = S1c.2 77 x := congrFun (hS175.2 77 (by decide)) _
              have e193 : S1c.2 77 x = S.2 77 x := congrFun (hS1c.2 77 (by decide)) _
              omega) (by
              intro x
              try clear hk8
              try clear hnm
              try clear hs0
              try clear hw6
              try clear c13
              try clear k4
              try clear k5
              try clear hs
              try clear htp
              try clear fa
              try clear fb
              try clear fa0
              try clear m7
              try clear hti
              have e194 : S194.2 78 x = S187.2 78 x := congrFun (hS194.2 78 (by decide)) _
              have e195 : S187.2 78 x = S175.2 78 x := congrFun (hS187.2 78 (by decide)) _
              have e196 : S175.2 78 x = S1c.2 78 x := congrFun (hS175.2 78 (by decide)) _
              have e197 : S1c.2 78 x = S.2 78 x := congrFun (hS1c.2 78 (by decide)) _
              omega) (by
              intro x
              try clear hk8
              try clear hnm
              try clear hs0
              try clear hw6
              try clear c13
              try clear k4
              try clear k5
              try clear hs
              try clear htp
              try clear fa
              try clear fb
              try clear fa0
              try clear m7
              try clear hti
              have e198 : S194.2 79 x = S187.2 79 x := congrFun (hS194.2 79 (by decide)) _
              have e199 : S187.2 79 x = S175.2 79 x := congrFun (hS187.2 79 (by decide)) _
              have e200 : S175.2 79 x = S1c.2 79 x := congrFun (hS175.2 79 (by decide)) _
              have e201 : S1c.2 79 x = S.2 79 x := congrFun (hS1c.2 79 (by decide)) _
              omega) (by
              intro x
              try clear hk8
              try clear hnm
              try clear hs0
              try clear hw6
              try clear c13
              try clear k4
              try clear k5
              try clear hs
              try clear htp
              try clear fa
              try clear fb
              try clear fa0
              try clear m7
              try clear hti
              have e202 : S194.2 80 x = S187.2 80 x := congrFun (hS194.2 80 (by decide)) _
              have e203 := hS187v x
              have e204 : S175.2 80 x = S1c.2 80 x := congrFun (hS175.2 80 (by decide)) _
              have e205 : S1c.2 80 x = S.2 80 x := congrFun (hS1c.2 80 (by decide)) _
              omega) (by
              intro x
              try clear hk8
              try clear hnm
              try clear hs0
              try clear hw6
              try clear c13
              try clear k4
              try clear k5
              try clear hs
              try clear htp
              try clear fa
              try clear fb
              try clear fa0
              try clear m7
              try clear hti
              have e206 := hS194v x
              have e207 : S187.2 81 x = S175.2 81 x := congrFun (hS187.2 81 (by decide)) _
              have e208 : S175.2 81 x = S1c.2 81 x := congrFun (hS175.2 81 (by decide)) _
              have e209 : S1c.2 81 x = S.2 81 x := congrFun (hS1c.2 81 (by decide)) _
              omega) (by
              intro x
              try clear hk8
              try clear hnm
              try clear hs0
              try clear hw6
              try clear c13
              try clear k4
              try clear k5
              try clear hs
              try clear htp
              try clear fa
              try clear fb
              try clear fa0
              try clear m7
              try clear hti
              have e210 : S194.2 82 x = S187.2 82 x := congrFun (hS194.2 82 (by decide)) _
              have e211 : S187.2 82 x = S175.2 82 x := congrFun (hS187.2 82 (by decide)) _
              have e212 : S175.2 82 x = S1c.2 82 x := congrFun (hS175.2 82 (by decide)) _
              have e213 := c11 x
              omega) (Or.inr (owi_top (Ch.wk (Ch.tr (Ch.tr (Ch.tr hS1c hS175) hS187) hS194) (by decide) (by decide)) (owi_of p15 (by omega) (by omega)) (by omega) (by omega) (by omega) (by omega) (by omega) (by omega))) (Or.inl (by omega))) (EWI_step (o := a1) (by omega) (Ch.wk (Ch.tr (Ch.tr (Ch.tr hS1c hS175) hS187) hS194) (by decide) (by decide)) (by omega) p16 (by omega) (by
              intro x
              try clear hk8
              try clear hnm
              try clear hs0
              try clear hw6
              try clear c13
              try clear k4
              try clear k5
              try clear hs
              try clear htp
              try clear fa
              try clear fb
              try clear fa0
              try clear m7
              try clear hti
              have e214 : S194.2 77 x = S187.2 77 x := congrFun (hS194.2 77 (by decide)) _
              have e215 : S187.2 77 x = S175.2 77 x := congrFun (hS187.2 77 (by decide)) _
              have e216 : S175.2 77 x = S1c.2 77 x := congrFun (hS175.2 77 (by decide)) _
              have e217 : S1c.2 77 x = S.2 77 x := congrFun (hS1c.2 77 (by decide)) _
              omega) (by
              intro x
              try clear hk8
              try clear hnm
              try clear hs0
              try clear hw6
              try clear c13
              try clear k4
              try clear k5
              try clear hs
              try clear htp
              try clear fa
              try clear fb
              try clear fa0
              try clear m7
              try clear hti
              have e218 : S194.2 80 x = S187.2 80 x := congrFun (hS194.2 80 (by decide)) _
              have e219 := hS187v x
              have e220 : S175.2 80 x = S1c.2 80 x := congrFun (hS175.2 80 (by decide)) _
              have e221 : S1c.2 80 x = S.2 80 x := congrFun (hS1c.2 80 (by decide)) _
              omega) (by
              intro x
              try clear hk8
              try clear hnm
              try clear hs0
              try clear hw6
              try clear c13
              try clear k4
              try clear k5
              try clear hs
              try clear htp
              try clear fa
              try clear fb
              try clear fa0
              try clear m7
              try clear hti
              have e222 := hS194v x
              have e223 : S187.2 81 x = S175.2 81 x := congrFun (hS187.2 81 (by decide)) _
              have e224 : S175.2 81 x = S1c.2 81 x := congrFun (hS175.2 81 (by decide)) _
              have e225 : S1c.2 81 x = S.2 81 x := congrFun (hS1c.2 81 (by decide)) _
              omega) (by
              by_cases hdd : S194.1 54 39 = 3001
              · exact Or.inl hdd
              · first
                | exact Or.inr (Or.inr (Or.inl ⟨by omega, by omega⟩))
                | exact Or.inr (Or.inr (Or.inr ⟨by omega, by omega⟩))
                | exact Or.inr (Or.inl ⟨by omega, by omega⟩))) (by
              first
              | exact Or.inr (Or.inr (Or.inl k1))
              | (by_cases hdd : S194.1 54 39 = 3001
                 · exact Or.inl hdd
                 · by_cases hdf : S.1 54 39 < S194.1 54 39
                   · exact Or.inr (Or.inl hdf)
                   · exact Or.inr (Or.inr (Or.inr ⟨by omega, by omega, by omega, by omega, by omega⟩)))) (by omega) (by omega)
  · refine ⟨by omega, by omega, ?_⟩
    intro q226
    have e227 : S1c.2 81 ((a1)) = S.2 81 ((a1)) := congrFun (hS1c.2 81 (by decide)) _
    refine ⟨by omega, by omega, ?_⟩
    refine ⟨by omega, ?_⟩
    intro S89 hS89e
    have hS89 : Ch [] [81] S1c S89 := Ch_A hS89e
    have hS89v : ∀ x, (x = (a1) ∧ S89.2 81 x = (S1c.2 81 ((a1)) + 1)) ∨ (¬ x = (a1) ∧ S89.2 81 x = S1c.2 81 x) := pA_at hS89e
    refine ⟨by omega, by omega, ?_⟩
    intro q228
    have e229 : S89.2 77 ((a1)) = S1c.2 77 ((a1)) := congrFun (hS89.2 77 (by decide)) _
    have e230 : S1c.2 77 ((a1)) = S.2 77 ((a1)) := congrFun (hS1c.2 77 (by decide)) _
    refine ⟨by omega, by omega, ?_⟩
    intro q231
    have e232 : S89.2 80 ((a1)) = S1c.2 80 ((a1)) := congrFun (hS89.2 80 (by decide)) _
    have e233 : S1c.2 80 ((a1)) = S.2 80 ((a1)) := congrFun (hS1c.2 80 (by decide)) _
    refine ⟨by omega, by omega, ?_⟩
    intro q234
    have e235 : S89.2 70 (((20 * ((4 * S89.2 77 ((a1))) + S89.2 80 ((a1)))) + ((S.2 81) a1))) = S1c.2 70 (((20 * ((4 * S89.2 77 ((a1))) + S89.2 80 ((a1)))) + ((S.2 81) a1))) := congrFun (hS89.2 70 (by decide)) _
    have e236 : S1c.2 70 (((20 * ((4 * S89.2 77 ((a1))) + S89.2 80 ((a1)))) + ((S.2 81) a1))) = S.2 70 (((20 * ((4 * S89.2 77 ((a1))) + S89.2 80 ((a1)))) + ((S.2 81) a1))) := congrFun (hS1c.2 70 (by decide)) _
    intro x116 hx116
    subst hx116
    have hti : ((20 * ((4 * S89.2 77 ((a1))) + S89.2 80 ((a1)))) + ((S.2 81) a1)) = 20 * (4 * S.2 77 a1 + S.2 80 a1) + S.2 81 a1 := by omega
    have htp : 0 ≤ S89.2 70 (((20 * ((4 * S89.2 77 ((a1))) + S89.2 80 ((a1)))) + ((S.2 81) a1))) ∧ S89.2 70 (((20 * ((4 * S89.2 77 ((a1))) + S89.2 80 ((a1)))) + ((S.2 81) a1))) < S.2 67 0 := by
      rw [(show S89.2 70 = S.2 70 from ((Ch.tr hS1c hS89)).2 70 (by decide)), hti]
      have := p13 (S.2 77 a1) (S.2 80 a1) (S.2 81 a1)
      omega
    have hs0 := p14 (S89.2 70 (((20 * ((4 * S89.2 77 ((a1))) + S89.2 80 ((a1)))) + ((S.2 81) a1)))) 0
    have hs : 1 ≤ S89.2 57 (S89.2 68 (S89.2 70 (((20 * ((4 * S89.2 77 ((a1))) + S89.2 80 ((a1)))) + ((S.2 81) a1))))) := by
      rw [(show S89.2 57 = S.2 57 from ((Ch.tr hS1c hS89)).2 57 (by decide)), (show S89.2 68 = S.2 68 from ((Ch.tr hS1c hS89)).2 68 (by decide))]
      omega
    refine ⟨by omega, by omega, ?_⟩
    intro q237
    have e238 : S89.2 60 ((a2)) = S1c.2 60 ((a2)) := congrFun (hS89.2 60 (by decide)) _
    have e239 : S1c.2 60 ((a2)) = S.2 60 ((a2)) := congrFun (hS1c.2 60 (by decide)) _
    refine ⟨fun h127 => ?_, fun h127 => ?_⟩
    · refine ⟨by omega, by omega, ?_⟩
      intro q240
      have e241 : S89.2 82 ((a1)) = S1c.2 82 ((a1)) := congrFun (hS89.2 82 (by decide)) _
      first | have e242 : S1c.2 82 ((a1)) = S.2 82 ((a1)) := by have q := c11 ((a1)); omega | have e242 := c11 ((a1))
      unfold wX11_lists_145
      refine ⟨by omega, by omega, ?_⟩
      intro q243
      have e244 : S89.2 68 ((S89.2 70 (((20 * ((4 * S89.2 77 ((a1))) + S89.2 80 ((a1)))) + ((S.2 81) a1))))) = S1c.2 68 ((S89.2 70 (((20 * ((4 * S89.2 77 ((a1))) + S89.2 80 ((a1)))) + ((S.2 81) a1))))) := congrFun (hS89.2 68 (by decide)) _
      have e245 : S1c.2 68 ((S89.2 70 (((20 * ((4 * S89.2 77 ((a1))) + S89.2 80 ((a1)))) + ((S.2 81) a1))))) = S.2 68 ((S89.2 70 (((20 * ((4 * S89.2 77 ((a1))) + S89.2 80 ((a1)))) + ((S.2 81) a1))))) := congrFun (hS1c.2 68 (by decide)) _
      refine ⟨by omega, ?_⟩
      refine ⟨by omega, ?_⟩
      refine ⟨by omega, ?_⟩
      have e246 : S89.1 54 25 = S1c.1 54 25 := hS89.1 25 (by decide)
      have e247 : S89.2 57 (S89.2 68 ((S89.2 70 (((20 * ((4 * S89.2 77 ((a1))) + S89.2 80 ((a1)))) + ((S.2 81) a1)))))) = S1c.2 57 (S89.2 68 ((S89.2 70 (((20 * ((4 * S89.2 77 ((a1))) + S89.2 80 ((a1)))) + ((S.2 81) a1)))))) := congrFun (hS89.2 57 (by decide)) _
      have e248 : S1c.2 57 (S89.2 68 ((S89.2 70 (((20 * ((4 * S89.2 77 ((a1))) + S89.2 80 ((a1)))) + ((S.2 81) a1)))))) = S.2 57 (S89.2 68 ((S89.2 70 (((20 * ((4 * S89.2 77 ((a1))) + S89.2 80 ((a1)))) + ((S.2 81) a1)))))) := congrFun (hS1c.2 57 (by decide)) _
      have e249 : S89.1 54 32 = S1c.1 54 32 := hS89.1 32 (by decide)
      have e250 : S1c.1 54 32 = S.1 54 32 := hS1c.1 32 (by decide)
      have e251 : S89.1 54 19 = S1c.1 54 19 := hS89.1 19 (by decide)
      have e252 : S1c.1 54 19 = S.1 54 19 := hS1c.1 19 (by decide)
      have e253 : S89.1 54 25 = S1c.1 54 25 := hS89.1 25 (by decide)
      have e254 : S89.1 54 30 = S1c.1 54 30 := hS89.1 30 (by decide)
      have e255 : S1c.1 54 30 = S.1 54 30 := hS1c.1 30 (by decide)
      have e256 : S89.1 54 25 = S1c.1 54 25 := hS89.1 25 (by decide)
      have e257 : S89.2 67 0 = S1c.2 67 0 := congrFun (hS89.2 67 (by decide)) _
      have e258 : S1c.2 67 0 = S.2 67 0 := congrFun (hS1c.2 67 (by decide)) _
      have e259 : S89.1 54 39 = S1c.1 54 39 := hS89.1 39 (by decide)
      have e260 : S89.1 54 25 = S1c.1 54 25 := hS89.1 25 (by decide)
      have e261 : S89.1 54 32 = S1c.1 54 32 := hS89.1 32 (by decide)
      have e262 : S1c.1 54 32 = S.1 54 32 := hS1c.1 32 (by decide)
      have e263 : S89.1 54 39 = S1c.1 54 39 := hS89.1 39 (by decide)
      have e264 : S89.1 54 25 = S1c.1 54 25 := hS89.1 25 (by decide)
      have e265 : S89.1 54 19 = S1c.1 54 19 := hS89.1 19 (by decide)
      have e266 : S1c.1 54 19 = S.1 54 19 := hS1c.1 19 (by decide)
      have e267 : S89.2 56 ((S89.2 68) (((S89.2 70 (((20 * ((4 * S89.2 77 ((a1))) + S89.2 80 ((a1)))) + ((S.2 81) a1))))))) = S1c.2 56 ((S89.2 68) (((S89.2 70 (((20 * ((4 * S89.2 77 ((a1))) + S89.2 80 ((a1)))) + ((S.2 81) a1))))))) := congrFun (hS89.2 56 (by decide)) _
      have e268 : S1c.2 56 ((S89.2 68) (((S89.2 70 (((20 * ((4 * S89.2 77 ((a1))) + S89.2 80 ((a1)))) + ((S.2 81) a1))))))) = S.2 56 ((S89.2 68) (((S89.2 70 (((20 * ((4 * S89.2 77 ((a1))) + S89.2 80 ((a1)))) + ((S.2 81) a1))))))) := congrFun (hS1c.2 56 (by decide)) _
      have e269 : S89.2 68 (((S89.2 70 (((20 * ((4 * S89.2 77 ((a1))) + S89.2 80 ((a1)))) + ((S.2 81) a1)))))) = S1c.2 68 (((S89.2 70 (((20 * ((4 * S89.2 77 ((a1))) + S89.2 80 ((a1)))) + ((S.2 81) a1)))))) := congrFun (hS89.2 68 (by decide)) _
      have e270 : S1c.2 68 (((S89.2 70 (((20 * ((4 * S89.2 77 ((a1))) + S89.2 80 ((a1)))) + ((S.2 81) a1)))))) = S.2 68 (((S89.2 70 (((20 * ((4 * S89.2 77 ((a1))) + S89.2 80 ((a1)))) + ((S.2 81) a1)))))) := congrFun (hS1c.2 68 (by decide)) _
      have e271 : S89.1 54 39 = S1c.1 54 39 := hS89.1 39 (by decide)
      have e272 : S89.1 54 32 = S1c.1 54 32 := hS89.1 32 (by decide)
      have e273 : S1c.1 54 32 = S.1 54 32 := hS1c.1 32 (by decide)
      have e274 : S89.1 54 32 = S1c.1 54 32 := hS89.1 32 (by decide)
      have e275 : S1c.1 54 32 = S.1 54 32 := hS1c.1 32 (by decide)
      have e276 : S89.1 54 32 = S1c.1 54 32 := hS89.1 32 (by decide)
      have e277 : S1c.1 54 32 = S.1 54 32 := hS1c.1 32 (by decide)
      have e278 : S89.1 54 32 = S1c.1 54 32 := hS89.1 32 (by decide)
      have e279 : S1c.1 54 32 = S.1 54 32 := hS1c.1 32 (by decide)
      have e280 : S89.1 54 32 = S1c.1 54 32 := hS89.1 32 (by decide)
      have e281 : S1c.1 54 32 = S.1 54 32 := hS1c.1 32 (by decide)
      have e282 : S89.1 54 32 = S1c.1 54 32 := hS89.1 32 (by decide)
      have e283 : S1c.1 54 32 = S.1 54 32 := hS1c.1 32 (by decide)
      refine tX11_child (by omega) (by omega) (by omega) (by omega) (by omega) (by omega) (by omega) (by omega) (by omega) (PW.mv c9 ((hS89).1 25 (by decide)) ((hS89).2 72 (by decide))) (BW.mv2 c10 ((hS89).1 25 (by decide)) ((hS89).2 75 (by decide))) (OK0.mv p12  (((Ch.tr hS1c hS89)).2 59 (by decide)) (((Ch.tr hS1c hS89)).2 67 (by decide)) (((Ch.tr hS1c hS89)).2 68 (by decide)) (((Ch.tr hS1c hS89)).2 69 (by decide))) (by omega) (by omega) (fun r155 S155 hS155 n155_0 n155_1 n155_2 n155_3 n155_4 n155_5 n155_6 n155_7 n155_8 n155_9 n155_10 n155_11 n155_12 => ?_)
      refine ⟨by omega, ?_⟩
      first | have e284 : S155.2 80 a1 = S89.2 80 a1 := by have q := n155_9 a1; omega | have e284 := n155_9 a1
      have e285 : S89.2 80 a1 = S1c.2 80 a1 := congrFun (hS89.2 80 (by decide)) _
      have e286 : S1c.2 80 a1 = S.2 80 a1 := congrFun (hS1c.2 80 (by decide)) _
      first | have e287 : S155.2 77 a1 = S89.2 77 a1 := by have q := n155_6 a1; omega | have e287 := n155_6 a1
      have e288 : S89.2 77 a1 = S1c.2 77 a1 := congrFun (hS89.2 77 (by decide)) _
      have e289 : S1c.2 77 a1 = S.2 77 a1 := congrFun (hS1c.2 77 (by decide)) _
      first | have e290 : S155.2 78 a1 = S89.2 78 a1 := by have q := n155_7 a1; omega | have e290 := n155_7 a1
      have e291 : S89.2 78 a1 = S1c.2 78 a1 := congrFun (hS89.2 78 (by decide)) _
      have e292 : S1c.2 78 a1 = S.2 78 a1 := congrFun (hS1c.2 78 (by decide)) _
      first | have e293 : S155.2 79 a1 = S89.2 79 a1 := by have q := n155_8 a1; omega | have e293 := n155_8 a1
      have e294 : S89.2 79 a1 = S1c.2 79 a1 := congrFun (hS89.2 79 (by decide)) _
      have e295 : S1c.2 79 a1 = S.2 79 a1 := congrFun (hS1c.2 79 (by decide)) _
      first | have e296 : S155.2 80 a1 = S89.2 80 a1 := by have q := n155_9 a1; omega | have e296 := n155_9 a1
      have e297 : S89.2 80 a1 = S1c.2 80 a1 := congrFun (hS89.2 80 (by decide)) _
      have e298 : S1c.2 80 a1 = S.2 80 a1 := congrFun (hS1c.2 80 (by decide)) _
      first | have e299 : S155.2 81 a1 = S89.2 81 a1 := by have q := n155_10 a1; omega | have e299 := n155_10 a1
      have e300 : S89.2 81 a1 = ((S1c.2 81 ((a1)) + 1)) := by have q := hS89v a1; omega
      have e301 : S1c.2 81 a1 = S.2 81 a1 := congrFun (hS1c.2 81 (by decide)) _
      first | have e302 : S155.2 82 a1 = S89.2 82 a1 := by have q := n155_11 a1; omega | have e302 := n155_11 a1
      have e303 : S89.2 82 a1 = S1c.2 82 a1 := congrFun (hS89.2 82 (by decide)) _
      first | have e304 : S1c.2 82 a1 = S.2 82 a1 := by have q := c11 a1; omega | have e304 := c11 a1
      have hop : S89.1 54 32 = a1 + 1 := by omega
      rw [hop] at n155_4
      rcases n155_4 with ⟨k1, k2, k3, k4⟩ | ⟨k1, k2, k3, k4⟩ | ⟨k1, k2, k3, k4, k5, ⟨m1, m2, m3, m4, m5, m6⟩, m7⟩
      all_goals have fb := fl_it (S := S) (S' := S155) (o := a1) (k := a2) (Ch.wk (Ch.tr (Ch.tr hS1c hS89) hS155) (by decide) (by decide)) (by omega) (by omega) p3
      all_goals have fa := fl_is (S := S) (o := a1) (k := a2) p3
      all_goals exact hK (r155) S155 (Ch.wk (Ch.tr (Ch.tr hS1c hS89) hS155) (by decide) (by decide)) (by omega) (by omega) (by omega) n155_2 n155_3 (OWI_step (o := a1) (Ch.wk (Ch.tr (Ch.tr hS1c hS89) hS155) (by decide) (by decide)) (by omega) (by omega) (by omega) p15 (by
            intro x
            try clear hk8
            try clear hnm
            try clear hs0
            try clear hw6
            try clear c13
            try clear k4
            try clear k5
            try clear hs
            try clear htp
            try clear fa
            try clear fb
            try clear fa0
            try clear m7
            try clear hti
            have e305 := n155_6 x
            have e306 : S89.2 77 x = S1c.2 77 x := congrFun (hS89.2 77 (by decide)) _
            have e307 : S1c.2 77 x = S.2 77 x := congrFun (hS1c.2 77 (by decide)) _
            omega) (by
            intro x
            try clear hk8
            try clear hnm
            try clear hs0
            try clear hw6
            try clear c13
            try clear k4
            try clear k5
            try clear hs
            try clear htp
            try clear fa
            try clear fb
            try clear fa0
            try clear m7
            try clear hti
            have e308 := n155_7 x
            have e309 : S89.2 78 x = S1c.2 78 x := congrFun (hS89.2 78 (by decide)) _
            have e310 : S1c.2 78 x = S.2 78 x := congrFun (hS1c.2 78 (by decide)) _
            omega) (by
            intro x
            try clear hk8
            try clear hnm
            try clear hs0
            try clear hw6
            try clear c13
            try clear k4
            try clear k5
            try clear hs
            try clear htp
            try clear fa
            try clear fb
            try clear fa0
            try clear m7
            try clear hti
            have e311 := n155_8 x
            have e312 : S89.2 79 x = S1c.2 79 x := congrFun (hS89.2 79 (by decide)) _
            have e313 : S1c.2 79 x = S.2 79 x := congrFun (hS1c.2 79 (by decide)) _
            omega) (by
            intro x
            try clear hk8
            try clear hnm
            try clear hs0
            try clear hw6
            try clear c13
            try clear k4
            try clear k5
            try clear hs
            try clear htp
            try clear fa
            try clear fb
            try clear fa0
            try clear m7
            try clear hti
            have e314 := n155_9 x
            have e315 : S89.2 80 x = S1c.2 80 x := congrFun (hS89.2 80 (by decide)) _
            have e316 : S1c.2 80 x = S.2 80 x := congrFun (hS1c.2 80 (by decide)) _
            omega) (by
            intro x
            try clear hk8
            try clear hnm
            try clear hs0
            try clear hw6
            try clear c13
            try clear k4
            try clear k5
            try clear hs
            try clear htp
            try clear fa
            try clear fb
            try clear fa0
            try clear m7
            try clear hti
            have e317 := n155_10 x
            have e318 := hS89v x
            have e319 : S1c.2 81 x = S.2 81 x := congrFun (hS1c.2 81 (by decide)) _
            omega) (by
            intro x
            try clear hk8
            try clear hnm
            try clear hs0
            try clear hw6
            try clear c13
            try clear k4
            try clear k5
            try clear hs
            try clear htp
            try clear fa
            try clear fb
            try clear fa0
            try clear m7
            try clear hti
            have e320 := n155_11 x
            have e321 : S89.2 82 x = S1c.2 82 x := congrFun (hS89.2 82 (by decide)) _
            have e322 := c11 x
            omega) (Or.inr (owi_top (Ch.wk (Ch.tr (Ch.tr hS1c hS89) hS155) (by decide) (by decide)) (owi_of p15 (by omega) (by omega)) (by omega) (by omega) (by omega) (by omega) (by omega) (by omega))) (by
            first
            | exact Or.inl (by omega)
            | (refine Or.inr (owi_new (Ch.wk (Ch.tr (Ch.tr hS1c hS89) hS155) (by decide) (by decide)) (by omega) (by omega) ?_ (by omega) ?_ (by omega) (by omega) (by omega))
               · rw [m3]
                 have hs2 := hs
                 rw [(show S89.2 57 = S.2 57 from ((Ch.tr hS1c hS89)).2 57 (by decide))] at hs2
                 exact hs2
               · rw [m1]
                 have hs2 := m7
                 rw [(show S89.2 56 = S.2 56 from ((Ch.tr hS1c hS89)).2 56 (by decide)), (show S89.2 68 = S.2 68 from ((Ch.tr hS1c hS89)).2 68 (by decide))] at hs2
                 exact hs2))) (EWI_step (o := a1) (by omega) (Ch.wk (Ch.tr (Ch.tr hS1c hS89) hS155) (by decide) (by decide)) (by omega) p16 (by omega) (by
            intro x
            try clear hk8
            try clear hnm
            try clear hs0
            try clear hw6
            try clear c13
            try clear k4
            try clear k5
            try clear hs
            try clear htp
            try clear fa
            try clear fb
            try clear fa0
            try clear m7
            try clear hti
            have e323 := n155_6 x
            have e324 : S89.2 77 x = S1c.2 77 x := congrFun (hS89.2 77 (by decide)) _
            have e325 : S1c.2 77 x = S.2 77 x := congrFun (hS1c.2 77 (by decide)) _
            omega) (by
            intro x
            try clear hk8
            try clear hnm
            try clear hs0
            try clear hw6
            try clear c13
            try clear k4
            try clear k5
            try clear hs
            try clear htp
            try clear fa
            try clear fb
            try clear fa0
            try clear m7
            try clear hti
            have e326 := n155_9 x
            have e327 : S89.2 80 x = S1c.2 80 x := congrFun (hS89.2 80 (by decide)) _
            have e328 : S1c.2 80 x = S.2 80 x := congrFun (hS1c.2 80 (by decide)) _
            omega) (by
            intro x
            try clear hk8
            try clear hnm
            try clear hs0
            try clear hw6
            try clear c13
            try clear k4
            try clear k5
            try clear hs
            try clear htp
            try clear fa
            try clear fb
            try clear fa0
            try clear m7
            try clear hti
            have e329 := n155_10 x
            have e330 := hS89v x
            have e331 : S1c.2 81 x = S.2 81 x := congrFun (hS1c.2 81 (by decide)) _
            omega) (by
            by_cases hdd : S155.1 54 39 = 3001
            · exact Or.inl hdd
            · first
              | exact Or.inr (Or.inr (Or.inl ⟨by omega, by omega⟩))
              | exact Or.inr (Or.inr (Or.inr ⟨by omega, by omega⟩))
              | exact Or.inr (Or.inl ⟨by omega, by omega⟩))) (by
            first
            | exact Or.inr (Or.inr (Or.inl k1))
            | (by_cases hdd : S155.1 54 39 = 3001
               · exact Or.inl hdd
               · by_cases hdf : S.1 54 39 < S155.1 54 39
                 · exact Or.inr (Or.inl hdf)
                 · exact Or.inr (Or.inr (Or.inr ⟨by omega, by omega, by omega, by omega, by omega⟩)))) (by omega) (by omega)
    · refine ⟨by omega, by omega, ?_⟩
      intro q332
      have e333 : S89.2 78 ((a1)) = S1c.2 78 ((a1)) := congrFun (hS89.2 78 (by decide)) _
      have e334 : S1c.2 78 ((a1)) = S.2 78 ((a1)) := congrFun (hS1c.2 78 (by decide)) _
      unfold wX11_lists_145
      refine ⟨by omega, by omega, ?_⟩
      intro q335
      have e336 : S89.2 68 ((S89.2 70 (((20 * ((4 * S89.2 77 ((a1))) + S89.2 80 ((a1)))) + ((S.2 81) a1))))) = S1c.2 68 ((S89.2 70 (((20 * ((4 * S89.2 77 ((a1))) + S89.2 80 ((a1)))) + ((S.2 81) a1))))) := congrFun (hS89.2 68 (by decide)) _
      have e337 : S1c.2 68 ((S89.2 70 (((20 * ((4 * S89.2 77 ((a1))) + S89.2 80 ((a1)))) + ((S.2 81) a1))))) = S.2 68 ((S89.2 70 (((20 * ((4 * S89.2 77 ((a1))) + S89.2 80 ((a1)))) + ((S.2 81) a1))))) := congrFun (hS1c.2 68 (by decide)) _
      refine ⟨by omega, ?_⟩
      refine ⟨by omega, ?_⟩
      refine ⟨by omega, ?_⟩
      have e338 : S89.1 54 25 = S1c.1 54 25 := hS89.1 25 (by decide)
      have e339 : S89.2 57 (S89.2 68 ((S89.2 70 (((20 * ((4 * S89.2 77 ((a1))) + S89.2 80 ((a1)))) + ((S.2 81) a1)))))) = S1c.2 57 (S89.2 68 ((S89.2 70 (((20 * ((4 * S89.2 77 ((a1))) + S89.2 80 ((a1)))) + ((S.2 81) a1)))))) := congrFun (hS89.2 57 (by decide)) _
      have e340 : S1c.2 57 (S89.2 68 ((S89.2 70 (((20 * ((4 * S89.2 77 ((a1))) + S89.2 80 ((a1)))) + ((S.2 81) a1)))))) = S.2 57 (S89.2 68 ((S89.2 70 (((20 * ((4 * S89.2 77 ((a1))) + S89.2 80 ((a1)))) + ((S.2 81) a1)))))) := congrFun (hS1c.2 57 (by decide)) _
      have e341 : S89.1 54 32 = S1c.1 54 32 := hS89.1 32 (by decide)
      have e342 : S1c.1 54 32 = S.1 54 32 := hS1c.1 32 (by decide)
      have e343 : S89.1 54 19 = S1c.1 54 19 := hS89.1 19 (by decide)
      have e344 : S1c.1 54 19 = S.1 54 19 := hS1c.1 19 (by decide)
      have e345 : S89.1 54 25 = S1c.1 54 25 := hS89.1 25 (by decide)
      have e346 : S89.1 54 30 = S1c.1 54 30 := hS89.1 30 (by decide)
      have e347 : S1c.1 54 30 = S.1 54 30 := hS1c.1 30 (by decide)
      have e348 : S89.1 54 25 = S1c.1 54 25 := hS89.1 25 (by decide)
      have e349 : S89.2 67 0 = S1c.2 67 0 := congrFun (hS89.2 67 (by decide)) _
      have e350 : S1c.2 67 0 = S.2 67 0 := congrFun (hS1c.2 67 (by decide)) _
      have e351 : S89.1 54 39 = S1c.1 54 39 := hS89.1 39 (by decide)
      have e352 : S89.1 54 25 = S1c.1 54 25 := hS89.1 25 (by decide)
      have e353 : S89.1 54 32 = S1c.1 54 32 := hS89.1 32 (by decide)
      have e354 : S1c.1 54 32 = S.1 54 32 := hS1c.1 32 (by decide)
      have e355 : S89.1 54 39 = S1c.1 54 39 := hS89.1 39 (by decide)
      have e356 : S89.1 54 25 = S1c.1 54 25 := hS89.1 25 (by decide)
      have e357 : S89.1 54 19 = S1c.1 54 19 := hS89.1 19 (by decide)
      have e358 : S1c.1 54 19 = S.1 54 19 := hS1c.1 19 (by decide)
      have e359 : S89.2 56 ((S89.2 68) (((S89.2 70 (((20 * ((4 * S89.2 77 ((a1))) + S89.2 80 ((a1)))) + ((S.2 81) a1))))))) = S1c.2 56 ((S89.2 68) (((S89.2 70 (((20 * ((4 * S89.2 77 ((a1))) + S89.2 80 ((a1)))) + ((S.2 81) a1))))))) := congrFun (hS89.2 56 (by decide)) _
      have e360 : S1c.2 56 ((S89.2 68) (((S89.2 70 (((20 * ((4 * S89.2 77 ((a1))) + S89.2 80 ((a1)))) + ((S.2 81) a1))))))) = S.2 56 ((S89.2 68) (((S89.2 70 (((20 * ((4 * S89.2 77 ((a1))) + S89.2 80 ((a1)))) + ((S.2 81) a1))))))) := congrFun (hS1c.2 56 (by decide)) _
      have e361 : S89.2 68 (((S89.2 70 (((20 * ((4 * S89.2 77 ((a1))) + S89.2 80 ((a1)))) + ((S.2 81) a1)))))) = S1c.2 68 (((S89.2 70 (((20 * ((4 * S89.2 77 ((a1))) + S89.2 80 ((a1)))) + ((S.2 81) a1)))))) := congrFun (hS89.2 68 (by decide)) _
      have e362 : S1c.2 68 (((S89.2 70 (((20 * ((4 * S89.2 77 ((a1))) + S89.2 80 ((a1)))) + ((S.2 81) a1)))))) = S.2 68 (((S89.2 70 (((20 * ((4 * S89.2 77 ((a1))) + S89.2 80 ((a1)))) + ((S.2 81) a1)))))) := congrFun (hS1c.2 68 (by decide)) _
      have e363 : S89.1 54 39 = S1c.1 54 39 := hS89.1 39 (by decide)
      have e364 : S89.1 54 32 = S1c.1 54 32 := hS89.1 32 (by decide)
      have e365 : S1c.1 54 32 = S.1 54 32 := hS1c.1 32 (by decide)
      have e366 : S89.1 54 32 = S1c.1 54 32 := hS89.1 32 (by decide)
      have e367 : S1c.1 54 32 = S.1 54 32 := hS1c.1 32 (by decide)
      have e368 : S89.1 54 32 = S1c.1 54 32 := hS89.1 32 (by decide)
      have e369 : S1c.1 54 32 = S.1 54 32 := hS1c.1 32 (by decide)
      have e370 : S89.1 54 32 = S1c.1 54 32 := hS89.1 32 (by decide)
      have e371 : S1c.1 54 32 = S.1 54 32 := hS1c.1 32 (by decide)
      have e372 : S89.1 54 32 = S1c.1 54 32 := hS89.1 32 (by decide)
      have e373 : S1c.1 54 32 = S.1 54 32 := hS1c.1 32 (by decide)
      have e374 : S89.1 54 32 = S1c.1 54 32 := hS89.1 32 (by decide)
      have e375 : S1c.1 54 32 = S.1 54 32 := hS1c.1 32 (by decide)
      refine tX11_child (by omega) (by omega) (by omega) (by omega) (by omega) (by omega) (by omega) (by omega) (by omega) (PW.mv c9 ((hS89).1 25 (by decide)) ((hS89).2 72 (by decide))) (BW.mv2 c10 ((hS89).1 25 (by decide)) ((hS89).2 75 (by decide))) (OK0.mv p12  (((Ch.tr hS1c hS89)).2 59 (by decide)) (((Ch.tr hS1c hS89)).2 67 (by decide)) (((Ch.tr hS1c hS89)).2 68 (by decide)) (((Ch.tr hS1c hS89)).2 69 (by decide))) (by omega) (by omega) (fun r155 S155 hS155 n155_0 n155_1 n155_2 n155_3 n155_4 n155_5 n155_6 n155_7 n155_8 n155_9 n155_10 n155_11 n155_12 => ?_)
      refine ⟨by omega, ?_⟩
      first | have e376 : S155.2 80 a1 = S89.2 80 a1 := by have q := n155_9 a1; omega | have e376 := n155_9 a1
      have e377 : S89.2 80 a1 = S1c.2 80 a1 := congrFun (hS89.2 80 (by decide)) _
      have e378 : S1c.2 80 a1 = S.2 80 a1 := congrFun (hS1c.2 80 (by decide)) _
      first | have e379 : S155.2 77 a1 = S89.2 77 a1 := by have q := n155_6 a1; omega | have e379 := n155_6 a1
      have e380 : S89.2 77 a1 = S1c.2 77 a1 := congrFun (hS89.2 77 (by decide)) _
      have e381 : S1c.2 77 a1 = S.2 77 a1 := congrFun (hS1c.2 77 (by decide)) _
      first | have e382 : S155.2 78 a1 = S89.2 78 a1 := by have q := n155_7 a1; omega | have e382 := n155_7 a1
      have e383 : S89.2 78 a1 = S1c.2 78 a1 := congrFun (hS89.2 78 (by decide)) _
      have e384 : S1c.2 78 a1 = S.2 78 a1 := congrFun (hS1c.2 78 (by decide)) _
      first | have e385 : S155.2 79 a1 = S89.2 79 a1 := by have q := n155_8 a1; omega | have e385 := n155_8 a1
      have e386 : S89.2 79 a1 = S1c.2 79 a1 := congrFun (hS89.2 79 (by decide)) _
      have e387 : S1c.2 79 a1 = S.2 79 a1 := congrFun (hS1c.2 79 (by decide)) _
      first | have e388 : S155.2 80 a1 = S89.2 80 a1 := by have q := n155_9 a1; omega | have e388 := n155_9 a1
      have e389 : S89.2 80 a1 = S1c.2 80 a1 := congrFun (hS89.2 80 (by decide)) _
      have e390 : S1c.2 80 a1 = S.2 80 a1 := congrFun (hS1c.2 80 (by decide)) _
      first | have e391 : S155.2 81 a1 = S89.2 81 a1 := by have q := n155_10 a1; omega | have e391 := n155_10 a1
      have e392 : S89.2 81 a1 = ((S1c.2 81 ((a1)) + 1)) := by have q := hS89v a1; omega
      have e393 : S1c.2 81 a1 = S.2 81 a1 := congrFun (hS1c.2 81 (by decide)) _
      first | have e394 : S155.2 82 a1 = S89.2 82 a1 := by have q := n155_11 a1; omega | have e394 := n155_11 a1
      have e395 : S89.2 82 a1 = S1c.2 82 a1 := congrFun (hS89.2 82 (by decide)) _
      first | have e396 : S1c.2 82 a1 = S.2 82 a1 := by have q := c11 a1; omega | have e396 := c11 a1
      have hop : S89.1 54 32 = a1 + 1 := by omega
      rw [hop] at n155_4
      rcases n155_4 with ⟨k1, k2, k3, k4⟩ | ⟨k1, k2, k3, k4⟩ | ⟨k1, k2, k3, k4, k5, ⟨m1, m2, m3, m4, m5, m6⟩, m7⟩
      all_goals have fb := fl_it (S := S) (S' := S155) (o := a1) (k := a2) (Ch.wk (Ch.tr (Ch.tr hS1c hS89) hS155) (by decide) (by decide)) (by omega) (by omega) p3
      all_goals have fa := fl_is (S := S) (o := a1) (k := a2) p3
      all_goals exact hK (r155) S155 (Ch.wk (Ch.tr (Ch.tr hS1c hS89) hS155) (by decide) (by decide)) (by omega) (by omega) (by omega) n155_2 n155_3 (OWI_step (o := a1) (Ch.wk (Ch.tr (Ch.tr hS1c hS89) hS155) (by decide) (by decide)) (by omega) (by omega) (by omega) p15 (by
            intro x
            try clear hk8
            try clear hnm
            try clear hs0
            try clear hw6
            try clear c13
            try clear k4
            try clear k5
            try clear hs
            try clear htp
            try clear fa
            try clear fb
            try clear fa0
            try clear m7
            try clear hti
            have e397 := n155_6 x
            have e398 : S89.2 77 x = S1c.2 77 x := congrFun (hS89.2 77 (by decide)) _
            have e399 : S1c.2 77 x = S.2 77 x := congrFun (hS1c.2 77 (by decide)) _
            omega) (by
            intro x
            try clear hk8
            try clear hnm
            try clear hs0
            try clear hw6
            try clear c13
            try clear k4
            try clear k5
            try clear hs
            try clear htp
            try clear fa
            try clear fb
            try clear fa0
            try clear m7
            try clear hti
            have e400 := n155_7 x
            have e401 : S89.2 78 x = S1c.2 78 x := congrFun (hS89.2 78 (by decide)) _
            have e402 : S1c.2 78 x = S.2 78 x := congrFun (hS1c.2 78 (by decide)) _
            omega) (by
            intro x
            try clear hk8
            try clear hnm
            try clear hs0
            try clear hw6
            try clear c13
            try clear k4
            try clear k5
            try clear hs
            try clear htp
            try clear fa
            try clear fb
            try clear fa0
            try clear m7
            try clear hti
            have e403 := n155_8 x
            have e404 : S89.2 79 x = S1c.2 79 x := congrFun (hS89.2 79 (by decide)) _
            have e405 : S1c.2 79 x = S.2 79 x := congrFun (hS1c.2 79 (by decide)) _
            omega) (by
            intro x
            try clear hk8
            try clear hnm
            try clear hs0
            try clear hw6
            try clear c13
            try clear k4
            try clear k5
            try clear hs
            try clear htp
            try clear fa
            try clear fb
            try clear fa0
            try clear m7
            try clear hti
            have e406 := n155_9 x
            have e407 : S89.2 80 x = S1c.2 80 x := congrFun (hS89.2 80 (by decide)) _
            have e408 : S1c.2 80 x = S.2 80 x := congrFun (hS1c.2 80 (by decide)) _
            omega) (by
            intro x
            try clear hk8
            try clear hnm
            try clear hs0
            try clear hw6
            try clear c13
            try clear k4
            try clear k5
            try clear hs
            try clear htp
            try clear fa
            try clear fb
            try clear fa0
            try clear m7
            try clear hti
            have e409 := n155_10 x
            have e410 := hS89v x
            have e411 : S1c.2 81 x = S.2 81 x := congrFun (hS1c.2 81 (by decide)) _
            omega) (by
            intro x
            try clear hk8
            try clear hnm
            try clear hs0
            try clear hw6
            try clear c13
            try clear k4
            try clear k5
            try clear hs
            try clear htp
            try clear fa
            try clear fb
            try clear fa0
            try clear m7
            try clear hti
            have e412 := n155_11 x
            have e413 : S89.2 82 x = S1c.2 82 x := congrFun (hS89.2 82 (by decide)) _
            have e414 := c11 x
            omega) (Or.inr (owi_top (Ch.wk (Ch.tr (Ch.tr hS1c hS89) hS155) (by decide) (by decide)) (owi_of p15 (by omega) (by omega)) (by omega) (by omega) (by omega) (by omega) (by omega) (by omega))) (by
            first
            | exact Or.inl (by omega)
            | (refine Or.inr (owi_new (Ch.wk (Ch.tr (Ch.tr hS1c hS89) hS155) (by decide) (by decide)) (by omega) (by omega) ?_ (by omega) ?_ (by omega) (by omega) (by omega))
               · rw [m3]
                 have hs2 := hs
                 rw [(show S89.2 57 = S.2 57 from ((Ch.tr hS1c hS89)).2 57 (by decide))] at hs2
                 exact hs2
               · rw [m1]
                 have hs2 := m7
                 rw [(show S89.2 56 = S.2 56 from ((Ch.tr hS1c hS89)).2 56 (by decide)), (show S89.2 68 = S.2 68 from ((Ch.tr hS1c hS89)).2 68 (by decide))] at hs2
                 exact hs2))) (EWI_step (o := a1) (by omega) (Ch.wk (Ch.tr (Ch.tr hS1c hS89) hS155) (by decide) (by decide)) (by omega) p16 (by omega) (by
            intro x
            try clear hk8
            try clear hnm
            try clear hs0
            try clear hw6
            try clear c13
            try clear k4
            try clear k5
            try clear hs
            try clear htp
            try clear fa
            try clear fb
            try clear fa0
            try clear m7
            try clear hti
            have e415 := n155_6 x
            have e416 : S89.2 77 x = S1c.2 77 x := congrFun (hS89.2 77 (by decide)) _
            have e417 : S1c.2 77 x = S.2 77 x := congrFun (hS1c.2 77 (by decide)) _
            omega) (by
            intro x
            try clear hk8
            try clear hnm
            try clear hs0
            try clear hw6
            try clear c13
            try clear k4
            try clear k5
            try clear hs
            try clear htp
            try clear fa
            try clear fb
            try clear fa0
            try clear m7
            try clear hti
            have e418 := n155_9 x
            have e419 : S89.2 80 x = S1c.2 80 x := congrFun (hS89.2 80 (by decide)) _
            have e420 : S1c.2 80 x = S.2 80 x := congrFun (hS1c.2 80 (by decide)) _
            omega) (by
            intro x
            try clear hk8
            try clear hnm
            try clear hs0
            try clear hw6
            try clear c13
            try clear k4
            try clear k5
            try clear hs
            try clear htp
            try clear fa
            try clear fb
            try clear fa0
            try clear m7
            try clear hti
            have e421 := n155_10 x
            have e422 := hS89v x
            have e423 : S1c.2 81 x = S.2 81 x := congrFun (hS1c.2 81 (by decide)) _
            omega) (by
            by_cases hdd : S155.1 54 39 = 3001
            · exact Or.inl hdd
            · first
              | exact Or.inr (Or.inr (Or.inl ⟨by omega, by omega⟩))
              | exact Or.inr (Or.inr (Or.inr ⟨by omega, by omega⟩))
              | exact Or.inr (Or.inl ⟨by omega, by omega⟩))) (by
            first
            | exact Or.inr (Or.inr (Or.inl k1))
            | (by_cases hdd : S155.1 54 39 = 3001
               · exact Or.inl hdd
               · by_cases hdf : S.1 54 39 < S155.1 54 39
                 · exact Or.inr (Or.inl hdf)
                 · exact Or.inr (Or.inr (Or.inr ⟨by omega, by omega, by omega, by omega, by omega⟩)))) (by omega) (by omega)
set_option maxRecDepth 100000 in
set_option maxHeartbeats 4000000 in
theorem tX11_lists {a1 a2 a3 a4 : Int} {S : St} {K : Int → St → Prop} (p1 : a1 = (S.1 54 32) - 1) (p2 : 0 ≤ a1) (p3 : a2 = 4 * (S.2 68) ((S.2 77) a1) + (S.2 80) a1) (p4 : (S.2 80) a1 + 1 ≤ (S.2 56) ((S.2 68) ((S.2 77) a1))) (p5 : (S.2 59) a2 = 3) (p6 : a3 = (S.2 69) (4 * (S.2 77) a1 + (S.2 80) a1)) (p7 : (S.1 54 39) ≤ 3000) (p8 : (S.1 54 30) ≤ (S.1 54 25)) (p9 : (S.1 54 32) ≤ (S.1 54 19)) (p10 : PW S) (p11 : BW S) (p12 : OK0 S) (p13 : OL0 S) (p14 : NMS S) (p15 : OWI S) (p16 : EWI S) (p17 : iv 0 29 ((S.2 77) a1)) (p18 : iv 0 4 ((S.2 80) a1)) (p19 : (S.1 54 32) ≤ 20) (p20 : iv 0 5 ((S.2 68) ((S.2 77) a1))) (p21 : (S.2 56) ((S.2 68) ((S.2 77) a1)) ≤ 4) (p22 : iv 1 20 (S.1 54 19)) (p23 : (S.2 67) 0 ≤ 30) (p24 : (S.1 54 39) ≤ 3001) (hK : ∀ (r : Int) (S' : St), Ch [25, 30, 32, 39] [72, 73, 74, 75, 76, 77, 78, 79, 80, 81, 82, 83] S S' → (iv 0 1 r) → ((S'.1 54 30) ≤ (S'.1 54 25)) → ((S'.1 54 32) ≤ (S.1 54 19)) → (PW S') → (BW S') → (OWI S') → (EWI S') → ((S'.1 54 39) = 3001 ∨ (S.1 54 39) < (S'.1 54 39) ∨ r = 0 ∨ ((S'.1 54 39) = (S.1 54 39) ∧ (S'.1 54 32) = (S.1 54 32) ∧ (S'.2 80) a1 = (S.2 80) a1 + 1 ∧ 0 ≤ (S.2 80) a1 ∧ (S.2 80) a1 ≤ 3)) → ((S.1 54 39) ≤ (S'.1 54 39)) → ((S'.1 54 39) ≤ 3001) → K r S') : wX11_lists a1 a2 a3 a4 S K := by
  unfold wX11_lists
  intro g1 g2 g3 g4
  have hk3 : (S.2 59) (4 * (S.2 68) ((S.2 77) a1) + (S.2 80) a1) = 3 := by rw [← p3]; exact p5
  have hk8 := p12 ((S.2 77) a1) ((S.2 80) a1)
  unfold tyV at hk8
  have hel := EWI_lt p16 p7 (by omega) (by omega)
  have hw6 := owi_of p15 (x := a1) (by omega) (by omega)
  unfold owi at hw6
  have hnm := p14 ((S.2 77) a1) ((S.2 80) a1)
  rw [← p3] at hnm
  intro x4 hx4
  subst hx4
  refine ⟨by omega, by omega, ?_⟩
  intro q1
  intro x12 hx12
  subst hx12
  refine ⟨fun h16 => ?_, fun h16 => ?_⟩
  · exact tX11_lists_74 g1 g2 g3 g4 p1 p2 p3 p4 p5 p6 p7 p8 p9 p10 p11 p12 p13 p14 p15 p16 p17 p18 p19 p20 p21 p22 p23 p24 (Ch.wk Ch.rf (by decide) (by decide)) (by omega) (by omega) (by omega) (by omega) (by omega) (by omega) (by omega) (by omega) p10 p11 (by
          intro x
          omega) (by omega) (by omega) (by omega) (by omega) (by omega) hK
  · refine ⟨by omega, by omega, ?_⟩
    intro q2
    refine ⟨fun h25 => ?_, fun h25 => ?_⟩
    · exact tX11_lists_74 g1 g2 g3 g4 p1 p2 p3 p4 p5 p6 p7 p8 p9 p10 p11 p12 p13 p14 p15 p16 p17 p18 p19 p20 p21 p22 p23 p24 (Ch.wk Ch.rf (by decide) (by decide)) (by omega) (by omega) (by omega) (by omega) (by omega) (by omega) (by omega) (by omega) p10 p11 (by
            intro x
            omega) (by omega) (by omega) (by omega) (by omega) (by omega) hK
    · refine ⟨by omega, by omega, ?_⟩
      intro q3
      refine ⟨by omega, ?_⟩
      refine tX11_element (by omega) (by omega) (by omega) (by omega) p10 p11 (fun r42 S42 hS42 n42_0 n42_1 n42_2 n42_3 n42_4 => ?_)
      refine ⟨by omega, by omega, ?_⟩
      refine ⟨by omega, ?_⟩
      intro S45 hS45e
      have hS45 : Ch [] [82] S42 S45 := Ch_A hS45e
      have hS45v : ∀ x, (x = a1 ∧ S45.2 82 x = r42) ∨ (¬ x = a1 ∧ S45.2 82 x = S42.2 82 x) := pA_at hS45e
      have e4 : S45.1 54 39 = S42.1 54 39 := hS45.1 39 (by decide)
      have e5 : S42.1 54 39 = S.1 54 39 := hS42.1 39 (by decide)
      refine tX11_put  (fun r49 S49 hS49 n49_0 n49_1 => ?_)
      have e6 : S49.2 57 (((6 + a2))) = S45.2 57 (((6 + a2))) := congrFun (hS49.2 57 (by decide)) _
      have e7 : S45.2 57 (((6 + a2))) = S42.2 57 (((6 + a2))) := congrFun (hS45.2 57 (by decide)) _
      have e8 : S42.2 57 (((6 + a2))) = S.2 57 (((6 + a2))) := congrFun (hS42.2 57 (by decide)) _
      refine tX11_putName (by omega) (by omega) (fun r55 S55 hS55 n55_0 n55_1 n55_2 => ?_)
      refine ⟨fun h59 => ?_, fun h59 => ?_⟩
      · unfold wX11_lists_68
        refine tX11_put  (fun r71 S71 hS71 n71_0 n71_1 => ?_)
        have e9 : S71.1 54 25 = S55.1 54 25 := hS71.1 25 (by decide)
        have e10 : S55.1 54 25 = S49.1 54 25 := hS55.1 25 (by decide)
        have e11 : S49.1 54 25 = S45.1 54 25 := hS49.1 25 (by decide)
        have e12 : S45.1 54 25 = S42.1 54 25 := hS45.1 25 (by decide)
        have e13 : S71.1 54 25 = S55.1 54 25 := hS71.1 25 (by decide)
        have e14 : S55.1 54 25 = S49.1 54 25 := hS55.1 25 (by decide)
        have e15 : S49.1 54 25 = S45.1 54 25 := hS49.1 25 (by decide)
        have e16 : S45.1 54 25 = S42.1 54 25 := hS45.1 25 (by decide)
        have e17 : S71.2 82 a1 = S55.2 82 a1 := congrFun (hS71.2 82 (by decide)) _
        have e18 : S55.2 82 a1 = S49.2 82 a1 := congrFun (hS55.2 82 (by decide)) _
        have e19 : S49.2 82 a1 = S45.2 82 a1 := congrFun (hS49.2 82 (by decide)) _
        have e20 : S45.2 82 a1 = (r42) := by have q := hS45v a1; omega
        have e21 : S42.2 82 a1 = S.2 82 a1 := congrFun (hS42.2 82 (by decide)) _
        have e22 : S71.1 54 25 = S55.1 54 25 := hS71.1 25 (by decide)
        have e23 : S55.1 54 25 = S49.1 54 25 := hS55.1 25 (by decide)
        have e24 : S49.1 54 25 = S45.1 54 25 := hS49.1 25 (by decide)
        have e25 : S45.1 54 25 = S42.1 54 25 := hS45.1 25 (by decide)
        have e26 : S71.1 54 25 = S55.1 54 25 := hS71.1 25 (by decide)
        have e27 : S55.1 54 25 = S49.1 54 25 := hS55.1 25 (by decide)
        have e28 : S49.1 54 25 = S45.1 54 25 := hS49.1 25 (by decide)
        have e29 : S45.1 54 25 = S42.1 54 25 := hS45.1 25 (by decide)
        exact tX11_lists_74 g1 g2 g3 g4 p1 p2 p3 p4 p5 p6 p7 p8 p9 p10 p11 p12 p13 p14 p15 p16 p17 p18 p19 p20 p21 p22 p23 p24 (Ch.wk (Ch.tr (Ch.tr (Ch.tr (Ch.tr hS42 hS45) hS49) hS55) hS71) (by decide) (by decide)) (by omega) (by omega) (by omega) (by omega) (by omega) (by omega) (by omega) (by omega) (PW.mv n42_2 (((Ch.tr (Ch.tr (Ch.tr hS45 hS49) hS55) hS71)).1 25 (by decide)) (((Ch.tr (Ch.tr (Ch.tr hS45 hS49) hS55) hS71)).2 72 (by decide))) (BW.mv2 n42_3 (((Ch.tr (Ch.tr (Ch.tr hS45 hS49) hS55) hS71)).1 25 (by decide)) (((Ch.tr (Ch.tr (Ch.tr hS45 hS49) hS55) hS71)).2 75 (by decide))) (by
              intro x
              have e30 : S71.2 82 x = S55.2 82 x := congrFun (hS71.2 82 (by decide)) _
              have e31 : S55.2 82 x = S49.2 82 x := congrFun (hS55.2 82 (by decide)) _
              have e32 : S49.2 82 x = S45.2 82 x := congrFun (hS49.2 82 (by decide)) _
              have e33 := hS45v x
              have e34 : S42.2 82 x = S.2 82 x := congrFun (hS42.2 82 (by decide)) _
              omega) (by omega) (by omega) (by omega) (by omega) (by omega) hK
      · refine tX11_put  (fun r65 S65 hS65 n65_0 n65_1 => ?_)
        unfold wX11_lists_68
        refine tX11_put  (fun r71 S71 hS71 n71_0 n71_1 => ?_)
        have e35 : S71.1 54 25 = S65.1 54 25 := hS71.1 25 (by decide)
        have e36 : S65.1 54 25 = S55.1 54 25 := hS65.1 25 (by decide)
        have e37 : S55.1 54 25 = S49.1 54 25 := hS55.1 25 (by decide)
        have e38 : S49.1 54 25 = S45.1 54 25 := hS49.1 25 (by decide)
        have e39 : S45.1 54 25 = S42.1 54 25 := hS45.1 25 (by decide)
        have e40 : S71.1 54 25 = S65.1 54 25 := hS71.1 25 (by decide)
        have e41 : S65.1 54 25 = S55.1 54 25 := hS65.1 25 (by decide)
        have e42 : S55.1 54 25 = S49.1 54 25 := hS55.1 25 (by decide)
        have e43 : S49.1 54 25 = S45.1 54 25 := hS49.1 25 (by decide)
        have e44 : S45.1 54 25 = S42.1 54 25 := hS45.1 25 (by decide)
        have e45 : S71.2 82 a1 = S65.2 82 a1 := congrFun (hS71.2 82 (by decide)) _
        have e46 : S65.2 82 a1 = S55.2 82 a1 := congrFun (hS65.2 82 (by decide)) _
        have e47 : S55.2 82 a1 = S49.2 82 a1 := congrFun (hS55.2 82 (by decide)) _
        have e48 : S49.2 82 a1 = S45.2 82 a1 := congrFun (hS49.2 82 (by decide)) _
        have e49 : S45.2 82 a1 = (r42) := by have q := hS45v a1; omega
        have e50 : S42.2 82 a1 = S.2 82 a1 := congrFun (hS42.2 82 (by decide)) _
        have e51 : S71.1 54 25 = S65.1 54 25 := hS71.1 25 (by decide)
        have e52 : S65.1 54 25 = S55.1 54 25 := hS65.1 25 (by decide)
        have e53 : S55.1 54 25 = S49.1 54 25 := hS55.1 25 (by decide)
        have e54 : S49.1 54 25 = S45.1 54 25 := hS49.1 25 (by decide)
        have e55 : S45.1 54 25 = S42.1 54 25 := hS45.1 25 (by decide)
        have e56 : S71.1 54 25 = S65.1 54 25 := hS71.1 25 (by decide)
        have e57 : S65.1 54 25 = S55.1 54 25 := hS65.1 25 (by decide)
        have e58 : S55.1 54 25 = S49.1 54 25 := hS55.1 25 (by decide)
        have e59 : S49.1 54 25 = S45.1 54 25 := hS49.1 25 (by decide)
        have e60 : S45.1 54 25 = S42.1 54 25 := hS45.1 25 (by decide)
        exact tX11_lists_74 g1 g2 g3 g4 p1 p2 p3 p4 p5 p6 p7 p8 p9 p10 p11 p12 p13 p14 p15 p16 p17 p18 p19 p20 p21 p22 p23 p24 (Ch.wk (Ch.tr (Ch.tr (Ch.tr (Ch.tr (Ch.tr hS42 hS45) hS49) hS55) hS65) hS71) (by decide) (by decide)) (by omega) (by omega) (by omega) (by omega) (by omega) (by omega) (by omega) (by omega) (PW.mv n42_2 (((Ch.tr (Ch.tr (Ch.tr (Ch.tr hS45 hS49) hS55) hS65) hS71)).1 25 (by decide)) (((Ch.tr (Ch.tr (Ch.tr (Ch.tr hS45 hS49) hS55) hS65) hS71)).2 72 (by decide))) (BW.mv2 n42_3 (((Ch.tr (Ch.tr (Ch.tr (Ch.tr hS45 hS49) hS55) hS65) hS71)).1 25 (by decide)) (((Ch.tr (Ch.tr (Ch.tr (Ch.tr hS45 hS49) hS55) hS65) hS71)).2 75 (by decide))) (by
              intro x
              have e61 : S71.2 82 x = S65.2 82 x := congrFun (hS71.2 82 (by decide)) _
              have e62 : S65.2 82 x = S55.2 82 x := congrFun (hS65.2 82 (by decide)) _
              have e63 : S55.2 82 x = S49.2 82 x := congrFun (hS55.2 82 (by decide)) _
              have e64 : S49.2 82 x = S45.2 82 x := congrFun (hS49.2 82 (by decide)) _
              have e65 := hS45v x
              have e66 : S42.2 82 x = S.2 82 x := congrFun (hS42.2 82 (by decide)) _
              omega) (by omega) (by omega) (by omega) (by omega) (by omega) hK
