set_option maxRecDepth 100000 in
set_option maxHeartbeats 4000000 in
theorem tX11_classes_142 {l1 : Int} {S S1c : St} {K : Int → St → Prop}  (p1 : iv 0 3000 ((S.1 54 0))) (hS1c : Ch [0, 2, 18, 20, 22, 23, 24] [56, 57, 58, 59, 60, 61, 62, 63, 64, 65, 66, 67] S S1c) (c1 : iv 1 6 l1) (c2 : (S1c.1 54 22) ≤ (S.1 54 0)) (c3 : (S1c.1 54 23) = 1 ∨ (S1c.1 54 23) = 0) (c4 : Ch [22, 23, 24] [62, 63, 64, 65, 66] S S1c) (c5 : ∀ x, (S1c.1 54 23) = 1 ∨ x < 0 ∨ l1 ≤ x ∨ 1 ≤ (S1c.2 63) x) (c6 : ∀ x y, (S1c.1 54 23) = 1 ∨ x < 0 ∨ l1 ≤ x ∨ y < 0 ∨ 3 < y ∨ (S1c.2 62) x ≤ y ∨ 1 ≤ (S1c.2 63) (6 + (4 * x + y))) (hK : ∀ (r : Int) (S' : St), Ch [0, 2, 18, 20, 22, 23, 24] [56, 57, 58, 59, 60, 61, 62, 63, 64, 65, 66, 67] S S' → (iv (-3001) 6 r) → (r < 0 ∨ ((S'.1 54 2) = r ∧ (S'.1 54 18) = 0 ∧ (S'.2 67) 0 = 0 ∧ (S'.2 67) 1 = 0)) → (0 ≤ r ∨ Ch [0, 22, 23, 24] [62, 63, 64, 65, 66] S S') → (∀ x, r < 0 ∨ x < 0 ∨ r ≤ x ∨ 1 ≤ (S'.2 57) x) → (∀ x y, r < 0 ∨ x < 0 ∨ r ≤ x ∨ y < 0 ∨ 3 < y ∨ (S'.2 56) x ≤ y ∨ 1 ≤ (S'.2 57) (6 + (4 * x + y))) → K r S') : wX11_classes_142 l1 S1c K := by
  unfold wX11_classes_142
  intro S144 hS144e
  have hS144 : Ch [0] [] S1c S144 := Ch_I hS144e
  have hS144v : S144.1 54 0 = 0 := pI_at hS144e
  intro q1
  have e2 : S144.1 54 23 = S1c.1 54 23 := hS144.1 23 (by decide)
  refine ⟨fun h151 => ?_, fun h151 => ?_⟩
  · refine ⟨by omega, ?_⟩
    intro S163 hS163e
    have hS163 : Ch [2] [] S144 S163 := Ch_I hS163e
    have hS163v : S163.1 54 2 = l1 := pI_at hS163e
    unfold wX11_classes_168
    refine ⟨fun u1 u3 Sx => Ch [] [57] S163 Sx ∧ l1 = u1 ∧ (iv 0 30 u3) ∧ (iv 1 6 u1) ∧ (∀ x, x < 0 ∨ u3 ≤ x ∨ (Sx.2 57) x = (S163.2 63) x), fun u1 u3 Sx => (31 - u3).toNat, ?_, fun v168_1 v168_3 S168h hI => ?_⟩
    · exact ⟨Ch.re, rfl, by omega, by omega, (by
          intro x
          omega)⟩
    obtain ⟨hS168h, rfl, i168_0, i168_1, i168_2⟩ := hI
    unfold wX11_classes_168'
    refine ⟨by omega, ?_⟩
    refine ⟨fun h171 => ?_, fun h171 => ?_⟩
    · unfold wX11_classes_194
      refine ⟨fun u1 u3 Sx => Ch [] [58] S168h Sx ∧ l1 = u1 ∧ (iv 0 240 u3), fun u1 u3 Sx => (241 - u3).toNat, ?_, fun v194_1 v194_3 S194h hI => ?_⟩
      · exact ⟨Ch.re, rfl, by omega⟩
      obtain ⟨hS194h, rfl, i194_0⟩ := hI
      unfold wX11_classes_194'
      refine ⟨by omega, ?_⟩
      refine ⟨fun h198 => ?_, fun h198 => ?_⟩
      · unfold wX11_classes_221
        refine ⟨fun u1 u3 Sx => Ch [] [59, 60] S194h Sx ∧ l1 = u1 ∧ (iv 0 24 u3), fun u1 u3 Sx => (25 - u3).toNat, ?_, fun v221_1 v221_3 S221h hI => ?_⟩
        · exact ⟨Ch.re, rfl, by omega⟩
        obtain ⟨hS221h, rfl, i221_0⟩ := hI
        unfold wX11_classes_221'
        refine ⟨by omega, ?_⟩
        refine ⟨fun h224 => ?_, fun h224 => ?_⟩
        · unfold wX11_classes_259
          refine ⟨fun u1 u3 Sx => Ch [] [56, 61] S221h Sx ∧ l1 = u1 ∧ (iv 0 6 u3) ∧ (iv 1 6 u1) ∧ (∀ x, x < 0 ∨ u3 ≤ x ∨ (Sx.2 56) x = (S221h.2 62) x), fun u1 u3 Sx => (7 - u3).toNat, ?_, fun v259_1 v259_3 S259h hI => ?_⟩
          · exact ⟨Ch.re, rfl, by omega, by omega, (by
                intro x
                omega)⟩
          obtain ⟨hS259h, rfl, i259_0, i259_1, i259_2⟩ := hI
          unfold wX11_classes_259'
          refine ⟨by omega, ?_⟩
          refine ⟨fun h262 => ?_, fun h262 => ?_⟩
          · refine ⟨by omega, by omega, ?_⟩
            intro S296 hS296e
            have hS296 : Ch [] [67] S259h S296 := Ch_A hS296e
            have hS296v : ∀ x, (x = 0 ∧ S296.2 67 x = 0) ∨ (¬ x = 0 ∧ S296.2 67 x = S259h.2 67 x) := pA_at hS296e
            refine ⟨by omega, by omega, ?_⟩
            intro S303 hS303e
            have hS303 : Ch [] [67] S296 S303 := Ch_A hS303e
            have hS303v : ∀ x, (x = 1 ∧ S303.2 67 x = 0) ∨ (¬ x = 1 ∧ S303.2 67 x = S296.2 67 x) := pA_at hS303e
            intro S306 hS306e
            have hS306 : Ch [18] [] S303 S306 := Ch_I hS306e
            have hS306v : S306.1 54 18 = 0 := pI_at hS306e
            intro S311 hS311e
            have hS311 : Ch [20] [] S306 S311 := Ch_I hS311e
            have hS311v : S311.1 54 20 = 0 := pI_at hS311e
            have e3 : S311.1 54 2 = S306.1 54 2 := hS311.1 2 (by decide)
            have e4 : S306.1 54 2 = S303.1 54 2 := hS306.1 2 (by decide)
            have e5 : S303.1 54 2 = S296.1 54 2 := hS303.1 2 (by decide)
            have e6 : S296.1 54 2 = S259h.1 54 2 := hS296.1 2 (by decide)
            have e7 : S259h.1 54 2 = S221h.1 54 2 := hS259h.1 2 (by decide)
            have e8 : S221h.1 54 2 = S194h.1 54 2 := hS221h.1 2 (by decide)
            have e9 : S194h.1 54 2 = S168h.1 54 2 := hS194h.1 2 (by decide)
            have e10 : S168h.1 54 2 = S163.1 54 2 := hS168h.1 2 (by decide)
            have e11 : S311.1 54 18 = S306.1 54 18 := hS311.1 18 (by decide)
            have e12 : S311.2 67 0 = S306.2 67 0 := congrFun (hS311.2 67 (by decide)) _
            have e13 : S306.2 67 0 = S303.2 67 0 := congrFun (hS306.2 67 (by decide)) _
            first | have e14 : S303.2 67 0 = S296.2 67 0 := by have q := hS303v 0; omega | have e14 : S303.2 67 0 = (0) := by have q := hS303v 0; omega | have e14 := hS303v 0
            have e15 : S296.2 67 0 = (0) := by have q := hS296v 0; omega
            have e16 : S259h.2 67 0 = S221h.2 67 0 := congrFun (hS259h.2 67 (by decide)) _
            have e17 : S221h.2 67 0 = S194h.2 67 0 := congrFun (hS221h.2 67 (by decide)) _
            have e18 : S194h.2 67 0 = S168h.2 67 0 := congrFun (hS194h.2 67 (by decide)) _
            have e19 : S168h.2 67 0 = S163.2 67 0 := congrFun (hS168h.2 67 (by decide)) _
            have e20 : S163.2 67 0 = S144.2 67 0 := congrFun (hS163.2 67 (by decide)) _
            have e21 : S144.2 67 0 = S1c.2 67 0 := congrFun (hS144.2 67 (by decide)) _
            have e22 : S311.2 67 1 = S306.2 67 1 := congrFun (hS311.2 67 (by decide)) _
            have e23 : S306.2 67 1 = S303.2 67 1 := congrFun (hS306.2 67 (by decide)) _
            have e24 : S303.2 67 1 = (0) := by have q := hS303v 1; omega
            first | have e25 : S296.2 67 1 = S259h.2 67 1 := by have q := hS296v 1; omega | have e25 : S296.2 67 1 = (0) := by have q := hS296v 1; omega | have e25 := hS296v 1
            have e26 : S259h.2 67 1 = S221h.2 67 1 := congrFun (hS259h.2 67 (by decide)) _
            have e27 : S221h.2 67 1 = S194h.2 67 1 := congrFun (hS221h.2 67 (by decide)) _
            have e28 : S194h.2 67 1 = S168h.2 67 1 := congrFun (hS194h.2 67 (by decide)) _
            have e29 : S168h.2 67 1 = S163.2 67 1 := congrFun (hS168h.2 67 (by decide)) _
            have e30 : S163.2 67 1 = S144.2 67 1 := congrFun (hS163.2 67 (by decide)) _
            have e31 : S144.2 67 1 = S1c.2 67 1 := congrFun (hS144.2 67 (by decide)) _
            exact hK (l1) S311 (Ch.wk (Ch.tr (Ch.tr (Ch.tr (Ch.tr (Ch.tr (Ch.tr (Ch.tr (Ch.tr (Ch.tr (Ch.tr hS1c hS144) hS163) hS168h) hS194h) hS221h) hS259h) hS296) hS303) hS306) hS311) (by decide) (by decide)) (by omega) (by omega) (Or.inl (by omega)) (by
                  intro x
                  have e32 : S311.2 57 x = S306.2 57 x := congrFun (hS311.2 57 (by decide)) _
                  have e33 : S306.2 57 x = S303.2 57 x := congrFun (hS306.2 57 (by decide)) _
                  have e34 : S303.2 57 x = S296.2 57 x := congrFun (hS303.2 57 (by decide)) _
                  have e35 : S296.2 57 x = S259h.2 57 x := congrFun (hS296.2 57 (by decide)) _
                  have e36 : S259h.2 57 x = S221h.2 57 x := congrFun (hS259h.2 57 (by decide)) _
                  have e37 : S221h.2 57 x = S194h.2 57 x := congrFun (hS221h.2 57 (by decide)) _
                  have e38 : S194h.2 57 x = S168h.2 57 x := congrFun (hS194h.2 57 (by decide)) _
                  have e39 := i168_2 x
                  have e40 := c5 x
                  have e41 := congrFun (hS163.2 63 (by decide)) (x)
                  have e42 := congrFun (hS144.2 63 (by decide)) (x)
                  omega) (by
                  intro x y
                  have e43 : S311.2 57 (6 + (4 * x + y)) = S306.2 57 (6 + (4 * x + y)) := congrFun (hS311.2 57 (by decide)) _
                  have e44 : S306.2 57 (6 + (4 * x + y)) = S303.2 57 (6 + (4 * x + y)) := congrFun (hS306.2 57 (by decide)) _
                  have e45 : S303.2 57 (6 + (4 * x + y)) = S296.2 57 (6 + (4 * x + y)) := congrFun (hS303.2 57 (by decide)) _
                  have e46 : S296.2 57 (6 + (4 * x + y)) = S259h.2 57 (6 + (4 * x + y)) := congrFun (hS296.2 57 (by decide)) _
                  have e47 : S259h.2 57 (6 + (4 * x + y)) = S221h.2 57 (6 + (4 * x + y)) := congrFun (hS259h.2 57 (by decide)) _
                  have e48 : S221h.2 57 (6 + (4 * x + y)) = S194h.2 57 (6 + (4 * x + y)) := congrFun (hS221h.2 57 (by decide)) _
                  have e49 : S194h.2 57 (6 + (4 * x + y)) = S168h.2 57 (6 + (4 * x + y)) := congrFun (hS194h.2 57 (by decide)) _
                  have e50 : S311.2 56 x = S306.2 56 x := congrFun (hS311.2 56 (by decide)) _
                  have e51 : S306.2 56 x = S303.2 56 x := congrFun (hS306.2 56 (by decide)) _
                  have e52 : S303.2 56 x = S296.2 56 x := congrFun (hS303.2 56 (by decide)) _
                  have e53 : S296.2 56 x = S259h.2 56 x := congrFun (hS296.2 56 (by decide)) _
                  have e54 := i168_2 (6 + (4 * x + y))
                  have e55 := i259_2 x
                  have e56 := c6 x y
                  have e57 := congrFun (hS163.2 63 (by decide)) (6 + (4 * x + y))
                  have e58 := congrFun (hS144.2 63 (by decide)) (6 + (4 * x + y))
                  have e59 := congrFun (hS221h.2 62 (by decide)) (x)
                  have e60 := congrFun (hS194h.2 62 (by decide)) (x)
                  have e61 := congrFun (hS168h.2 62 (by decide)) (x)
                  have e62 := congrFun (hS163.2 62 (by decide)) (x)
                  have e63 := congrFun (hS144.2 62 (by decide)) (x)
                  omega)
          · refine ⟨by omega, by omega, ?_⟩
            intro q64
            have e65 : S259h.2 62 (v259_3) = S221h.2 62 (v259_3) := congrFun (hS259h.2 62 (by decide)) _
            have e66 : S221h.2 62 (v259_3) = S194h.2 62 (v259_3) := congrFun (hS221h.2 62 (by decide)) _
            have e67 : S194h.2 62 (v259_3) = S168h.2 62 (v259_3) := congrFun (hS194h.2 62 (by decide)) _
            have e68 : S168h.2 62 (v259_3) = S163.2 62 (v259_3) := congrFun (hS168h.2 62 (by decide)) _
            have e69 : S163.2 62 (v259_3) = S144.2 62 (v259_3) := congrFun (hS163.2 62 (by decide)) _
            have e70 : S144.2 62 (v259_3) = S1c.2 62 (v259_3) := congrFun (hS144.2 62 (by decide)) _
            refine ⟨by omega, by omega, ?_⟩
            intro S276 hS276e
            have hS276 : Ch [] [56] S259h S276 := Ch_A hS276e
            have hS276v : ∀ x, (x = v259_3 ∧ S276.2 56 x = S259h.2 62 (v259_3)) ∨ (¬ x = v259_3 ∧ S276.2 56 x = S259h.2 56 x) := pA_at hS276e
            refine ⟨by omega, by omega, ?_⟩
            intro S283 hS283e
            have hS283 : Ch [] [61] S276 S283 := Ch_A hS283e
            have hS283v : ∀ x, (x = v259_3 ∧ S283.2 61 x = 0) ∨ (¬ x = v259_3 ∧ S283.2 61 x = S276.2 61 x) := pA_at hS283e
            exact ⟨⟨(Ch.wk (Ch.tr (Ch.tr hS259h hS276) hS283) (by decide) (by decide)), rfl, by omega, by omega, (by
                  intro x
                  have e71 : S283.2 56 x = S276.2 56 x := congrFun (hS283.2 56 (by decide)) _
                  have e72 := hS276v x
                  have e73 : S283.2 62 x = S276.2 62 x := congrFun (hS283.2 62 (by decide)) _
                  have e74 : S276.2 62 x = S259h.2 62 x := congrFun (hS276.2 62 (by decide)) _
                  have e75 : S259h.2 62 x = S221h.2 62 x := congrFun (hS259h.2 62 (by decide)) _
                  have e76 : S221h.2 62 x = S194h.2 62 x := congrFun (hS221h.2 62 (by decide)) _
                  have e77 : S194h.2 62 x = S168h.2 62 x := congrFun (hS194h.2 62 (by decide)) _
                  have e78 : S168h.2 62 x = S163.2 62 x := congrFun (hS168h.2 62 (by decide)) _
                  have e79 : S163.2 62 x = S144.2 62 x := congrFun (hS163.2 62 (by decide)) _
                  have e80 : S144.2 62 x = S1c.2 62 x := congrFun (hS144.2 62 (by decide)) _
                  have e81 := i259_2 x
                  by_cases hx : x = v259_3
                  · subst hx; omega
                  · omega)⟩, show (7 - ((v259_3 + 1))).toNat < (7 - v259_3).toNat by omega⟩
        · refine ⟨by omega, by omega, ?_⟩
          intro q82
          have e83 : S221h.2 65 (v221_3) = S194h.2 65 (v221_3) := congrFun (hS221h.2 65 (by decide)) _
          have e84 : S194h.2 65 (v221_3) = S168h.2 65 (v221_3) := congrFun (hS194h.2 65 (by decide)) _
          have e85 : S168h.2 65 (v221_3) = S163.2 65 (v221_3) := congrFun (hS168h.2 65 (by decide)) _
          have e86 : S163.2 65 (v221_3) = S144.2 65 (v221_3) := congrFun (hS163.2 65 (by decide)) _
          have e87 : S144.2 65 (v221_3) = S1c.2 65 (v221_3) := congrFun (hS144.2 65 (by decide)) _
          refine ⟨by omega, by omega, ?_⟩
          intro S238 hS238e
          have hS238 : Ch [] [59] S221h S238 := Ch_A hS238e
          have hS238v : ∀ x, (x = v221_3 ∧ S238.2 59 x = S221h.2 65 (v221_3)) ∨ (¬ x = v221_3 ∧ S238.2 59 x = S221h.2 59 x) := pA_at hS238e
          refine ⟨by omega, by omega, ?_⟩
          intro q88
          have e89 : S238.2 66 (v221_3) = S221h.2 66 (v221_3) := congrFun (hS238.2 66 (by decide)) _
          have e90 : S221h.2 66 (v221_3) = S194h.2 66 (v221_3) := congrFun (hS221h.2 66 (by decide)) _
          have e91 : S194h.2 66 (v221_3) = S168h.2 66 (v221_3) := congrFun (hS194h.2 66 (by decide)) _
          have e92 : S168h.2 66 (v221_3) = S163.2 66 (v221_3) := congrFun (hS168h.2 66 (by decide)) _
          have e93 : S163.2 66 (v221_3) = S144.2 66 (v221_3) := congrFun (hS163.2 66 (by decide)) _
          have e94 : S144.2 66 (v221_3) = S1c.2 66 (v221_3) := congrFun (hS144.2 66 (by decide)) _
          refine ⟨by omega, by omega, ?_⟩
          intro S250 hS250e
          have hS250 : Ch [] [60] S238 S250 := Ch_A hS250e
          have hS250v : ∀ x, (x = v221_3 ∧ S250.2 60 x = S238.2 66 (v221_3)) ∨ (¬ x = v221_3 ∧ S250.2 60 x = S238.2 60 x) := pA_at hS250e
          exact ⟨⟨(Ch.wk (Ch.tr (Ch.tr hS221h hS238) hS250) (by decide) (by decide)), rfl, by omega⟩, show (25 - ((v221_3 + 1))).toNat < (25 - v221_3).toNat by omega⟩
      · refine ⟨by omega, by omega, ?_⟩
        intro q95
        have e96 : S194h.2 64 (v194_3) = S168h.2 64 (v194_3) := congrFun (hS194h.2 64 (by decide)) _
        have e97 : S168h.2 64 (v194_3) = S163.2 64 (v194_3) := congrFun (hS168h.2 64 (by decide)) _
        have e98 : S163.2 64 (v194_3) = S144.2 64 (v194_3) := congrFun (hS163.2 64 (by decide)) _
        have e99 : S144.2 64 (v194_3) = S1c.2 64 (v194_3) := congrFun (hS144.2 64 (by decide)) _
        refine ⟨by omega, by omega, ?_⟩
        intro S212 hS212e
        have hS212 : Ch [] [58] S194h S212 := Ch_A hS212e
        have hS212v : ∀ x, (x = v194_3 ∧ S212.2 58 x = S194h.2 64 (v194_3)) ∨ (¬ x = v194_3 ∧ S212.2 58 x = S194h.2 58 x) := pA_at hS212e
        exact ⟨⟨(Ch.wk (Ch.tr hS194h hS212) (by decide) (by decide)), rfl, by omega⟩, show (241 - ((v194_3 + 1))).toNat < (241 - v194_3).toNat by omega⟩
    · refine ⟨by omega, by omega, ?_⟩
      intro q100
      have e101 : S168h.2 63 (v168_3) = S163.2 63 (v168_3) := congrFun (hS168h.2 63 (by decide)) _
      have e102 : S163.2 63 (v168_3) = S144.2 63 (v168_3) := congrFun (hS163.2 63 (by decide)) _
      have e103 : S144.2 63 (v168_3) = S1c.2 63 (v168_3) := congrFun (hS144.2 63 (by decide)) _
      refine ⟨by omega, by omega, ?_⟩
      intro S185 hS185e
      have hS185 : Ch [] [57] S168h S185 := Ch_A hS185e
      have hS185v : ∀ x, (x = v168_3 ∧ S185.2 57 x = S168h.2 63 (v168_3)) ∨ (¬ x = v168_3 ∧ S185.2 57 x = S168h.2 57 x) := pA_at hS185e
      exact ⟨⟨(Ch.wk (Ch.tr hS168h hS185) (by decide) (by decide)), rfl, by omega, by omega, (by
            intro x
            have e104 := hS185v x
            have e105 : S185.2 63 x = S168h.2 63 x := congrFun (hS185.2 63 (by decide)) _
            have e106 : S168h.2 63 x = S163.2 63 x := congrFun (hS168h.2 63 (by decide)) _
            have e107 : S163.2 63 x = S144.2 63 x := congrFun (hS163.2 63 (by decide)) _
            have e108 : S144.2 63 x = S1c.2 63 x := congrFun (hS144.2 63 (by decide)) _
            have e109 := i168_2 x
            by_cases hx : x = v168_3
            · subst hx; omega
            · omega)⟩, show (31 - ((v168_3 + 1))).toNat < (31 - v168_3).toNat by omega⟩
  · intro q110
    have e111 : S144.1 54 22 = S1c.1 54 22 := hS144.1 22 (by decide)
    have e112 : S144.1 54 2 = S1c.1 54 2 := hS144.1 2 (by decide)
    have e113 : S144.1 54 18 = S1c.1 54 18 := hS144.1 18 (by decide)
    have e114 : S144.2 67 0 = S1c.2 67 0 := congrFun (hS144.2 67 (by decide)) _
    have e115 : S144.2 67 1 = S1c.2 67 1 := congrFun (hS144.2 67 (by decide)) _
    exact hK (((-1) - S144.1 54 22)) S144 (Ch.wk (Ch.tr hS1c hS144) (by decide) (by decide)) (by omega) (by omega) (Or.inr (Ch.wk (Ch.tr c4 hS144) (by decide) (by decide))) (fun x => Or.inl (by omega)) (fun x y => Or.inl (by omega))
set_option maxRecDepth 100000 in
set_option maxHeartbeats 4000000 in
theorem tX11_classes {S : St} {K : Int → St → Prop} (p1 : iv 0 3000 ((S.1 54 0))) (hK : ∀ (r : Int) (S' : St), Ch [0, 2, 18, 20, 22, 23, 24] [56, 57, 58, 59, 60, 61, 62, 63, 64, 65, 66, 67] S S' → (iv (-3001) 6 r) → (r < 0 ∨ ((S'.1 54 2) = r ∧ (S'.1 54 18) = 0 ∧ (S'.2 67) 0 = 0 ∧ (S'.2 67) 1 = 0)) → (0 ≤ r ∨ Ch [0, 22, 23, 24] [62, 63, 64, 65, 66] S S') → (∀ x, r < 0 ∨ x < 0 ∨ r ≤ x ∨ 1 ≤ (S'.2 57) x) → (∀ x y, r < 0 ∨ x < 0 ∨ r ≤ x ∨ y < 0 ∨ 3 < y ∨ (S'.2 56) x ≤ y ∨ 1 ≤ (S'.2 57) (6 + (4 * x + y))) → K r S') : wX11_classes  S K := by
  unfold wX11_classes
  intro S2 hS2e
  have hS2 : Ch [22] [] S S2 := Ch_I hS2e
  have hS2v : S2.1 54 22 = 0 := pI_at hS2e
  intro S7 hS7e
  have hS7 : Ch [23] [] S2 S7 := Ch_I hS7e
  have hS7v : S7.1 54 23 = 0 := pI_at hS7e
  intro S12 hS12e
  have hS12 : Ch [24] [] S7 S12 := Ch_I hS12e
  have hS12v : S12.1 54 24 = 0 := pI_at hS12e
  unfold wX11_classes_19
  have e1 : S12.1 54 22 = S7.1 54 22 := hS12.1 22 (by decide)
  have e2 : S7.1 54 22 = S2.1 54 22 := hS7.1 22 (by decide)
  have e3 : S12.1 54 23 = S7.1 54 23 := hS12.1 23 (by decide)
  have e4 : S12.1 54 23 = S7.1 54 23 := hS12.1 23 (by decide)
  have e5 : S12.1 54 23 = S7.1 54 23 := hS12.1 23 (by decide)
  refine ⟨fun u1 u2 Sx => Ch [22, 23, 24] [62, 63, 64, 65, 66] S12 Sx ∧ (iv 0 1 u2) ∧ (iv 0 6 u1) ∧ (u2 = 0 ∨ u1 ≤ 5) ∧ ((Sx.1 54 22) ≤ (S.1 54 0)) ∧ (u2 = 0 ∨ (Sx.1 54 23) = 0) ∧ (∀ x, (Sx.1 54 23) = 1 ∨ x < 0 ∨ u1 ≤ x ∨ 1 ≤ (Sx.2 63) x) ∧ (∀ x y, (Sx.1 54 23) = 1 ∨ x < 0 ∨ u1 ≤ x ∨ y < 0 ∨ 3 < y ∨ (Sx.2 62) x ≤ y ∨ 1 ≤ (Sx.2 63) (6 + (4 * x + y))) ∧ (u2 = 1 ∨ 1 ≤ u1), fun u1 u2 Sx => (7 - u1).toNat, ?_, fun v19_1 v19_2 S19h hI => ?_⟩
  · exact ⟨Ch.re, by omega, by omega, by omega, by omega, by omega, (by
        intro x
        omega), (by
        intro x y
        omega), by omega⟩
  obtain ⟨hS19h, i19_0, i19_1, i19_2, i19_3, i19_4, i19_5, i19_6, i19_7⟩ := hI
  unfold wX11_classes_19'
  refine ⟨by omega, ?_⟩
  refine ⟨fun h20 => ?_, fun h20 => ?_⟩
  · intro q6
    intro q7
    have e8 : S19h.1 54 0 = S12.1 54 0 := hS19h.1 0 (by decide)
    have e9 : S12.1 54 0 = S7.1 54 0 := hS12.1 0 (by decide)
    have e10 : S7.1 54 0 = S2.1 54 0 := hS7.1 0 (by decide)
    have e11 : S2.1 54 0 = S.1 54 0 := hS2.1 0 (by decide)
    refine ⟨fun h96 => ?_, fun h96 => ?_⟩
    · unfold wX11_classes_104
      refine ⟨by omega, ?_⟩
      refine tX11_want (by omega) (fun r104 S104 hS104 n104_0 => ?_)
      intro q12
      refine ⟨fun h111 => ?_, fun h111 => ?_⟩
      · have e13 : S104.1 54 22 = S19h.1 54 22 := hS104.1 22 (by decide)
        exact tX11_classes_142  p1 (Ch.wk (Ch.tr (Ch.tr (Ch.tr (Ch.tr hS2 hS7) hS12) hS19h) hS104) (by decide) (by decide)) (by omega) (by omega) (by omega) (Ch.wk (Ch.tr (Ch.tr (Ch.tr (Ch.tr hS2 hS7) hS12) hS19h) hS104) (by decide) (by decide)) (by
              intro x
              have e14 : S104.2 63 x = S19h.2 63 x := congrFun (hS104.2 63 (by decide)) _
              have e15 := i19_5 x
              omega) (by
              intro x y
              have e16 : S104.2 63 (6 + (4 * x + y)) = S19h.2 63 (6 + (4 * x + y)) := congrFun (hS104.2 63 (by decide)) _
              have e17 : S104.2 62 x = S19h.2 62 x := congrFun (hS104.2 62 (by decide)) _
              have e18 := i19_6 x y
              omega) hK
      · intro q19
        have e20 : S104.1 54 24 = S19h.1 54 24 := hS104.1 24 (by decide)
        refine ⟨fun h118 => ?_, fun h118 => ?_⟩
        · unfold wX11_classes_129
          intro q21
          have e22 : S104.1 54 0 = S19h.1 54 0 := hS104.1 0 (by decide)
          have e23 : S19h.1 54 0 = S12.1 54 0 := hS19h.1 0 (by decide)
          have e24 : S12.1 54 0 = S7.1 54 0 := hS12.1 0 (by decide)
          have e25 : S7.1 54 0 = S2.1 54 0 := hS7.1 0 (by decide)
          have e26 : S2.1 54 0 = S.1 54 0 := hS2.1 0 (by decide)
          intro S134 hS134e
          have hS134 : Ch [22] [] S104 S134 := Ch_I hS134e
          have hS134v : S134.1 54 22 = S104.1 54 0 := pI_at hS134e
          intro S139 hS139e
          have hS139 : Ch [23] [] S134 S139 := Ch_I hS139e
          have hS139v : S139.1 54 23 = 1 := pI_at hS139e
          have e27 : S139.1 54 22 = S134.1 54 22 := hS139.1 22 (by decide)
          exact tX11_classes_142  p1 (Ch.wk (Ch.tr (Ch.tr (Ch.tr (Ch.tr (Ch.tr (Ch.tr hS2 hS7) hS12) hS19h) hS104) hS134) hS139) (by decide) (by decide)) (by omega) (by omega) (by omega) (Ch.wk (Ch.tr (Ch.tr (Ch.tr (Ch.tr (Ch.tr (Ch.tr hS2 hS7) hS12) hS19h) hS104) hS134) hS139) (by decide) (by decide)) (by
                intro x
                have e28 : S139.2 63 x = S134.2 63 x := congrFun (hS139.2 63 (by decide)) _
                have e29 : S134.2 63 x = S104.2 63 x := congrFun (hS134.2 63 (by decide)) _
                have e30 : S104.2 63 x = S19h.2 63 x := congrFun (hS104.2 63 (by decide)) _
                have e31 := i19_5 x
                omega) (by
                intro x y
                have e32 : S139.2 63 (6 + (4 * x + y)) = S134.2 63 (6 + (4 * x + y)) := congrFun (hS139.2 63 (by decide)) _
                have e33 : S134.2 63 (6 + (4 * x + y)) = S104.2 63 (6 + (4 * x + y)) := congrFun (hS134.2 63 (by decide)) _
                have e34 : S104.2 63 (6 + (4 * x + y)) = S19h.2 63 (6 + (4 * x + y)) := congrFun (hS104.2 63 (by decide)) _
                have e35 : S139.2 62 x = S134.2 62 x := congrFun (hS139.2 62 (by decide)) _
                have e36 : S134.2 62 x = S104.2 62 x := congrFun (hS134.2 62 (by decide)) _
                have e37 : S104.2 62 x = S19h.2 62 x := congrFun (hS104.2 62 (by decide)) _
                have e38 := i19_6 x y
                omega) hK
        · refine ⟨by omega, ?_⟩
          refine tX11_isMixed (by omega) (fun r123 n123_0 => ?_)
          refine ⟨by omega, ?_⟩
          refine ⟨fun h126 => ?_, fun h126 => ?_⟩
          · have e39 : S104.1 54 22 = S19h.1 54 22 := hS104.1 22 (by decide)
            exact tX11_classes_142  p1 (Ch.wk (Ch.tr (Ch.tr (Ch.tr (Ch.tr hS2 hS7) hS12) hS19h) hS104) (by decide) (by decide)) (by omega) (by omega) (by omega) (Ch.wk (Ch.tr (Ch.tr (Ch.tr (Ch.tr hS2 hS7) hS12) hS19h) hS104) (by decide) (by decide)) (by
                  intro x
                  have e40 : S104.2 63 x = S19h.2 63 x := congrFun (hS104.2 63 (by decide)) _
                  have e41 := i19_5 x
                  omega) (by
                  intro x y
                  have e42 : S104.2 63 (6 + (4 * x + y)) = S19h.2 63 (6 + (4 * x + y)) := congrFun (hS104.2 63 (by decide)) _
                  have e43 : S104.2 62 x = S19h.2 62 x := congrFun (hS104.2 62 (by decide)) _
                  have e44 := i19_6 x y
                  omega) hK
          · unfold wX11_classes_129
            intro q45
            have e46 : S104.1 54 0 = S19h.1 54 0 := hS104.1 0 (by decide)
            have e47 : S19h.1 54 0 = S12.1 54 0 := hS19h.1 0 (by decide)
            have e48 : S12.1 54 0 = S7.1 54 0 := hS12.1 0 (by decide)
            have e49 : S7.1 54 0 = S2.1 54 0 := hS7.1 0 (by decide)
            have e50 : S2.1 54 0 = S.1 54 0 := hS2.1 0 (by decide)
            intro S134 hS134e
            have hS134 : Ch [22] [] S104 S134 := Ch_I hS134e
            have hS134v : S134.1 54 22 = S104.1 54 0 := pI_at hS134e
            intro S139 hS139e
            have hS139 : Ch [23] [] S134 S139 := Ch_I hS139e
            have hS139v : S139.1 54 23 = 1 := pI_at hS139e
            have e51 : S139.1 54 22 = S134.1 54 22 := hS139.1 22 (by decide)
            exact tX11_classes_142  p1 (Ch.wk (Ch.tr (Ch.tr (Ch.tr (Ch.tr (Ch.tr (Ch.tr hS2 hS7) hS12) hS19h) hS104) hS134) hS139) (by decide) (by decide)) (by omega) (by omega) (by omega) (Ch.wk (Ch.tr (Ch.tr (Ch.tr (Ch.tr (Ch.tr (Ch.tr hS2 hS7) hS12) hS19h) hS104) hS134) hS139) (by decide) (by decide)) (by
                  intro x
                  have e52 : S139.2 63 x = S134.2 63 x := congrFun (hS139.2 63 (by decide)) _
                  have e53 : S134.2 63 x = S104.2 63 x := congrFun (hS134.2 63 (by decide)) _
                  have e54 : S104.2 63 x = S19h.2 63 x := congrFun (hS104.2 63 (by decide)) _
                  have e55 := i19_5 x
                  omega) (by
                  intro x y
                  have e56 : S139.2 63 (6 + (4 * x + y)) = S134.2 63 (6 + (4 * x + y)) := congrFun (hS139.2 63 (by decide)) _
                  have e57 : S134.2 63 (6 + (4 * x + y)) = S104.2 63 (6 + (4 * x + y)) := congrFun (hS134.2 63 (by decide)) _
                  have e58 : S104.2 63 (6 + (4 * x + y)) = S19h.2 63 (6 + (4 * x + y)) := congrFun (hS104.2 63 (by decide)) _
                  have e59 : S139.2 62 x = S134.2 62 x := congrFun (hS139.2 62 (by decide)) _
                  have e60 : S134.2 62 x = S104.2 62 x := congrFun (hS134.2 62 (by decide)) _
                  have e61 : S104.2 62 x = S19h.2 62 x := congrFun (hS104.2 62 (by decide)) _
                  have e62 := i19_6 x y
                  omega) hK
    · unfold wX11_classes_104
      refine ⟨by omega, ?_⟩
      refine tX11_want (by omega) (fun r104 S104 hS104 n104_0 => ?_)
      intro q63
      refine ⟨fun h111 => ?_, fun h111 => ?_⟩
      · have e64 : S104.1 54 22 = S19h.1 54 22 := hS104.1 22 (by decide)
        exact tX11_classes_142  p1 (Ch.wk (Ch.tr (Ch.tr (Ch.tr (Ch.tr hS2 hS7) hS12) hS19h) hS104) (by decide) (by decide)) (by omega) (by omega) (by omega) (Ch.wk (Ch.tr (Ch.tr (Ch.tr (Ch.tr hS2 hS7) hS12) hS19h) hS104) (by decide) (by decide)) (by
              intro x
              have e65 : S104.2 63 x = S19h.2 63 x := congrFun (hS104.2 63 (by decide)) _
              have e66 := i19_5 x
              omega) (by
              intro x y
              have e67 : S104.2 63 (6 + (4 * x + y)) = S19h.2 63 (6 + (4 * x + y)) := congrFun (hS104.2 63 (by decide)) _
              have e68 : S104.2 62 x = S19h.2 62 x := congrFun (hS104.2 62 (by decide)) _
              have e69 := i19_6 x y
              omega) hK
      · intro q70
        have e71 : S104.1 54 24 = S19h.1 54 24 := hS104.1 24 (by decide)
        refine ⟨fun h118 => ?_, fun h118 => ?_⟩
        · unfold wX11_classes_129
          intro q72
          have e73 : S104.1 54 0 = S19h.1 54 0 := hS104.1 0 (by decide)
          have e74 : S19h.1 54 0 = S12.1 54 0 := hS19h.1 0 (by decide)
          have e75 : S12.1 54 0 = S7.1 54 0 := hS12.1 0 (by decide)
          have e76 : S7.1 54 0 = S2.1 54 0 := hS7.1 0 (by decide)
          have e77 : S2.1 54 0 = S.1 54 0 := hS2.1 0 (by decide)
          intro S134 hS134e
          have hS134 : Ch [22] [] S104 S134 := Ch_I hS134e
          have hS134v : S134.1 54 22 = S104.1 54 0 := pI_at hS134e
          intro S139 hS139e
          have hS139 : Ch [23] [] S134 S139 := Ch_I hS139e
          have hS139v : S139.1 54 23 = 1 := pI_at hS139e
          have e78 : S139.1 54 22 = S134.1 54 22 := hS139.1 22 (by decide)
          exact tX11_classes_142  p1 (Ch.wk (Ch.tr (Ch.tr (Ch.tr (Ch.tr (Ch.tr (Ch.tr hS2 hS7) hS12) hS19h) hS104) hS134) hS139) (by decide) (by decide)) (by omega) (by omega) (by omega) (Ch.wk (Ch.tr (Ch.tr (Ch.tr (Ch.tr (Ch.tr (Ch.tr hS2 hS7) hS12) hS19h) hS104) hS134) hS139) (by decide) (by decide)) (by
                intro x
                have e79 : S139.2 63 x = S134.2 63 x := congrFun (hS139.2 63 (by decide)) _
                have e80 : S134.2 63 x = S104.2 63 x := congrFun (hS134.2 63 (by decide)) _
                have e81 : S104.2 63 x = S19h.2 63 x := congrFun (hS104.2 63 (by decide)) _
                have e82 := i19_5 x
                omega) (by
                intro x y
                have e83 : S139.2 63 (6 + (4 * x + y)) = S134.2 63 (6 + (4 * x + y)) := congrFun (hS139.2 63 (by decide)) _
                have e84 : S134.2 63 (6 + (4 * x + y)) = S104.2 63 (6 + (4 * x + y)) := congrFun (hS134.2 63 (by decide)) _
                have e85 : S104.2 63 (6 + (4 * x + y)) = S19h.2 63 (6 + (4 * x + y)) := congrFun (hS104.2 63 (by decide)) _
                have e86 : S139.2 62 x = S134.2 62 x := congrFun (hS139.2 62 (by decide)) _
                have e87 : S134.2 62 x = S104.2 62 x := congrFun (hS134.2 62 (by decide)) _
                have e88 : S104.2 62 x = S19h.2 62 x := congrFun (hS104.2 62 (by decide)) _
                have e89 := i19_6 x y
                omega) hK
        · refine ⟨by omega, ?_⟩
          refine tX11_isMixed (by omega) (fun r123 n123_0 => ?_)
          refine ⟨by omega, ?_⟩
          refine ⟨fun h126 => ?_, fun h126 => ?_⟩
          · have e90 : S104.1 54 22 = S19h.1 54 22 := hS104.1 22 (by decide)
            exact tX11_classes_142  p1 (Ch.wk (Ch.tr (Ch.tr (Ch.tr (Ch.tr hS2 hS7) hS12) hS19h) hS104) (by decide) (by decide)) (by omega) (by omega) (by omega) (Ch.wk (Ch.tr (Ch.tr (Ch.tr (Ch.tr hS2 hS7) hS12) hS19h) hS104) (by decide) (by decide)) (by
                  intro x
                  have e91 : S104.2 63 x = S19h.2 63 x := congrFun (hS104.2 63 (by decide)) _
                  have e92 := i19_5 x
                  omega) (by
                  intro x y
                  have e93 : S104.2 63 (6 + (4 * x + y)) = S19h.2 63 (6 + (4 * x + y)) := congrFun (hS104.2 63 (by decide)) _
                  have e94 : S104.2 62 x = S19h.2 62 x := congrFun (hS104.2 62 (by decide)) _
                  have e95 := i19_6 x y
                  omega) hK
          · unfold wX11_classes_129
            intro q96
            have e97 : S104.1 54 0 = S19h.1 54 0 := hS104.1 0 (by decide)
            have e98 : S19h.1 54 0 = S12.1 54 0 := hS19h.1 0 (by decide)
            have e99 : S12.1 54 0 = S7.1 54 0 := hS12.1 0 (by decide)
            have e100 : S7.1 54 0 = S2.1 54 0 := hS7.1 0 (by decide)
            have e101 : S2.1 54 0 = S.1 54 0 := hS2.1 0 (by decide)
            intro S134 hS134e
            have hS134 : Ch [22] [] S104 S134 := Ch_I hS134e
            have hS134v : S134.1 54 22 = S104.1 54 0 := pI_at hS134e
            intro S139 hS139e
            have hS139 : Ch [23] [] S134 S139 := Ch_I hS139e
            have hS139v : S139.1 54 23 = 1 := pI_at hS139e
            have e102 : S139.1 54 22 = S134.1 54 22 := hS139.1 22 (by decide)
            exact tX11_classes_142  p1 (Ch.wk (Ch.tr (Ch.tr (Ch.tr (Ch.tr (Ch.tr (Ch.tr hS2 hS7) hS12) hS19h) hS104) hS134) hS139) (by decide) (by decide)) (by omega) (by omega) (by omega) (Ch.wk (Ch.tr (Ch.tr (Ch.tr (Ch.tr (Ch.tr (Ch.tr hS2 hS7) hS12) hS19h) hS104) hS134) hS139) (by decide) (by decide)) (by
                  intro x
                  have e103 : S139.2 63 x = S134.2 63 x := congrFun (hS139.2 63 (by decide)) _
                  have e104 : S134.2 63 x = S104.2 63 x := congrFun (hS134.2 63 (by decide)) _
                  have e105 : S104.2 63 x = S19h.2 63 x := congrFun (hS104.2 63 (by decide)) _
                  have e106 := i19_5 x
                  omega) (by
                  intro x y
                  have e107 : S139.2 63 (6 + (4 * x + y)) = S134.2 63 (6 + (4 * x + y)) := congrFun (hS139.2 63 (by decide)) _
                  have e108 : S134.2 63 (6 + (4 * x + y)) = S104.2 63 (6 + (4 * x + y)) := congrFun (hS134.2 63 (by decide)) _
                  have e109 : S104.2 63 (6 + (4 * x + y)) = S19h.2 63 (6 + (4 * x + y)) := congrFun (hS104.2 63 (by decide)) _
                  have e110 : S139.2 62 x = S134.2 62 x := congrFun (hS139.2 62 (by decide)) _
                  have e111 : S134.2 62 x = S104.2 62 x := congrFun (hS134.2 62 (by decide)) _
                  have e112 : S104.2 62 x = S19h.2 62 x := congrFun (hS104.2 62 (by decide)) _
                  have e113 := i19_6 x y
                  omega) hK
  · refine ⟨by omega, ?_⟩
    have e114 : S19h.1 54 0 = S12.1 54 0 := hS19h.1 0 (by decide)
    have e115 : S12.1 54 0 = S7.1 54 0 := hS12.1 0 (by decide)
    have e116 : S7.1 54 0 = S2.1 54 0 := hS7.1 0 (by decide)
    have e117 : S2.1 54 0 = S.1 54 0 := hS2.1 0 (by decide)
    have e118 : S19h.1 54 0 = S12.1 54 0 := hS19h.1 0 (by decide)
    have e119 : S12.1 54 0 = S7.1 54 0 := hS12.1 0 (by decide)
    have e120 : S7.1 54 0 = S2.1 54 0 := hS7.1 0 (by decide)
    have e121 : S2.1 54 0 = S.1 54 0 := hS2.1 0 (by decide)
    have e122 : S19h.1 54 0 = S12.1 54 0 := hS19h.1 0 (by decide)
    have e123 : S12.1 54 0 = S7.1 54 0 := hS12.1 0 (by decide)
    have e124 : S7.1 54 0 = S2.1 54 0 := hS7.1 0 (by decide)
    have e125 : S2.1 54 0 = S.1 54 0 := hS2.1 0 (by decide)
    refine tX11_oneClass (by omega) (by omega) (by omega) (by omega) (fun r25 S25 hS25 n25_0 n25_1 n25_2 n25_3 n25_4 => ?_)
    intro q126
    refine ⟨fun h35 => ?_, fun h35 => ?_⟩
    · unfold wX11_classes_61
      unfold wX11_classes_62
      refine ⟨by omega, ?_⟩
      refine ⟨fun h65 => ?_, fun h65 => ?_⟩
      · intro q127
        unfold wX11_classes_81
        refine ⟨by omega, ?_⟩
        intro S81 hS81e
        have hS81 : Ch [22] [] S25 S81 := Ch_I hS81e
        have hS81v : S81.1 54 22 = S25.1 54 22 := pI_at hS81e
        have e128 : S81.1 54 23 = S25.1 54 23 := hS81.1 23 (by decide)
        have e129 : S81.1 54 23 = S25.1 54 23 := hS81.1 23 (by decide)
        have e130 : S81.1 54 23 = S25.1 54 23 := hS81.1 23 (by decide)
        exact ⟨⟨(Ch.wk (Ch.tr (Ch.tr hS19h hS25) hS81) (by decide) (by decide)), by omega, by omega, by omega, by omega, by omega, (by
              intro x
              have e131 : S81.2 63 x = S25.2 63 x := congrFun (hS81.2 63 (by decide)) _
              have e132 := n25_3 x
              have e133 := i19_5 x
              have e134 := n25_1
              by_cases hx : x = v19_1
              · subst hx; omega
              · omega), (by
              intro x y
              have e135 : S81.2 63 (6 + (4 * x + y)) = S25.2 63 (6 + (4 * x + y)) := congrFun (hS81.2 63 (by decide)) _
              have e136 := n25_3 (6 + (4 * x + y))
              have e137 : S81.2 62 x = S25.2 62 x := congrFun (hS81.2 62 (by decide)) _
              have e138 := n25_4 x
              have e139 := i19_6 x y
              have e140 := n25_2 y
              by_cases hx : x = v19_1
              · subst hx; omega
              · omega), by omega⟩, show (7 - ((v19_1 + 1))).toNat < (7 - v19_1).toNat by omega⟩
      · intro q141
        unfold wX11_classes_81
        refine ⟨by omega, ?_⟩
        intro S81 hS81e
        have hS81 : Ch [22] [] S25 S81 := Ch_I hS81e
        have hS81v : S81.1 54 22 = (S25.1 54 22 + 1) := pI_at hS81e
        have e142 : S81.1 54 23 = S25.1 54 23 := hS81.1 23 (by decide)
        have e143 : S81.1 54 23 = S25.1 54 23 := hS81.1 23 (by decide)
        have e144 : S81.1 54 23 = S25.1 54 23 := hS81.1 23 (by decide)
        exact ⟨⟨(Ch.wk (Ch.tr (Ch.tr hS19h hS25) hS81) (by decide) (by decide)), by omega, by omega, by omega, by omega, by omega, (by
              intro x
              have e145 : S81.2 63 x = S25.2 63 x := congrFun (hS81.2 63 (by decide)) _
              have e146 := n25_3 x
              have e147 := i19_5 x
              have e148 := n25_1
              by_cases hx : x = v19_1
              · subst hx; omega
              · omega), (by
              intro x y
              have e149 : S81.2 63 (6 + (4 * x + y)) = S25.2 63 (6 + (4 * x + y)) := congrFun (hS81.2 63 (by decide)) _
              have e150 := n25_3 (6 + (4 * x + y))
              have e151 : S81.2 62 x = S25.2 62 x := congrFun (hS81.2 62 (by decide)) _
              have e152 := n25_4 x
              have e153 := i19_6 x y
              have e154 := n25_2 y
              by_cases hx : x = v19_1
              · subst hx; omega
              · omega), by omega⟩, show (7 - ((v19_1 + 1))).toNat < (7 - v19_1).toNat by omega⟩
    · refine ⟨by omega, ?_⟩
      refine ⟨fun h41 => ?_, fun h41 => ?_⟩
      · unfold wX11_classes_61
        unfold wX11_classes_62
        refine ⟨by omega, ?_⟩
        refine ⟨fun h65 => ?_, fun h65 => ?_⟩
        · intro q155
          unfold wX11_classes_81
          refine ⟨by omega, ?_⟩
          intro S81 hS81e
          have hS81 : Ch [22] [] S25 S81 := Ch_I hS81e
          have hS81v : S81.1 54 22 = S25.1 54 22 := pI_at hS81e
          have e156 : S81.1 54 23 = S25.1 54 23 := hS81.1 23 (by decide)
          have e157 : S81.1 54 23 = S25.1 54 23 := hS81.1 23 (by decide)
          have e158 : S81.1 54 23 = S25.1 54 23 := hS81.1 23 (by decide)
          exact ⟨⟨(Ch.wk (Ch.tr (Ch.tr hS19h hS25) hS81) (by decide) (by decide)), by omega, by omega, by omega, by omega, by omega, (by
                intro x
                have e159 : S81.2 63 x = S25.2 63 x := congrFun (hS81.2 63 (by decide)) _
                have e160 := n25_3 x
                have e161 := i19_5 x
                have e162 := n25_1
                by_cases hx : x = v19_1
                · subst hx; omega
                · omega), (by
                intro x y
                have e163 : S81.2 63 (6 + (4 * x + y)) = S25.2 63 (6 + (4 * x + y)) := congrFun (hS81.2 63 (by decide)) _
                have e164 := n25_3 (6 + (4 * x + y))
                have e165 : S81.2 62 x = S25.2 62 x := congrFun (hS81.2 62 (by decide)) _
                have e166 := n25_4 x
                have e167 := i19_6 x y
                have e168 := n25_2 y
                by_cases hx : x = v19_1
                · subst hx; omega
                · omega), by omega⟩, show (7 - ((v19_1 + 1))).toNat < (7 - v19_1).toNat by omega⟩
        · intro q169
          unfold wX11_classes_81
          refine ⟨by omega, ?_⟩
          intro S81 hS81e
          have hS81 : Ch [22] [] S25 S81 := Ch_I hS81e
          have hS81v : S81.1 54 22 = (S25.1 54 22 + 1) := pI_at hS81e
          have e170 : S81.1 54 23 = S25.1 54 23 := hS81.1 23 (by decide)
          have e171 : S81.1 54 23 = S25.1 54 23 := hS81.1 23 (by decide)
          have e172 : S81.1 54 23 = S25.1 54 23 := hS81.1 23 (by decide)
          exact ⟨⟨(Ch.wk (Ch.tr (Ch.tr hS19h hS25) hS81) (by decide) (by decide)), by omega, by omega, by omega, by omega, by omega, (by
                intro x
                have e173 : S81.2 63 x = S25.2 63 x := congrFun (hS81.2 63 (by decide)) _
                have e174 := n25_3 x
                have e175 := i19_5 x
                have e176 := n25_1
                by_cases hx : x = v19_1
                · subst hx; omega
                · omega), (by
                intro x y
                have e177 : S81.2 63 (6 + (4 * x + y)) = S25.2 63 (6 + (4 * x + y)) := congrFun (hS81.2 63 (by decide)) _
                have e178 := n25_3 (6 + (4 * x + y))
                have e179 : S81.2 62 x = S25.2 62 x := congrFun (hS81.2 62 (by decide)) _
                have e180 := n25_4 x
                have e181 := i19_6 x y
                have e182 := n25_2 y
                by_cases hx : x = v19_1
                · subst hx; omega
                · omega), by omega⟩, show (7 - ((v19_1 + 1))).toNat < (7 - v19_1).toNat by omega⟩
      · intro q183
        have e184 : S25.1 54 0 = S19h.1 54 0 := hS25.1 0 (by decide)
        have e185 : S19h.1 54 0 = S12.1 54 0 := hS19h.1 0 (by decide)
        have e186 : S12.1 54 0 = S7.1 54 0 := hS12.1 0 (by decide)
        have e187 : S7.1 54 0 = S2.1 54 0 := hS7.1 0 (by decide)
        have e188 : S2.1 54 0 = S.1 54 0 := hS2.1 0 (by decide)
        have e189 : S25.2 55 (S25.1 54 22) = S19h.2 55 (S25.1 54 22) := congrFun (hS25.2 55 (by decide)) _
        have e190 : S19h.2 55 (S25.1 54 22) = S12.2 55 (S25.1 54 22) := congrFun (hS19h.2 55 (by decide)) _
        have e191 : S12.2 55 (S25.1 54 22) = S7.2 55 (S25.1 54 22) := congrFun (hS12.2 55 (by decide)) _
        have e192 : S7.2 55 (S25.1 54 22) = S2.2 55 (S25.1 54 22) := congrFun (hS7.2 55 (by decide)) _
        have e193 : S2.2 55 (S25.1 54 22) = S.2 55 (S25.1 54 22) := congrFun (hS2.2 55 (by decide)) _
        have e194 : S25.1 54 0 = S19h.1 54 0 := hS25.1 0 (by decide)
        have e195 : S19h.1 54 0 = S12.1 54 0 := hS19h.1 0 (by decide)
        have e196 : S12.1 54 0 = S7.1 54 0 := hS12.1 0 (by decide)
        have e197 : S7.1 54 0 = S2.1 54 0 := hS7.1 0 (by decide)
        have e198 : S2.1 54 0 = S.1 54 0 := hS2.1 0 (by decide)
        refine tX11_signAt (by omega) (fun r49 n49_0 n49_1 n49_2 => ?_)
        refine ⟨by omega, ?_⟩
        refine ⟨fun h54 => ?_, fun h54 => ?_⟩
        · unfold wX11_classes_61
          unfold wX11_classes_62
          refine ⟨by omega, ?_⟩
          refine ⟨fun h65 => ?_, fun h65 => ?_⟩
          · intro q199
            unfold wX11_classes_81
            refine ⟨by omega, ?_⟩
            intro S81 hS81e
            have hS81 : Ch [22] [] S25 S81 := Ch_I hS81e
            have hS81v : S81.1 54 22 = S25.1 54 22 := pI_at hS81e
            have e200 : S81.1 54 23 = S25.1 54 23 := hS81.1 23 (by decide)
            have e201 : S81.1 54 23 = S25.1 54 23 := hS81.1 23 (by decide)
            have e202 : S81.1 54 23 = S25.1 54 23 := hS81.1 23 (by decide)
            exact ⟨⟨(Ch.wk (Ch.tr (Ch.tr hS19h hS25) hS81) (by decide) (by decide)), by omega, by omega, by omega, by omega, by omega, (by
                  intro x
                  have e203 : S81.2 63 x = S25.2 63 x := congrFun (hS81.2 63 (by decide)) _
                  have e204 := n25_3 x
                  have e205 := i19_5 x
                  have e206 := n25_1
                  by_cases hx : x = v19_1
                  · subst hx; omega
                  · omega), (by
                  intro x y
                  have e207 : S81.2 63 (6 + (4 * x + y)) = S25.2 63 (6 + (4 * x + y)) := congrFun (hS81.2 63 (by decide)) _
                  have e208 := n25_3 (6 + (4 * x + y))
                  have e209 : S81.2 62 x = S25.2 62 x := congrFun (hS81.2 62 (by decide)) _
                  have e210 := n25_4 x
                  have e211 := i19_6 x y
                  have e212 := n25_2 y
                  by_cases hx : x = v19_1
                  · subst hx; omega
                  · omega), by omega⟩, show (7 - ((v19_1 + 1))).toNat < (7 - v19_1).toNat by omega⟩
          · intro q213
            unfold wX11_classes_81
            refine ⟨by omega, ?_⟩
            intro S81 hS81e
            have hS81 : Ch [22] [] S25 S81 := Ch_I hS81e
            have hS81v : S81.1 54 22 = (S25.1 54 22 + 1) := pI_at hS81e
            have e214 : S81.1 54 23 = S25.1 54 23 := hS81.1 23 (by decide)
            have e215 : S81.1 54 23 = S25.1 54 23 := hS81.1 23 (by decide)
            have e216 : S81.1 54 23 = S25.1 54 23 := hS81.1 23 (by decide)
            exact ⟨⟨(Ch.wk (Ch.tr (Ch.tr hS19h hS25) hS81) (by decide) (by decide)), by omega, by omega, by omega, by omega, by omega, (by
                  intro x
                  have e217 : S81.2 63 x = S25.2 63 x := congrFun (hS81.2 63 (by decide)) _
                  have e218 := n25_3 x
                  have e219 := i19_5 x
                  have e220 := n25_1
                  by_cases hx : x = v19_1
                  · subst hx; omega
                  · omega), (by
                  intro x y
                  have e221 : S81.2 63 (6 + (4 * x + y)) = S25.2 63 (6 + (4 * x + y)) := congrFun (hS81.2 63 (by decide)) _
                  have e222 := n25_3 (6 + (4 * x + y))
                  have e223 : S81.2 62 x = S25.2 62 x := congrFun (hS81.2 62 (by decide)) _
                  have e224 := n25_4 x
                  have e225 := i19_6 x y
                  have e226 := n25_2 y
                  by_cases hx : x = v19_1
                  · subst hx; omega
                  · omega), by omega⟩, show (7 - ((v19_1 + 1))).toNat < (7 - v19_1).toNat by omega⟩
        · unfold wX11_classes_62
          refine ⟨by omega, ?_⟩
          refine ⟨fun h65 => ?_, fun h65 => ?_⟩
          · intro q227
            unfold wX11_classes_81
            refine ⟨by omega, ?_⟩
            intro S81 hS81e
            have hS81 : Ch [22] [] S25 S81 := Ch_I hS81e
            have hS81v : S81.1 54 22 = S25.1 54 22 := pI_at hS81e
            have e228 : S81.1 54 23 = S25.1 54 23 := hS81.1 23 (by decide)
            have e229 : S81.1 54 23 = S25.1 54 23 := hS81.1 23 (by decide)
            have e230 : S81.1 54 23 = S25.1 54 23 := hS81.1 23 (by decide)
            exact ⟨⟨(Ch.wk (Ch.tr (Ch.tr hS19h hS25) hS81) (by decide) (by decide)), by omega, by omega, by omega, by omega, by omega, (by
                  intro x
                  have e231 : S81.2 63 x = S25.2 63 x := congrFun (hS81.2 63 (by decide)) _
                  have e232 := n25_3 x
                  have e233 := i19_5 x
                  have e234 := n25_1
                  by_cases hx : x = v19_1
                  · subst hx; omega
                  · omega), (by
                  intro x y
                  have e235 : S81.2 63 (6 + (4 * x + y)) = S25.2 63 (6 + (4 * x + y)) := congrFun (hS81.2 63 (by decide)) _
                  have e236 := n25_3 (6 + (4 * x + y))
                  have e237 : S81.2 62 x = S25.2 62 x := congrFun (hS81.2 62 (by decide)) _
                  have e238 := n25_4 x
                  have e239 := i19_6 x y
                  have e240 := n25_2 y
                  by_cases hx : x = v19_1
                  · subst hx; omega
                  · omega), by omega⟩, show (7 - ((v19_1 + 1))).toNat < (7 - v19_1).toNat by omega⟩
          · intro q241
            unfold wX11_classes_81
            refine ⟨by omega, ?_⟩
            intro S81 hS81e
            have hS81 : Ch [22] [] S25 S81 := Ch_I hS81e
            have hS81v : S81.1 54 22 = (S25.1 54 22 + 1) := pI_at hS81e
            have e242 : S81.1 54 23 = S25.1 54 23 := hS81.1 23 (by decide)
            have e243 : S81.1 54 23 = S25.1 54 23 := hS81.1 23 (by decide)
            have e244 : S81.1 54 23 = S25.1 54 23 := hS81.1 23 (by decide)
            exact ⟨⟨(Ch.wk (Ch.tr (Ch.tr hS19h hS25) hS81) (by decide) (by decide)), by omega, by omega, by omega, by omega, by omega, (by
                  intro x
                  have e245 : S81.2 63 x = S25.2 63 x := congrFun (hS81.2 63 (by decide)) _
                  have e246 := n25_3 x
                  have e247 := i19_5 x
                  have e248 := n25_1
                  by_cases hx : x = v19_1
                  · subst hx; omega
                  · omega), (by
                  intro x y
                  have e249 : S81.2 63 (6 + (4 * x + y)) = S25.2 63 (6 + (4 * x + y)) := congrFun (hS81.2 63 (by decide)) _
                  have e250 := n25_3 (6 + (4 * x + y))
                  have e251 : S81.2 62 x = S25.2 62 x := congrFun (hS81.2 62 (by decide)) _
                  have e252 := n25_4 x
                  have e253 := i19_6 x y
                  have e254 := n25_2 y
                  by_cases hx : x = v19_1
                  · subst hx; omega
                  · omega), by omega⟩, show (7 - ((v19_1 + 1))).toNat < (7 - v19_1).toNat by omega⟩
