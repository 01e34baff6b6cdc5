set_option maxRecDepth 100000 in
set_option maxHeartbeats 4000000 in
theorem tX11_field_295 {a1 a2 l3 s0 s1 : Int} {S S1c : St} {K : Int → St → Prop} (g1 : rng a1) (g2 : rng a2) (p1 : iv 0 5 a1) (p2 : iv 0 3 a2) (p3 : (S.1 54 22) ≤ (S.1 54 0)) (p4 : (S.1 54 0) ≤ 3000) (hS1c : Ch [22, 23, 24] [63, 64, 65, 66] S S1c) (c1 : (S1c.1 54 22) ≤ (S.1 54 0)) (c2 : 1 ≤ (S1c.2 63) (6 + (4 * a1 + a2))) (c3 : ∀ x, x = (6 + (4 * a1 + a2)) ∨ (S1c.2 63) x = (S.2 63) x) (c4 : (S1c.1 54 23) = (S.1 54 23) ∨ (S1c.1 54 23) = 1) (c5 : (S.1 54 23) = 0 ∨ (S1c.1 54 23) = 1) (c6 : 4 * a1 + a2 = l3) (c7 : 4 * a1 + a2 = s1) (c8 : iv 0 1 s0) (c9 : s0 = 0 ∨ (S1c.1 54 22) < (S.1 54 0)) (hK : ∀ (r : Int) (S' : St), Ch [22, 23, 24] [63, 64, 65, 66] S S' → ((S'.1 54 22) ≤ (S.1 54 0)) → ((S'.1 54 23) = 1 ∨ 1 ≤ (S'.2 63) (6 + (4 * a1 + a2))) → (∀ x, x = (6 + (4 * a1 + a2)) ∨ (S'.2 63) x = (S.2 63) x) → ((S'.1 54 23) = 1 ∨ (S'.1 54 23) = (S.1 54 23)) → K r S') : wX11_field_295 l3 s0 s1 S1c K := by
  unfold wX11_field_295
  subst c6
  subst c7
  refine ⟨by omega, by omega, ?_⟩
  refine ⟨by omega, ?_⟩
  intro S295 hS295e
  have hS295 : Ch [] [66] S1c S295 := Ch_A hS295e
  have hS295v : ∀ x, (x = ((4 * a1 + a2)) ∧ S295.2 66 x = s0) ∨ (¬ x = ((4 * a1 + a2)) ∧ S295.2 66 x = S1c.2 66 x) := pA_at hS295e
  refine ⟨by omega, by omega, ?_⟩
  intro q1
  have e2 : S295.2 66 ((4 * a1 + a2)) = (s0) := by have q := hS295v ((4 * a1 + a2)); omega
  refine ⟨fun h303 => ?_, fun h303 => ?_⟩
  · intro q3
    have e4 : S295.1 54 22 = S1c.1 54 22 := hS295.1 22 (by decide)
    intro S319 hS319e
    have hS319 : Ch [22] [] S295 S319 := Ch_I hS319e
    have hS319v : S319.1 54 22 = S295.1 54 22 := pI_at hS319e
    have e5 : S319.1 54 23 = S295.1 54 23 := hS319.1 23 (by decide)
    have e6 : S295.1 54 23 = S1c.1 54 23 := hS295.1 23 (by decide)
    have e7 : S319.2 63 (6 + (4 * a1 + a2)) = S295.2 63 (6 + (4 * a1 + a2)) := congrFun (hS319.2 63 (by decide)) _
    have e8 : S295.2 63 (6 + (4 * a1 + a2)) = S1c.2 63 (6 + (4 * a1 + a2)) := congrFun (hS295.2 63 (by decide)) _
    first | have e9 : S1c.2 63 (6 + (4 * a1 + a2)) = S.2 63 (6 + (4 * a1 + a2)) := by have q := c3 (6 + (4 * a1 + a2)); omega | have e9 := c3 (6 + (4 * a1 + a2))
    have e10 : S319.1 54 23 = S295.1 54 23 := hS319.1 23 (by decide)
    have e11 : S295.1 54 23 = S1c.1 54 23 := hS295.1 23 (by decide)
    exact hK (0) S319 (Ch.wk (Ch.tr (Ch.tr hS1c hS295) hS319) (by decide) (by decide)) (by omega) (by omega) (by
          intro x
          have e12 : S319.2 63 x = S295.2 63 x := congrFun (hS319.2 63 (by decide)) _
          have e13 : S295.2 63 x = S1c.2 63 x := congrFun (hS295.2 63 (by decide)) _
          have e14 := c3 x
          omega) (by omega)
  · intro q15
    have e16 : S295.1 54 22 = S1c.1 54 22 := hS295.1 22 (by decide)
    refine ⟨by omega, ?_⟩
    intro S319 hS319e
    have hS319 : Ch [22] [] S295 S319 := Ch_I hS319e
    have hS319v : S319.1 54 22 = (S295.1 54 22 + 1) := pI_at hS319e
    have e17 : S319.1 54 23 = S295.1 54 23 := hS319.1 23 (by decide)
    have e18 : S295.1 54 23 = S1c.1 54 23 := hS295.1 23 (by decide)
    have e19 : S319.2 63 (6 + (4 * a1 + a2)) = S295.2 63 (6 + (4 * a1 + a2)) := congrFun (hS319.2 63 (by decide)) _
    have e20 : S295.2 63 (6 + (4 * a1 + a2)) = S1c.2 63 (6 + (4 * a1 + a2)) := congrFun (hS295.2 63 (by decide)) _
    first | have e21 : S1c.2 63 (6 + (4 * a1 + a2)) = S.2 63 (6 + (4 * a1 + a2)) := by have q := c3 (6 + (4 * a1 + a2)); omega | have e21 := c3 (6 + (4 * a1 + a2))
    have e22 : S319.1 54 23 = S295.1 54 23 := hS319.1 23 (by decide)
    have e23 : S295.1 54 23 = S1c.1 54 23 := hS295.1 23 (by decide)
    exact hK (0) S319 (Ch.wk (Ch.tr (Ch.tr hS1c hS295) hS319) (by decide) (by decide)) (by omega) (by omega) (by
          intro x
          have e24 : S319.2 63 x = S295.2 63 x := congrFun (hS319.2 63 (by decide)) _
          have e25 : S295.2 63 x = S1c.2 63 x := congrFun (hS295.2 63 (by decide)) _
          have e26 := c3 x
          omega) (by omega)
set_option maxRecDepth 100000 in
set_option maxHeartbeats 4000000 in
theorem tX11_field_162 {a1 a2 l1 l3 s0 : Int} {S S1c : St} {K : Int → St → Prop} (g1 : rng a1) (g2 : rng a2) (p1 : iv 0 5 a1) (p2 : iv 0 3 a2) (p3 : (S.1 54 22) ≤ (S.1 54 0)) (p4 : (S.1 54 0) ≤ 3000) (hS1c : Ch [22, 23, 24] [63, 64, 65, 66] S S1c) (c1 : (S1c.1 54 22) ≤ (S.1 54 0)) (c2 : 1 ≤ (S1c.2 63) (6 + (4 * a1 + a2))) (c3 : ∀ x, x = (6 + (4 * a1 + a2)) ∨ (S1c.2 63) x = (S.2 63) x) (c4 : (S1c.1 54 23) = (S.1 54 23) ∨ (S1c.1 54 23) = 1) (c5 : (S.1 54 23) = 0 ∨ (S1c.1 54 23) = 1) (c6 : a1 = l1) (c7 : 4 * a1 + a2 = l3) (c8 : iv 0 1 s0) (c9 : s0 = 0 ∨ (S1c.1 54 22) < (S.1 54 0)) (hK : ∀ (r : Int) (S' : St), Ch [22, 23, 24] [63, 64, 65, 66] S S' → ((S'.1 54 22) ≤ (S.1 54 0)) → ((S'.1 54 23) = 1 ∨ 1 ≤ (S'.2 63) (6 + (4 * a1 + a2))) → (∀ x, x = (6 + (4 * a1 + a2)) ∨ (S'.2 63) x = (S.2 63) x) → ((S'.1 54 23) = 1 ∨ (S'.1 54 23) = (S.1 54 23)) → K r S') : wX11_field_162 l1 l3 s0 S1c K := by
  unfold wX11_field_162
  subst c6
  subst c7
  refine ⟨by omega, ?_⟩
  refine tX11_want (by omega) (fun r162 S162 hS162 n162_0 => ?_)
  intro q1
  refine ⟨fun h169 => ?_, fun h169 => ?_⟩
  · intro q2
    have e3 : S162.1 54 22 = S1c.1 54 22 := hS162.1 22 (by decide)
    refine ⟨by omega, ?_⟩
    intro S180 hS180e
    have hS180 : Ch [22] [] S162 S180 := Ch_I hS180e
    have hS180v : S180.1 54 22 = (S162.1 54 22 + 1) := pI_at hS180e
    intro q4
    have e5 : S180.1 54 0 = S162.1 54 0 := hS180.1 0 (by decide)
    have e6 : S162.1 54 0 = S1c.1 54 0 := hS162.1 0 (by decide)
    have e7 : S1c.1 54 0 = S.1 54 0 := hS1c.1 0 (by decide)
    have e8 : S180.2 55 (S180.1 54 22) = S162.2 55 (S180.1 54 22) := congrFun (hS180.2 55 (by decide)) _
    have e9 : S162.2 55 (S180.1 54 22) = S1c.2 55 (S180.1 54 22) := congrFun (hS162.2 55 (by decide)) _
    have e10 : S1c.2 55 (S180.1 54 22) = S.2 55 (S180.1 54 22) := congrFun (hS1c.2 55 (by decide)) _
    have e11 : S180.1 54 0 = S162.1 54 0 := hS180.1 0 (by decide)
    have e12 : S162.1 54 0 = S1c.1 54 0 := hS162.1 0 (by decide)
    have e13 : S1c.1 54 0 = S.1 54 0 := hS1c.1 0 (by decide)
    refine tX11_signAt (by omega) (fun r188 n188_0 n188_1 n188_2 => ?_)
    intro x199 hx199
    subst hx199
    unfold wX11_field_201
    refine ⟨fun u3 u4 u5 u6 Sx => S180 = Sx ∧ (4 * a1 + a2) = u3 ∧ r188 = u4 ∧ (iv 0 23 u6) ∧ (iv 0 1 u5) ∧ (rng u4), fun u3 u4 u5 u6 Sx => (24 - u6).toNat, ?_, fun v201_3 v201_4 v201_5 v201_6 S201h hI => ?_⟩
    · exact ⟨rfl, rfl, rfl, by omega, by omega, by omega⟩
    obtain ⟨rfl, rfl, rfl, i201_0, i201_1, i201_2⟩ := hI
    unfold wX11_field_201'
    refine ⟨by omega, ?_⟩
    refine ⟨by omega, ?_⟩
    refine ⟨fun h204 => ?_, fun h204 => ?_⟩
    · refine ⟨by omega, ?_⟩
      refine ⟨fun h255 => ?_, fun h255 => ?_⟩
      · unfold wX11_field_268
        refine ⟨by omega, ?_⟩
        refine ⟨fun h272 => ?_, fun h272 => ?_⟩
        · unfold wX11_field_294
          have e14 : S180.2 63 (6 + (4 * a1 + a2)) = S162.2 63 (6 + (4 * a1 + a2)) := congrFun (hS180.2 63 (by decide)) _
          have e15 : S162.2 63 (6 + (4 * a1 + a2)) = S1c.2 63 (6 + (4 * a1 + a2)) := congrFun (hS162.2 63 (by decide)) _
          first | have e16 : S1c.2 63 (6 + (4 * a1 + a2)) = S.2 63 (6 + (4 * a1 + a2)) := by have q := c3 (6 + (4 * a1 + a2)); omega | have e16 := c3 (6 + (4 * a1 + a2))
          have e17 : S180.1 54 23 = S162.1 54 23 := hS180.1 23 (by decide)
          have e18 : S180.1 54 23 = S162.1 54 23 := hS180.1 23 (by decide)
          exact tX11_field_295 g1 g2 p1 p2 p3 p4 (Ch.wk (Ch.tr (Ch.tr hS1c hS162) hS180) (by decide) (by decide)) (by omega) (by omega) (by
                intro x
                have e19 : S180.2 63 x = S162.2 63 x := congrFun (hS180.2 63 (by decide)) _
                have e20 : S162.2 63 x = S1c.2 63 x := congrFun (hS162.2 63 (by decide)) _
                have e21 := c3 x
                omega) (by omega) (by omega) (by omega) (by omega) (by omega) (by omega) hK
        · refine ⟨by omega, by omega, ?_⟩
          intro q22
          have e23 : S180.2 65 ((4 * a1 + a2)) = S162.2 65 ((4 * a1 + a2)) := congrFun (hS180.2 65 (by decide)) _
          have e24 : S162.2 65 ((4 * a1 + a2)) = S1c.2 65 ((4 * a1 + a2)) := congrFun (hS162.2 65 (by decide)) _
          refine ⟨fun h282 => ?_, fun h282 => ?_⟩
          · unfold wX11_field_294
            have e25 : S180.2 63 (6 + (4 * a1 + a2)) = S162.2 63 (6 + (4 * a1 + a2)) := congrFun (hS180.2 63 (by decide)) _
            have e26 : S162.2 63 (6 + (4 * a1 + a2)) = S1c.2 63 (6 + (4 * a1 + a2)) := congrFun (hS162.2 63 (by decide)) _
            first | have e27 : S1c.2 63 (6 + (4 * a1 + a2)) = S.2 63 (6 + (4 * a1 + a2)) := by have q := c3 (6 + (4 * a1 + a2)); omega | have e27 := c3 (6 + (4 * a1 + a2))
            have e28 : S180.1 54 23 = S162.1 54 23 := hS180.1 23 (by decide)
            have e29 : S180.1 54 23 = S162.1 54 23 := hS180.1 23 (by decide)
            exact tX11_field_295 g1 g2 p1 p2 p3 p4 (Ch.wk (Ch.tr (Ch.tr hS1c hS162) hS180) (by decide) (by decide)) (by omega) (by omega) (by
                  intro x
                  have e30 : S180.2 63 x = S162.2 63 x := congrFun (hS180.2 63 (by decide)) _
                  have e31 : S162.2 63 x = S1c.2 63 x := congrFun (hS162.2 63 (by decide)) _
                  have e32 := c3 x
                  omega) (by omega) (by omega) (by omega) (by omega) (by omega) (by omega) hK
          · refine ⟨by omega, ?_⟩
            refine ⟨fun h287 => ?_, fun h287 => ?_⟩
            · unfold wX11_field_294
              have e33 : S180.2 63 (6 + (4 * a1 + a2)) = S162.2 63 (6 + (4 * a1 + a2)) := congrFun (hS180.2 63 (by decide)) _
              have e34 : S162.2 63 (6 + (4 * a1 + a2)) = S1c.2 63 (6 + (4 * a1 + a2)) := congrFun (hS162.2 63 (by decide)) _
              first | have e35 : S1c.2 63 (6 + (4 * a1 + a2)) = S.2 63 (6 + (4 * a1 + a2)) := by have q := c3 (6 + (4 * a1 + a2)); omega | have e35 := c3 (6 + (4 * a1 + a2))
              have e36 : S180.1 54 23 = S162.1 54 23 := hS180.1 23 (by decide)
              have e37 : S180.1 54 23 = S162.1 54 23 := hS180.1 23 (by decide)
              exact tX11_field_295 g1 g2 p1 p2 p3 p4 (Ch.wk (Ch.tr (Ch.tr hS1c hS162) hS180) (by decide) (by decide)) (by omega) (by omega) (by
                    intro x
                    have e38 : S180.2 63 x = S162.2 63 x := congrFun (hS180.2 63 (by decide)) _
                    have e39 : S162.2 63 x = S1c.2 63 x := congrFun (hS162.2 63 (by decide)) _
                    have e40 := c3 x
                    omega) (by omega) (by omega) (by omega) (by omega) (by omega) (by omega) hK
            · unfold wX11_field_290
              have e41 : S180.2 63 (6 + (4 * a1 + a2)) = S162.2 63 (6 + (4 * a1 + a2)) := congrFun (hS180.2 63 (by decide)) _
              have e42 : S162.2 63 (6 + (4 * a1 + a2)) = S1c.2 63 (6 + (4 * a1 + a2)) := congrFun (hS162.2 63 (by decide)) _
              first | have e43 : S1c.2 63 (6 + (4 * a1 + a2)) = S.2 63 (6 + (4 * a1 + a2)) := by have q := c3 (6 + (4 * a1 + a2)); omega | have e43 := c3 (6 + (4 * a1 + a2))
              have e44 : S180.1 54 23 = S162.1 54 23 := hS180.1 23 (by decide)
              have e45 : S180.1 54 23 = S162.1 54 23 := hS180.1 23 (by decide)
              exact tX11_field_295 g1 g2 p1 p2 p3 p4 (Ch.wk (Ch.tr (Ch.tr hS1c hS162) hS180) (by decide) (by decide)) (by omega) (by omega) (by
                    intro x
                    have e46 : S180.2 63 x = S162.2 63 x := congrFun (hS180.2 63 (by decide)) _
                    have e47 : S162.2 63 x = S1c.2 63 x := congrFun (hS162.2 63 (by decide)) _
                    have e48 := c3 x
                    omega) (by omega) (by omega) (by omega) (by omega) (by omega) (by omega) hK
      · refine ⟨by omega, by omega, ?_⟩
        intro q49
        have e50 : S180.2 65 ((4 * a1 + a2)) = S162.2 65 ((4 * a1 + a2)) := congrFun (hS180.2 65 (by decide)) _
        have e51 : S162.2 65 ((4 * a1 + a2)) = S1c.2 65 ((4 * a1 + a2)) := congrFun (hS162.2 65 (by decide)) _
        refine ⟨fun h265 => ?_, fun h265 => ?_⟩
        · unfold wX11_field_290
          have e52 : S180.2 63 (6 + (4 * a1 + a2)) = S162.2 63 (6 + (4 * a1 + a2)) := congrFun (hS180.2 63 (by decide)) _
          have e53 : S162.2 63 (6 + (4 * a1 + a2)) = S1c.2 63 (6 + (4 * a1 + a2)) := congrFun (hS162.2 63 (by decide)) _
          first | have e54 : S1c.2 63 (6 + (4 * a1 + a2)) = S.2 63 (6 + (4 * a1 + a2)) := by have q := c3 (6 + (4 * a1 + a2)); omega | have e54 := c3 (6 + (4 * a1 + a2))
          have e55 : S180.1 54 23 = S162.1 54 23 := hS180.1 23 (by decide)
          have e56 : S180.1 54 23 = S162.1 54 23 := hS180.1 23 (by decide)
          exact tX11_field_295 g1 g2 p1 p2 p3 p4 (Ch.wk (Ch.tr (Ch.tr hS1c hS162) hS180) (by decide) (by decide)) (by omega) (by omega) (by
                intro x
                have e57 : S180.2 63 x = S162.2 63 x := congrFun (hS180.2 63 (by decide)) _
                have e58 : S162.2 63 x = S1c.2 63 x := congrFun (hS162.2 63 (by decide)) _
                have e59 := c3 x
                omega) (by omega) (by omega) (by omega) (by omega) (by omega) (by omega) hK
        · unfold wX11_field_268
          refine ⟨by omega, ?_⟩
          refine ⟨fun h272 => ?_, fun h272 => ?_⟩
          · unfold wX11_field_294
            have e60 : S180.2 63 (6 + (4 * a1 + a2)) = S162.2 63 (6 + (4 * a1 + a2)) := congrFun (hS180.2 63 (by decide)) _
            have e61 : S162.2 63 (6 + (4 * a1 + a2)) = S1c.2 63 (6 + (4 * a1 + a2)) := congrFun (hS162.2 63 (by decide)) _
            first | have e62 : S1c.2 63 (6 + (4 * a1 + a2)) = S.2 63 (6 + (4 * a1 + a2)) := by have q := c3 (6 + (4 * a1 + a2)); omega | have e62 := c3 (6 + (4 * a1 + a2))
            have e63 : S180.1 54 23 = S162.1 54 23 := hS180.1 23 (by decide)
            have e64 : S180.1 54 23 = S162.1 54 23 := hS180.1 23 (by decide)
            exact tX11_field_295 g1 g2 p1 p2 p3 p4 (Ch.wk (Ch.tr (Ch.tr hS1c hS162) hS180) (by decide) (by decide)) (by omega) (by omega) (by
                  intro x
                  have e65 : S180.2 63 x = S162.2 63 x := congrFun (hS180.2 63 (by decide)) _
                  have e66 : S162.2 63 x = S1c.2 63 x := congrFun (hS162.2 63 (by decide)) _
                  have e67 := c3 x
                  omega) (by omega) (by omega) (by omega) (by omega) (by omega) (by omega) hK
          · refine ⟨by omega, by omega, ?_⟩
            intro q68
            have e69 : S180.2 65 ((4 * a1 + a2)) = S162.2 65 ((4 * a1 + a2)) := congrFun (hS180.2 65 (by decide)) _
            have e70 : S162.2 65 ((4 * a1 + a2)) = S1c.2 65 ((4 * a1 + a2)) := congrFun (hS162.2 65 (by decide)) _
            refine ⟨fun h282 => ?_, fun h282 => ?_⟩
            · unfold wX11_field_294
              have e71 : S180.2 63 (6 + (4 * a1 + a2)) = S162.2 63 (6 + (4 * a1 + a2)) := congrFun (hS180.2 63 (by decide)) _
              have e72 : S162.2 63 (6 + (4 * a1 + a2)) = S1c.2 63 (6 + (4 * a1 + a2)) := congrFun (hS162.2 63 (by decide)) _
              first | have e73 : S1c.2 63 (6 + (4 * a1 + a2)) = S.2 63 (6 + (4 * a1 + a2)) := by have q := c3 (6 + (4 * a1 + a2)); omega | have e73 := c3 (6 + (4 * a1 + a2))
              have e74 : S180.1 54 23 = S162.1 54 23 := hS180.1 23 (by decide)
              have e75 : S180.1 54 23 = S162.1 54 23 := hS180.1 23 (by decide)
              exact tX11_field_295 g1 g2 p1 p2 p3 p4 (Ch.wk (Ch.tr (Ch.tr hS1c hS162) hS180) (by decide) (by decide)) (by omega) (by omega) (by
                    intro x
                    have e76 : S180.2 63 x = S162.2 63 x := congrFun (hS180.2 63 (by decide)) _
                    have e77 : S162.2 63 x = S1c.2 63 x := congrFun (hS162.2 63 (by decide)) _
                    have e78 := c3 x
                    omega) (by omega) (by omega) (by omega) (by omega) (by omega) (by omega) hK
            · refine ⟨by omega, ?_⟩
              refine ⟨fun h287 => ?_, fun h287 => ?_⟩
              · unfold wX11_field_294
                have e79 : S180.2 63 (6 + (4 * a1 + a2)) = S162.2 63 (6 + (4 * a1 + a2)) := congrFun (hS180.2 63 (by decide)) _
                have e80 : S162.2 63 (6 + (4 * a1 + a2)) = S1c.2 63 (6 + (4 * a1 + a2)) := congrFun (hS162.2 63 (by decide)) _
                first | have e81 : S1c.2 63 (6 + (4 * a1 + a2)) = S.2 63 (6 + (4 * a1 + a2)) := by have q := c3 (6 + (4 * a1 + a2)); omega | have e81 := c3 (6 + (4 * a1 + a2))
                have e82 : S180.1 54 23 = S162.1 54 23 := hS180.1 23 (by decide)
                have e83 : S180.1 54 23 = S162.1 54 23 := hS180.1 23 (by decide)
                exact tX11_field_295 g1 g2 p1 p2 p3 p4 (Ch.wk (Ch.tr (Ch.tr hS1c hS162) hS180) (by decide) (by decide)) (by omega) (by omega) (by
                      intro x
                      have e84 : S180.2 63 x = S162.2 63 x := congrFun (hS180.2 63 (by decide)) _
                      have e85 : S162.2 63 x = S1c.2 63 x := congrFun (hS162.2 63 (by decide)) _
                      have e86 := c3 x
                      omega) (by omega) (by omega) (by omega) (by omega) (by omega) (by omega) hK
              · unfold wX11_field_290
                have e87 : S180.2 63 (6 + (4 * a1 + a2)) = S162.2 63 (6 + (4 * a1 + a2)) := congrFun (hS180.2 63 (by decide)) _
                have e88 : S162.2 63 (6 + (4 * a1 + a2)) = S1c.2 63 (6 + (4 * a1 + a2)) := congrFun (hS162.2 63 (by decide)) _
                first | have e89 : S1c.2 63 (6 + (4 * a1 + a2)) = S.2 63 (6 + (4 * a1 + a2)) := by have q := c3 (6 + (4 * a1 + a2)); omega | have e89 := c3 (6 + (4 * a1 + a2))
                have e90 : S180.1 54 23 = S162.1 54 23 := hS180.1 23 (by decide)
                have e91 : S180.1 54 23 = S162.1 54 23 := hS180.1 23 (by decide)
                exact tX11_field_295 g1 g2 p1 p2 p3 p4 (Ch.wk (Ch.tr (Ch.tr hS1c hS162) hS180) (by decide) (by decide)) (by omega) (by omega) (by
                      intro x
                      have e92 : S180.2 63 x = S162.2 63 x := congrFun (hS180.2 63 (by decide)) _
                      have e93 : S162.2 63 x = S1c.2 63 x := congrFun (hS162.2 63 (by decide)) _
                      have e94 := c3 x
                      omega) (by omega) (by omega) (by omega) (by omega) (by omega) (by omega) hK
    · refine ⟨by omega, ?_⟩
      refine ⟨fun h209 => ?_, fun h209 => ?_⟩
      · unfold wX11_field_233
        unfold wX11_field_238
        exact ⟨⟨rfl, rfl, rfl, by omega, by omega, by omega⟩, show (24 - ((v201_6 + 1))).toNat < (24 - v201_6).toNat by omega⟩
      · refine ⟨by omega, by omega, ?_⟩
        intro q95
        have e96 : S180.2 65 (v201_6) = S162.2 65 (v201_6) := congrFun (hS180.2 65 (by decide)) _
        have e97 : S162.2 65 (v201_6) = S1c.2 65 (v201_6) := congrFun (hS162.2 65 (by decide)) _
        refine ⟨fun h220 => ?_, fun h220 => ?_⟩
        · unfold wX11_field_237
          unfold wX11_field_238
          exact ⟨⟨rfl, rfl, rfl, by omega, by omega, by omega⟩, show (24 - ((v201_6 + 1))).toNat < (24 - v201_6).toNat by omega⟩
        · refine ⟨by omega, by omega, ?_⟩
          intro q98
          have e99 : S180.2 66 (v201_6) = S162.2 66 (v201_6) := congrFun (hS180.2 66 (by decide)) _
          have e100 : S162.2 66 (v201_6) = S1c.2 66 (v201_6) := congrFun (hS162.2 66 (by decide)) _
          refine ⟨fun h230 => ?_, fun h230 => ?_⟩
          · unfold wX11_field_237
            unfold wX11_field_238
            exact ⟨⟨rfl, rfl, rfl, by omega, by omega, by omega⟩, show (24 - ((v201_6 + 1))).toNat < (24 - v201_6).toNat by omega⟩
          · unfold wX11_field_233
            unfold wX11_field_238
            exact ⟨⟨rfl, rfl, rfl, by omega, by omega, by omega⟩, show (24 - ((v201_6 + 1))).toNat < (24 - v201_6).toNat by omega⟩
  · have e101 : S162.1 54 22 = S1c.1 54 22 := hS162.1 22 (by decide)
    have e102 : S162.2 63 (6 + (4 * a1 + a2)) = S1c.2 63 (6 + (4 * a1 + a2)) := congrFun (hS162.2 63 (by decide)) _
    first | have e103 : S1c.2 63 (6 + (4 * a1 + a2)) = S.2 63 (6 + (4 * a1 + a2)) := by have q := c3 (6 + (4 * a1 + a2)); omega | have e103 := c3 (6 + (4 * a1 + a2))
    exact hK (0) S162 (Ch.wk (Ch.tr hS1c hS162) (by decide) (by decide)) (by omega) (by omega) (by
          intro x
          have e104 : S162.2 63 x = S1c.2 63 x := congrFun (hS162.2 63 (by decide)) _
          have e105 := c3 x
          omega) (by omega)
set_option maxRecDepth 100000 in
set_option maxHeartbeats 4000000 in
theorem tX11_field_127 {a1 a2 l1 l3 l4 s0 s1 : Int} {S S1c : St} {K : Int → St → Prop} (g1 : rng a1) (g2 : rng a2) (p1 : iv 0 5 a1) (p2 : iv 0 3 a2) (p3 : (S.1 54 22) ≤ (S.1 54 0)) (p4 : (S.1 54 0) ≤ 3000) (hS1c : Ch [22, 23, 24] [63, 64, 65, 66] S S1c) (c1 : (S1c.1 54 22) ≤ (S.1 54 0)) (c2 : 1 ≤ (S1c.2 63) (6 + (4 * a1 + a2))) (c3 : ∀ x, x = (6 + (4 * a1 + a2)) ∨ (S1c.2 63) x = (S.2 63) x) (c4 : (S1c.1 54 23) = (S.1 54 23) ∨ (S1c.1 54 23) = 1) (c5 : (S.1 54 23) = 0 ∨ (S1c.1 54 23) = 1) (c6 : a1 = l1) (c7 : 4 * a1 + a2 = l3) (c8 : 4 * a1 + a2 = s1) (c9 : iv 0 3 s0) (c10 : rng l4) (c11 : l4 = 0 ∨ (S1c.1 54 22) < (S.1 54 0)) (hK : ∀ (r : Int) (S' : St), Ch [22, 23, 24] [63, 64, 65, 66] S S' → ((S'.1 54 22) ≤ (S.1 54 0)) → ((S'.1 54 23) = 1 ∨ 1 ≤ (S'.2 63) (6 + (4 * a1 + a2))) → (∀ x, x = (6 + (4 * a1 + a2)) ∨ (S'.2 63) x = (S.2 63) x) → ((S'.1 54 23) = 1 ∨ (S'.1 54 23) = (S.1 54 23)) → K r S') : wX11_field_127 l1 l3 l4 s0 s1 S1c K := by
  unfold wX11_field_127
  subst c6
  subst c7
  subst c8
  refine ⟨by omega, by omega, ?_⟩
  refine ⟨by omega, ?_⟩
  intro S127 hS127e
  have hS127 : Ch [] [65] S1c S127 := Ch_A hS127e
  have hS127v : ∀ x, (x = ((4 * a1 + a2)) ∧ S127.2 65 x = s0) ∨ (¬ x = ((4 * a1 + a2)) ∧ S127.2 65 x = S1c.2 65 x) := pA_at hS127e
  refine ⟨by omega, ?_⟩
  refine ⟨fun h133 => ?_, fun h133 => ?_⟩
  · unfold wX11_field_157
    have e1 : S127.1 54 22 = S1c.1 54 22 := hS127.1 22 (by decide)
    have e2 : S127.2 63 (6 + (4 * a1 + a2)) = S1c.2 63 (6 + (4 * a1 + a2)) := congrFun (hS127.2 63 (by decide)) _
    first | have e3 : S1c.2 63 (6 + (4 * a1 + a2)) = S.2 63 (6 + (4 * a1 + a2)) := by have q := c3 (6 + (4 * a1 + a2)); omega | have e3 := c3 (6 + (4 * a1 + a2))
    have e4 : S127.1 54 23 = S1c.1 54 23 := hS127.1 23 (by decide)
    have e5 : S127.1 54 23 = S1c.1 54 23 := hS127.1 23 (by decide)
    have e6 : S127.1 54 22 = S1c.1 54 22 := hS127.1 22 (by decide)
    exact tX11_field_162 g1 g2 p1 p2 p3 p4 (Ch.wk (Ch.tr hS1c hS127) (by decide) (by decide)) (by omega) (by omega) (by
          intro x
          have e7 : S127.2 63 x = S1c.2 63 x := congrFun (hS127.2 63 (by decide)) _
          have e8 := c3 x
          omega) (by omega) (by omega) (by omega) (by omega) (by omega) (by omega) hK
  · refine ⟨fun h140 => ?_, fun h140 => ?_⟩
    · unfold wX11_field_157
      have e9 : S127.1 54 22 = S1c.1 54 22 := hS127.1 22 (by decide)
      have e10 : S127.2 63 (6 + (4 * a1 + a2)) = S1c.2 63 (6 + (4 * a1 + a2)) := congrFun (hS127.2 63 (by decide)) _
      first | have e11 : S1c.2 63 (6 + (4 * a1 + a2)) = S.2 63 (6 + (4 * a1 + a2)) := by have q := c3 (6 + (4 * a1 + a2)); omega | have e11 := c3 (6 + (4 * a1 + a2))
      have e12 : S127.1 54 23 = S1c.1 54 23 := hS127.1 23 (by decide)
      have e13 : S127.1 54 23 = S1c.1 54 23 := hS127.1 23 (by decide)
      have e14 : S127.1 54 22 = S1c.1 54 22 := hS127.1 22 (by decide)
      exact tX11_field_162 g1 g2 p1 p2 p3 p4 (Ch.wk (Ch.tr hS1c hS127) (by decide) (by decide)) (by omega) (by omega) (by
            intro x
            have e15 : S127.2 63 x = S1c.2 63 x := congrFun (hS127.2 63 (by decide)) _
            have e16 := c3 x
            omega) (by omega) (by omega) (by omega) (by omega) (by omega) (by omega) hK
    · refine ⟨fun h147 => ?_, fun h147 => ?_⟩
      · unfold wX11_field_157
        have e17 : S127.1 54 22 = S1c.1 54 22 := hS127.1 22 (by decide)
        have e18 : S127.2 63 (6 + (4 * a1 + a2)) = S1c.2 63 (6 + (4 * a1 + a2)) := congrFun (hS127.2 63 (by decide)) _
        first | have e19 : S1c.2 63 (6 + (4 * a1 + a2)) = S.2 63 (6 + (4 * a1 + a2)) := by have q := c3 (6 + (4 * a1 + a2)); omega | have e19 := c3 (6 + (4 * a1 + a2))
        have e20 : S127.1 54 23 = S1c.1 54 23 := hS127.1 23 (by decide)
        have e21 : S127.1 54 23 = S1c.1 54 23 := hS127.1 23 (by decide)
        have e22 : S127.1 54 22 = S1c.1 54 22 := hS127.1 22 (by decide)
        exact tX11_field_162 g1 g2 p1 p2 p3 p4 (Ch.wk (Ch.tr hS1c hS127) (by decide) (by decide)) (by omega) (by omega) (by
              intro x
              have e23 : S127.2 63 x = S1c.2 63 x := congrFun (hS127.2 63 (by decide)) _
              have e24 := c3 x
              omega) (by omega) (by omega) (by omega) (by omega) (by omega) (by omega) hK
      · refine ⟨fun h154 => ?_, fun h154 => ?_⟩
        · have e25 : S127.1 54 22 = S1c.1 54 22 := hS127.1 22 (by decide)
          have e26 : S127.2 63 (6 + (4 * a1 + a2)) = S1c.2 63 (6 + (4 * a1 + a2)) := congrFun (hS127.2 63 (by decide)) _
          first | have e27 : S1c.2 63 (6 + (4 * a1 + a2)) = S.2 63 (6 + (4 * a1 + a2)) := by have q := c3 (6 + (4 * a1 + a2)); omega | have e27 := c3 (6 + (4 * a1 + a2))
          have e28 : S127.1 54 23 = S1c.1 54 23 := hS127.1 23 (by decide)
          have e29 : S127.1 54 23 = S1c.1 54 23 := hS127.1 23 (by decide)
          have e30 : S127.1 54 22 = S1c.1 54 22 := hS127.1 22 (by decide)
          exact tX11_field_162 g1 g2 p1 p2 p3 p4 (Ch.wk (Ch.tr hS1c hS127) (by decide) (by decide)) (by omega) (by omega) (by
                intro x
                have e31 : S127.2 63 x = S1c.2 63 x := congrFun (hS127.2 63 (by decide)) _
                have e32 := c3 x
                omega) (by omega) (by omega) (by omega) (by omega) (by omega) (by omega) hK
        · unfold wX11_field_157
          have e33 : S127.1 54 22 = S1c.1 54 22 := hS127.1 22 (by decide)
          have e34 : S127.2 63 (6 + (4 * a1 + a2)) = S1c.2 63 (6 + (4 * a1 + a2)) := congrFun (hS127.2 63 (by decide)) _
          first | have e35 : S1c.2 63 (6 + (4 * a1 + a2)) = S.2 63 (6 + (4 * a1 + a2)) := by have q := c3 (6 + (4 * a1 + a2)); omega | have e35 := c3 (6 + (4 * a1 + a2))
          have e36 : S127.1 54 23 = S1c.1 54 23 := hS127.1 23 (by decide)
          have e37 : S127.1 54 23 = S1c.1 54 23 := hS127.1 23 (by decide)
          have e38 : S127.1 54 22 = S1c.1 54 22 := hS127.1 22 (by decide)
          exact tX11_field_162 g1 g2 p1 p2 p3 p4 (Ch.wk (Ch.tr hS1c hS127) (by decide) (by decide)) (by omega) (by omega) (by
                intro x
                have e39 : S127.2 63 x = S1c.2 63 x := congrFun (hS127.2 63 (by decide)) _
                have e40 := c3 x
                omega) (by omega) (by omega) (by omega) (by omega) (by omega) (by omega) hK
set_option maxRecDepth 100000 in
set_option maxHeartbeats 4000000 in
theorem tX11_field_69 {a1 a2 l1 l3 s0 : Int} {S S1c : St} {K : Int → St → Prop} (g1 : rng a1) (g2 : rng a2) (p1 : iv 0 5 a1) (p2 : iv 0 3 a2) (p3 : (S.1 54 22) ≤ (S.1 54 0)) (p4 : (S.1 54 0) ≤ 3000) (hS1c : Ch [22, 23, 24] [63, 64, 65, 66] S S1c) (c1 : (S1c.1 54 22) ≤ (S.1 54 0)) (c2 : 1 ≤ (S1c.2 63) (6 + (4 * a1 + a2))) (c3 : ∀ x, x = (6 + (4 * a1 + a2)) ∨ (S1c.2 63) x = (S.2 63) x) (c4 : (S1c.1 54 23) = (S.1 54 23) ∨ (S1c.1 54 23) = 1) (c5 : (S.1 54 23) = 0 ∨ (S1c.1 54 23) = 1) (c6 : a1 = l1) (c7 : 4 * a1 + a2 = l3) (c8 : iv 0 1 s0) (hK : ∀ (r : Int) (S' : St), Ch [22, 23, 24] [63, 64, 65, 66] S S' → ((S'.1 54 22) ≤ (S.1 54 0)) → ((S'.1 54 23) = 1 ∨ 1 ≤ (S'.2 63) (6 + (4 * a1 + a2))) → (∀ x, x = (6 + (4 * a1 + a2)) ∨ (S'.2 63) x = (S.2 63) x) → ((S'.1 54 23) = 1 ∨ (S'.1 54 23) = (S.1 54 23)) → K r S') : wX11_field_69 l1 l3 s0 S1c K := by
  unfold wX11_field_69
  subst c6
  subst c7
  refine ⟨by omega, ?_⟩
  intro S69 hS69e
  have hS69 : Ch [24] [] S1c S69 := Ch_I hS69e
  have hS69v : S69.1 54 24 = s0 := pI_at hS69e
  have e1 : S69.1 54 22 = S1c.1 54 22 := hS69.1 22 (by decide)
  have e2 : S69.1 54 0 = S1c.1 54 0 := hS69.1 0 (by decide)
  have e3 : S1c.1 54 0 = S.1 54 0 := hS1c.1 0 (by decide)
  have e4 : S69.1 54 0 = S1c.1 54 0 := hS69.1 0 (by decide)
  have e5 : S1c.1 54 0 = S.1 54 0 := hS1c.1 0 (by decide)
  have e6 : S69.1 54 23 = S1c.1 54 23 := hS69.1 23 (by decide)
  refine tX11_eat (by omega) (by omega) (fun r75 S75 hS75 n75_0 n75_1 => ?_)
  intro q7
  have e8 : S75.1 54 0 = S69.1 54 0 := hS75.1 0 (by decide)
  have e9 : S69.1 54 0 = S1c.1 54 0 := hS69.1 0 (by decide)
  have e10 : S1c.1 54 0 = S.1 54 0 := hS1c.1 0 (by decide)
  have e11 : S75.2 55 (S75.1 54 22) = S69.2 55 (S75.1 54 22) := congrFun (hS75.2 55 (by decide)) _
  have e12 : S69.2 55 (S75.1 54 22) = S1c.2 55 (S75.1 54 22) := congrFun (hS69.2 55 (by decide)) _
  have e13 : S1c.2 55 (S75.1 54 22) = S.2 55 (S75.1 54 22) := congrFun (hS1c.2 55 (by decide)) _
  have e14 : S75.1 54 0 = S69.1 54 0 := hS75.1 0 (by decide)
  have e15 : S69.1 54 0 = S1c.1 54 0 := hS69.1 0 (by decide)
  have e16 : S1c.1 54 0 = S.1 54 0 := hS1c.1 0 (by decide)
  refine tX11_signAt (by omega) (fun r83 n83_0 n83_1 n83_2 => ?_)
  refine ⟨by omega, ?_⟩
  refine ⟨fun h97 => ?_, fun h97 => ?_⟩
  · refine ⟨fun h108 => ?_, fun h108 => ?_⟩
    · refine ⟨fun h119 => ?_, fun h119 => ?_⟩
      · have e17 : S75.2 63 (6 + (4 * a1 + a2)) = S69.2 63 (6 + (4 * a1 + a2)) := congrFun (hS75.2 63 (by decide)) _
        have e18 : S69.2 63 (6 + (4 * a1 + a2)) = S1c.2 63 (6 + (4 * a1 + a2)) := congrFun (hS69.2 63 (by decide)) _
        first | have e19 : S1c.2 63 (6 + (4 * a1 + a2)) = S.2 63 (6 + (4 * a1 + a2)) := by have q := c3 (6 + (4 * a1 + a2)); omega | have e19 := c3 (6 + (4 * a1 + a2))
        exact tX11_field_127 g1 g2 p1 p2 p3 p4 (Ch.wk (Ch.tr (Ch.tr hS1c hS69) hS75) (by decide) (by decide)) (by omega) (by omega) (by
              intro x
              have e20 : S75.2 63 x = S69.2 63 x := congrFun (hS75.2 63 (by decide)) _
              have e21 : S69.2 63 x = S1c.2 63 x := congrFun (hS69.2 63 (by decide)) _
              have e22 := c3 x
              omega) (by omega) (by omega) (by omega) (by omega) (by omega) (by omega) (by omega) (by omega) hK
      · have e23 : S75.2 63 (6 + (4 * a1 + a2)) = S69.2 63 (6 + (4 * a1 + a2)) := congrFun (hS75.2 63 (by decide)) _
        have e24 : S69.2 63 (6 + (4 * a1 + a2)) = S1c.2 63 (6 + (4 * a1 + a2)) := congrFun (hS69.2 63 (by decide)) _
        first | have e25 : S1c.2 63 (6 + (4 * a1 + a2)) = S.2 63 (6 + (4 * a1 + a2)) := by have q := c3 (6 + (4 * a1 + a2)); omega | have e25 := c3 (6 + (4 * a1 + a2))
        exact tX11_field_127 g1 g2 p1 p2 p3 p4 (Ch.wk (Ch.tr (Ch.tr hS1c hS69) hS75) (by decide) (by decide)) (by omega) (by omega) (by
              intro x
              have e26 : S75.2 63 x = S69.2 63 x := congrFun (hS75.2 63 (by decide)) _
              have e27 : S69.2 63 x = S1c.2 63 x := congrFun (hS69.2 63 (by decide)) _
              have e28 := c3 x
              omega) (by omega) (by omega) (by omega) (by omega) (by omega) (by omega) (by omega) (by omega) hK
    · have e29 : S75.2 63 (6 + (4 * a1 + a2)) = S69.2 63 (6 + (4 * a1 + a2)) := congrFun (hS75.2 63 (by decide)) _
      have e30 : S69.2 63 (6 + (4 * a1 + a2)) = S1c.2 63 (6 + (4 * a1 + a2)) := congrFun (hS69.2 63 (by decide)) _
      first | have e31 : S1c.2 63 (6 + (4 * a1 + a2)) = S.2 63 (6 + (4 * a1 + a2)) := by have q := c3 (6 + (4 * a1 + a2)); omega | have e31 := c3 (6 + (4 * a1 + a2))
      exact tX11_field_127 g1 g2 p1 p2 p3 p4 (Ch.wk (Ch.tr (Ch.tr hS1c hS69) hS75) (by decide) (by decide)) (by omega) (by omega) (by
            intro x
            have e32 : S75.2 63 x = S69.2 63 x := congrFun (hS75.2 63 (by decide)) _
            have e33 : S69.2 63 x = S1c.2 63 x := congrFun (hS69.2 63 (by decide)) _
            have e34 := c3 x
            omega) (by omega) (by omega) (by omega) (by omega) (by omega) (by omega) (by omega) (by omega) hK
  · have e35 : S75.2 63 (6 + (4 * a1 + a2)) = S69.2 63 (6 + (4 * a1 + a2)) := congrFun (hS75.2 63 (by decide)) _
    have e36 : S69.2 63 (6 + (4 * a1 + a2)) = S1c.2 63 (6 + (4 * a1 + a2)) := congrFun (hS69.2 63 (by decide)) _
    first | have e37 : S1c.2 63 (6 + (4 * a1 + a2)) = S.2 63 (6 + (4 * a1 + a2)) := by have q := c3 (6 + (4 * a1 + a2)); omega | have e37 := c3 (6 + (4 * a1 + a2))
    exact tX11_field_127 g1 g2 p1 p2 p3 p4 (Ch.wk (Ch.tr (Ch.tr hS1c hS69) hS75) (by decide) (by decide)) (by omega) (by omega) (by
          intro x
          have e38 : S75.2 63 x = S69.2 63 x := congrFun (hS75.2 63 (by decide)) _
          have e39 : S69.2 63 x = S1c.2 63 x := congrFun (hS69.2 63 (by decide)) _
          have e40 := c3 x
          omega) (by omega) (by omega) (by omega) (by omega) (by omega) (by omega) (by omega) (by omega) hK
set_option maxRecDepth 100000 in
set_option maxHeartbeats 4000000 in
theorem tX11_field {a1 a2 : Int} {S : St} {K : Int → St → Prop} (p1 : iv 0 5 a1) (p2 : iv 0 3 a2) (p3 : (S.1 54 22) ≤ (S.1 54 0)) (p4 : (S.1 54 0) ≤ 3000) (hK : ∀ (r : Int) (S' : St), Ch [22, 23, 24] [63, 64, 65, 66] S S' → ((S'.1 54 22) ≤ (S.1 54 0)) → ((S'.1 54 23) = 1 ∨ 1 ≤ (S'.2 63) (6 + (4 * a1 + a2))) → (∀ x, x = (6 + (4 * a1 + a2)) ∨ (S'.2 63) x = (S.2 63) x) → ((S'.1 54 23) = 1 ∨ (S'.1 54 23) = (S.1 54 23)) → K r S') : wX11_field a1 a2 S K := by
  unfold wX11_field
  intro g1 g2
  intro x5 hx5
  subst hx5
  refine ⟨by omega, ?_⟩
  refine ⟨by omega, ?_⟩
  refine tX11_name (by omega) (by omega) (by omega) (by omega) (fun r21 S21 hS21 n21_0 n21_1 n21_2 n21_3 => ?_)
  intro q1
  refine ⟨fun h28 => ?_, fun h28 => ?_⟩
  · intro q2
    refine ⟨fun h37 => ?_, fun h37 => ?_⟩
    · unfold wX11_field_64
      first | have e3 : S21.2 63 (6 + (4 * a1 + a2)) = S.2 63 (6 + (4 * a1 + a2)) := by have q := n21_2 (6 + (4 * a1 + a2)); omega | have e3 := n21_2 (6 + (4 * a1 + a2))
      exact tX11_field_69 g1 g2 p1 p2 p3 p4 (Ch.wk hS21 (by decide) (by decide)) (by omega) (by omega) (by
            intro x
            have e4 := n21_2 x
            omega) (by omega) (by omega) (by omega) (by omega) (by omega) hK
    · refine tX11_isWord (by omega) (by omega) (fun r46 n46_0 => ?_)
      refine ⟨by omega, ?_⟩
      refine ⟨fun h49 => ?_, fun h49 => ?_⟩
      · unfold wX11_field_64
        first | have e5 : S21.2 63 (6 + (4 * a1 + a2)) = S.2 63 (6 + (4 * a1 + a2)) := by have q := n21_2 (6 + (4 * a1 + a2)); omega | have e5 := n21_2 (6 + (4 * a1 + a2))
        exact tX11_field_69 g1 g2 p1 p2 p3 p4 (Ch.wk hS21 (by decide) (by decide)) (by omega) (by omega) (by
              intro x
              have e6 := n21_2 x
              omega) (by omega) (by omega) (by omega) (by omega) (by omega) hK
      · refine tX11_isWord (by omega) (by omega) (fun r58 n58_0 => ?_)
        refine ⟨by omega, ?_⟩
        refine ⟨fun h61 => ?_, fun h61 => ?_⟩
        · first | have e7 : S21.2 63 (6 + (4 * a1 + a2)) = S.2 63 (6 + (4 * a1 + a2)) := by have q := n21_2 (6 + (4 * a1 + a2)); omega | have e7 := n21_2 (6 + (4 * a1 + a2))
          exact tX11_field_69 g1 g2 p1 p2 p3 p4 (Ch.wk hS21 (by decide) (by decide)) (by omega) (by omega) (by
                intro x
                have e8 := n21_2 x
                omega) (by omega) (by omega) (by omega) (by omega) (by omega) hK
        · unfold wX11_field_64
          first | have e9 : S21.2 63 (6 + (4 * a1 + a2)) = S.2 63 (6 + (4 * a1 + a2)) := by have q := n21_2 (6 + (4 * a1 + a2)); omega | have e9 := n21_2 (6 + (4 * a1 + a2))
          exact tX11_field_69 g1 g2 p1 p2 p3 p4 (Ch.wk hS21 (by decide) (by decide)) (by omega) (by omega) (by
                intro x
                have e10 := n21_2 x
                omega) (by omega) (by omega) (by omega) (by omega) (by omega) hK
  · first | have e11 : S21.2 63 (6 + (4 * a1 + a2)) = S.2 63 (6 + (4 * a1 + a2)) := by have q := n21_2 (6 + (4 * a1 + a2)); omega | have e11 := n21_2 (6 + (4 * a1 + a2))
    exact hK (0) S21 (Ch.wk hS21 (by decide) (by decide)) (by omega) (by omega) (by
          intro x
          have e12 := n21_2 x
          omega) (by omega)
