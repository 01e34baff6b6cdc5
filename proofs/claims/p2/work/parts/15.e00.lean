set_option maxRecDepth 100000 in
set_option maxHeartbeats 4000000 in
theorem tX11_oneClass_54 {a1 l1 l2 : Int} {S S1c : St} {K : Int → St → Prop} (g1 : rng a1) (p1 : iv 0 5 a1) (p2 : (S.1 54 22) ≤ (S.1 54 0)) (p3 : (S.1 54 23) = 0) (p4 : (S.1 54 0) ≤ 3000) (hS1c : Ch [22, 23, 24] [62, 63, 64, 65, 66] S S1c) (c1 : a1 = l1) (c2 : iv 0 1 l2) (c3 : (S1c.1 54 22) ≤ (S.1 54 0)) (c4 : (S1c.2 62) a1 = 0) (c5 : (S1c.1 54 23) = 1 ∨ 1 ≤ (S1c.2 63) a1) (c6 : ∀ x, x = a1 ∨ (S1c.2 63) x = (S.2 63) x) (c7 : ∀ x, x = a1 ∨ (S1c.2 62) x = (S.2 62) x) (c8 : l2 = 0 ∨ (S1c.1 54 23) = 0) (hK : ∀ (r : Int) (S' : St), Ch [22, 23, 24] [62, 63, 64, 65, 66] S S' → ((S'.1 54 22) ≤ (S.1 54 0)) → ((S'.1 54 23) = 1 ∨ 1 ≤ (S'.2 63) a1) → (∀ x, (S'.1 54 23) = 1 ∨ x < 0 ∨ (S'.2 62) a1 ≤ x ∨ 1 ≤ (S'.2 63) (6 + (4 * a1 + x))) → (∀ x, x = a1 ∨ (6 + 4 * a1 ≤ x ∧ x ≤ 9 + 4 * a1) ∨ (S'.2 63) x = (S.2 63) x) → (∀ x, x = a1 ∨ (S'.2 62) x = (S.2 62) x) → K r S') : wX11_oneClass_54 l1 l2 S1c K := by
  subst c1
  unfold wX11_oneClass_54
  refine ⟨fun u1 u2 Sx => Ch [22, 23, 24] [62, 63, 64, 65, 66] S1c Sx ∧ (a1) = u1 ∧ (iv 0 1 u2) ∧ ((Sx.1 54 22) ≤ (S.1 54 0)) ∧ (u2 = 0 ∨ (Sx.2 62) a1 ≤ 3) ∧ ((Sx.1 54 23) = 1 ∨ 1 ≤ (Sx.2 63) a1) ∧ (∀ x, (Sx.1 54 23) = 1 ∨ x < 0 ∨ (Sx.2 62) a1 ≤ x ∨ 1 ≤ (Sx.2 63) (6 + (4 * a1 + x))) ∧ (∀ x, x = a1 ∨ (6 + 4 * a1 ≤ x ∧ x ≤ 9 + 4 * a1) ∨ (Sx.2 63) x = (S1c.2 63) x) ∧ (∀ x, x = a1 ∨ (Sx.2 62) x = (S1c.2 62) x) ∧ (u2 = 0 ∨ (Sx.1 54 23) = 0), fun u1 u2 Sx => (5 - (Sx.2 62) a1).toNat, ?_, fun v54_1 v54_2 S54h hI => ?_⟩
  · exact ⟨Ch.re, rfl, by omega, by omega, by omega, by omega, (by
        intro x
        omega), (by
        intro x
        have e1 := c6 x
        omega), (by
        intro x
        have e2 := c7 x
        omega), by omega⟩
  obtain ⟨hS54h, rfl, i54_0, i54_1, i54_2, i54_3, i54_4, i54_5, i54_6, i54_7⟩ := hI
  unfold wX11_oneClass_54'
  refine ⟨by omega, ?_⟩
  refine ⟨fun h55 => ?_, fun h55 => ?_⟩
  · intro q3
    refine ⟨fun h143 => ?_, fun h143 => ?_⟩
    · exact hK (0) S54h (Ch.wk (Ch.tr hS1c hS54h) (by decide) (by decide)) (by omega) (by omega) (by
            intro x
            have e4 := i54_5 (6 + (4 * a1 + x))
            have e5 := c6 (6 + (4 * a1 + x))
            have e6 := i54_4 x
            omega) (by
            intro x
            have e7 := i54_5 x
            have e8 := c6 x
            omega) (by
            intro x
            have e9 := i54_6 x
            have e10 := c7 x
            omega)
    · have e11 : S54h.1 54 0 = S1c.1 54 0 := hS54h.1 0 (by decide)
      have e12 : S1c.1 54 0 = S.1 54 0 := hS1c.1 0 (by decide)
      have e13 : S54h.1 54 0 = S1c.1 54 0 := hS54h.1 0 (by decide)
      have e14 : S1c.1 54 0 = S.1 54 0 := hS1c.1 0 (by decide)
      refine tX11_eat (by omega) (by omega) (fun r149 S149 hS149 n149_0 n149_1 => ?_)
      have e15 : S149.2 63 a1 = S54h.2 63 a1 := congrFun (hS149.2 63 (by decide)) _
      have e16 : S149.2 62 a1 = S54h.2 62 a1 := congrFun (hS149.2 62 (by decide)) _
      exact hK (0) S149 (Ch.wk (Ch.tr (Ch.tr hS1c hS54h) hS149) (by decide) (by decide)) (by omega) (by omega) (by
            intro x
            have e17 : S149.2 63 (6 + (4 * a1 + x)) = S54h.2 63 (6 + (4 * a1 + x)) := congrFun (hS149.2 63 (by decide)) _
            have e18 := i54_5 (6 + (4 * a1 + x))
            have e19 := c6 (6 + (4 * a1 + x))
            have e20 : S149.2 62 a1 = S54h.2 62 a1 := congrFun (hS149.2 62 (by decide)) _
            have e21 := i54_4 x
            omega) (by
            intro x
            have e22 : S149.2 63 x = S54h.2 63 x := congrFun (hS149.2 63 (by decide)) _
            have e23 := i54_5 x
            have e24 := c6 x
            omega) (by
            intro x
            have e25 : S149.2 62 x = S54h.2 62 x := congrFun (hS149.2 62 (by decide)) _
            have e26 := i54_6 x
            have e27 := c7 x
            omega)
  · refine ⟨by omega, by omega, ?_⟩
    intro q28
    refine ⟨by omega, ?_⟩
    have e29 : S54h.1 54 0 = S1c.1 54 0 := hS54h.1 0 (by decide)
    have e30 : S1c.1 54 0 = S.1 54 0 := hS1c.1 0 (by decide)
    have e31 : S54h.1 54 0 = S1c.1 54 0 := hS54h.1 0 (by decide)
    have e32 : S1c.1 54 0 = S.1 54 0 := hS1c.1 0 (by decide)
    have e33 : S54h.1 54 0 = S1c.1 54 0 := hS54h.1 0 (by decide)
    have e34 : S1c.1 54 0 = S.1 54 0 := hS1c.1 0 (by decide)
    refine tX11_field (by omega) (by omega) (by omega) (by omega) (fun r66 S66 hS66 n66_0 n66_1 n66_2 n66_3 => ?_)
    refine ⟨by omega, by omega, ?_⟩
    intro q35
    have e36 : S66.2 62 ((a1)) = S54h.2 62 ((a1)) := congrFun (hS66.2 62 (by decide)) _
    refine ⟨by omega, by omega, ?_⟩
    refine ⟨by omega, ?_⟩
    intro S78 hS78e
    have hS78 : Ch [] [62] S66 S78 := Ch_A hS78e
    have hS78v : ∀ x, (x = (a1) ∧ S78.2 62 x = (S66.2 62 ((a1)) + 1)) ∨ (¬ x = (a1) ∧ S78.2 62 x = S66.2 62 x) := pA_at hS78e
    intro q37
    have e38 : S78.1 54 23 = S66.1 54 23 := hS78.1 23 (by decide)
    refine ⟨fun h83 => ?_, fun h83 => ?_⟩
    · unfold wX11_oneClass_113
      unfold wX11_oneClass_114
      refine ⟨by omega, ?_⟩
      refine ⟨fun h117 => ?_, fun h117 => ?_⟩
      · intro q39
        have e40 : S78.1 54 22 = S66.1 54 22 := hS78.1 22 (by decide)
        unfold wX11_oneClass_133
        refine ⟨by omega, ?_⟩
        intro S133 hS133e
        have hS133 : Ch [22] [] S78 S133 := Ch_I hS133e
        have hS133v : S133.1 54 22 = S78.1 54 22 := pI_at hS133e
        have e41 : S133.2 62 a1 = S78.2 62 a1 := congrFun (hS133.2 62 (by decide)) _
        have e42 : S78.2 62 a1 = ((S66.2 62 ((a1)) + 1)) := by have q := hS78v a1; omega
        have e43 : S66.2 62 a1 = S54h.2 62 a1 := congrFun (hS66.2 62 (by decide)) _
        have e44 : S133.1 54 23 = S78.1 54 23 := hS133.1 23 (by decide)
        have e45 : S78.1 54 23 = S66.1 54 23 := hS78.1 23 (by decide)
        have e46 : S133.2 63 a1 = S78.2 63 a1 := congrFun (hS133.2 63 (by decide)) _
        have e47 : S78.2 63 a1 = S66.2 63 a1 := congrFun (hS78.2 63 (by decide)) _
        first | have e48 : S66.2 63 a1 = S54h.2 63 a1 := by have q := n66_2 a1; omega | have e48 := n66_2 a1
        have e49 : S133.1 54 23 = S78.1 54 23 := hS133.1 23 (by decide)
        have e50 : S78.1 54 23 = S66.1 54 23 := hS78.1 23 (by decide)
        have e51 : S133.2 62 a1 = S78.2 62 a1 := congrFun (hS133.2 62 (by decide)) _
        have e52 : S78.2 62 a1 = ((S66.2 62 ((a1)) + 1)) := by have q := hS78v a1; omega
        have e53 : S66.2 62 a1 = S54h.2 62 a1 := congrFun (hS66.2 62 (by decide)) _
        have e54 : S133.1 54 23 = S78.1 54 23 := hS133.1 23 (by decide)
        have e55 : S78.1 54 23 = S66.1 54 23 := hS78.1 23 (by decide)
        have e56 : S133.2 62 a1 = S78.2 62 a1 := congrFun (hS133.2 62 (by decide)) _
        have e57 : S78.2 62 a1 = ((S66.2 62 ((a1)) + 1)) := by have q := hS78v a1; omega
        have e58 : S66.2 62 a1 = S54h.2 62 a1 := congrFun (hS66.2 62 (by decide)) _
        exact ⟨⟨(Ch.wk (Ch.tr (Ch.tr (Ch.tr hS54h hS66) hS78) hS133) (by decide) (by decide)), rfl, by omega, by omega, by omega, by omega, (by
              intro x
              have e59 : S133.2 63 (6 + (4 * a1 + x)) = S78.2 63 (6 + (4 * a1 + x)) := congrFun (hS133.2 63 (by decide)) _
              have e60 : S78.2 63 (6 + (4 * a1 + x)) = S66.2 63 (6 + (4 * a1 + x)) := congrFun (hS78.2 63 (by decide)) _
              have e61 := n66_2 (6 + (4 * a1 + x))
              have e62 := i54_5 (6 + (4 * a1 + x))
              have e63 := c6 (6 + (4 * a1 + x))
              have e64 : S133.2 62 a1 = S78.2 62 a1 := congrFun (hS133.2 62 (by decide)) _
              have e65 : S78.2 62 a1 = ((S66.2 62 ((a1)) + 1)) := by have q := hS78v a1; omega
              have e66 : S66.2 62 a1 = S54h.2 62 a1 := congrFun (hS66.2 62 (by decide)) _
              have e67 := i54_4 x
              by_cases hx : x = S54h.2 62 a1
              · subst hx; omega
              · omega), (by
              intro x
              have e68 : S133.2 63 x = S78.2 63 x := congrFun (hS133.2 63 (by decide)) _
              have e69 : S78.2 63 x = S66.2 63 x := congrFun (hS78.2 63 (by decide)) _
              have e70 := n66_2 x
              have e71 := i54_5 x
              have e72 := c6 x
              omega), (by
              intro x
              have e73 : S133.2 62 x = S78.2 62 x := congrFun (hS133.2 62 (by decide)) _
              have e74 := hS78v x
              have e75 : S66.2 62 x = S54h.2 62 x := congrFun (hS66.2 62 (by decide)) _
              have e76 := i54_6 x
              have e77 := c7 x
              omega), by omega⟩, show (5 - (S133.2 62) a1).toNat < (5 - (S54h.2 62) a1).toNat by omega⟩
      · intro q78
        have e79 : S78.1 54 22 = S66.1 54 22 := hS78.1 22 (by decide)
        unfold wX11_oneClass_133
        refine ⟨by omega, ?_⟩
        intro S133 hS133e
        have hS133 : Ch [22] [] S78 S133 := Ch_I hS133e
        have hS133v : S133.1 54 22 = (S78.1 54 22 + 1) := pI_at hS133e
        have e80 : S133.2 62 a1 = S78.2 62 a1 := congrFun (hS133.2 62 (by decide)) _
        have e81 : S78.2 62 a1 = ((S66.2 62 ((a1)) + 1)) := by have q := hS78v a1; omega
        have e82 : S66.2 62 a1 = S54h.2 62 a1 := congrFun (hS66.2 62 (by decide)) _
        have e83 : S133.1 54 23 = S78.1 54 23 := hS133.1 23 (by decide)
        have e84 : S78.1 54 23 = S66.1 54 23 := hS78.1 23 (by decide)
        have e85 : S133.2 63 a1 = S78.2 63 a1 := congrFun (hS133.2 63 (by decide)) _
        have e86 : S78.2 63 a1 = S66.2 63 a1 := congrFun (hS78.2 63 (by decide)) _
        first | have e87 : S66.2 63 a1 = S54h.2 63 a1 := by have q := n66_2 a1; omega | have e87 := n66_2 a1
        have e88 : S133.1 54 23 = S78.1 54 23 := hS133.1 23 (by decide)
        have e89 : S78.1 54 23 = S66.1 54 23 := hS78.1 23 (by decide)
        have e90 : S133.2 62 a1 = S78.2 62 a1 := congrFun (hS133.2 62 (by decide)) _
        have e91 : S78.2 62 a1 = ((S66.2 62 ((a1)) + 1)) := by have q := hS78v a1; omega
        have e92 : S66.2 62 a1 = S54h.2 62 a1 := congrFun (hS66.2 62 (by decide)) _
        have e93 : S133.1 54 23 = S78.1 54 23 := hS133.1 23 (by decide)
        have e94 : S78.1 54 23 = S66.1 54 23 := hS78.1 23 (by decide)
        have e95 : S133.2 62 a1 = S78.2 62 a1 := congrFun (hS133.2 62 (by decide)) _
        have e96 : S78.2 62 a1 = ((S66.2 62 ((a1)) + 1)) := by have q := hS78v a1; omega
        have e97 : S66.2 62 a1 = S54h.2 62 a1 := congrFun (hS66.2 62 (by decide)) _
        exact ⟨⟨(Ch.wk (Ch.tr (Ch.tr (Ch.tr hS54h hS66) hS78) hS133) (by decide) (by decide)), rfl, by omega, by omega, by omega, by omega, (by
              intro x
              have e98 : S133.2 63 (6 + (4 * a1 + x)) = S78.2 63 (6 + (4 * a1 + x)) := congrFun (hS133.2 63 (by decide)) _
              have e99 : S78.2 63 (6 + (4 * a1 + x)) = S66.2 63 (6 + (4 * a1 + x)) := congrFun (hS78.2 63 (by decide)) _
              have e100 := n66_2 (6 + (4 * a1 + x))
              have e101 := i54_5 (6 + (4 * a1 + x))
              have e102 := c6 (6 + (4 * a1 + x))
              have e103 : S133.2 62 a1 = S78.2 62 a1 := congrFun (hS133.2 62 (by decide)) _
              have e104 : S78.2 62 a1 = ((S66.2 62 ((a1)) + 1)) := by have q := hS78v a1; omega
              have e105 : S66.2 62 a1 = S54h.2 62 a1 := congrFun (hS66.2 62 (by decide)) _
              have e106 := i54_4 x
              by_cases hx : x = S54h.2 62 a1
              · subst hx; omega
              · omega), (by
              intro x
              have e107 : S133.2 63 x = S78.2 63 x := congrFun (hS133.2 63 (by decide)) _
              have e108 : S78.2 63 x = S66.2 63 x := congrFun (hS78.2 63 (by decide)) _
              have e109 := n66_2 x
              have e110 := i54_5 x
              have e111 := c6 x
              omega), (by
              intro x
              have e112 : S133.2 62 x = S78.2 62 x := congrFun (hS133.2 62 (by decide)) _
              have e113 := hS78v x
              have e114 : S66.2 62 x = S54h.2 62 x := congrFun (hS66.2 62 (by decide)) _
              have e115 := i54_6 x
              have e116 := c7 x
              omega), by omega⟩, show (5 - (S133.2 62) a1).toNat < (5 - (S54h.2 62) a1).toNat by omega⟩
    · refine ⟨by omega, by omega, ?_⟩
      intro q117
      have e118 : S78.2 62 ((a1)) = ((S66.2 62 ((a1)) + 1)) := by have q := hS78v ((a1)); omega
      have e119 : S66.2 62 ((a1)) = S54h.2 62 ((a1)) := congrFun (hS66.2 62 (by decide)) _
      refine ⟨fun h93 => ?_, fun h93 => ?_⟩
      · unfold wX11_oneClass_113
        unfold wX11_oneClass_114
        refine ⟨by omega, ?_⟩
        refine ⟨fun h117 => ?_, fun h117 => ?_⟩
        · intro q120
          have e121 : S78.1 54 22 = S66.1 54 22 := hS78.1 22 (by decide)
          unfold wX11_oneClass_133
          refine ⟨by omega, ?_⟩
          intro S133 hS133e
          have hS133 : Ch [22] [] S78 S133 := Ch_I hS133e
          have hS133v : S133.1 54 22 = S78.1 54 22 := pI_at hS133e
          have e122 : S133.2 62 a1 = S78.2 62 a1 := congrFun (hS133.2 62 (by decide)) _
          have e123 : S78.2 62 a1 = ((S66.2 62 ((a1)) + 1)) := by have q := hS78v a1; omega
          have e124 : S66.2 62 a1 = S54h.2 62 a1 := congrFun (hS66.2 62 (by decide)) _
          have e125 : S133.1 54 23 = S78.1 54 23 := hS133.1 23 (by decide)
          have e126 : S78.1 54 23 = S66.1 54 23 := hS78.1 23 (by decide)
          have e127 : S133.2 63 a1 = S78.2 63 a1 := congrFun (hS133.2 63 (by decide)) _
          have e128 : S78.2 63 a1 = S66.2 63 a1 := congrFun (hS78.2 63 (by decide)) _
          first | have e129 : S66.2 63 a1 = S54h.2 63 a1 := by have q := n66_2 a1; omega | have e129 := n66_2 a1
          have e130 : S133.1 54 23 = S78.1 54 23 := hS133.1 23 (by decide)
          have e131 : S78.1 54 23 = S66.1 54 23 := hS78.1 23 (by decide)
          have e132 : S133.2 62 a1 = S78.2 62 a1 := congrFun (hS133.2 62 (by decide)) _
          have e133 : S78.2 62 a1 = ((S66.2 62 ((a1)) + 1)) := by have q := hS78v a1; omega
          have e134 : S66.2 62 a1 = S54h.2 62 a1 := congrFun (hS66.2 62 (by decide)) _
          have e135 : S133.1 54 23 = S78.1 54 23 := hS133.1 23 (by decide)
          have e136 : S78.1 54 23 = S66.1 54 23 := hS78.1 23 (by decide)
          have e137 : S133.2 62 a1 = S78.2 62 a1 := congrFun (hS133.2 62 (by decide)) _
          have e138 : S78.2 62 a1 = ((S66.2 62 ((a1)) + 1)) := by have q := hS78v a1; omega
          have e139 : S66.2 62 a1 = S54h.2 62 a1 := congrFun (hS66.2 62 (by decide)) _
          exact ⟨⟨(Ch.wk (Ch.tr (Ch.tr (Ch.tr hS54h hS66) hS78) hS133) (by decide) (by decide)), rfl, by omega, by omega, by omega, by omega, (by
                intro x
                have e140 : S133.2 63 (6 + (4 * a1 + x)) = S78.2 63 (6 + (4 * a1 + x)) := congrFun (hS133.2 63 (by decide)) _
                have e141 : S78.2 63 (6 + (4 * a1 + x)) = S66.2 63 (6 + (4 * a1 + x)) := congrFun (hS78.2 63 (by decide)) _
                have e142 := n66_2 (6 + (4 * a1 + x))
                have e143 := i54_5 (6 + (4 * a1 + x))
                have e144 := c6 (6 + (4 * a1 + x))
                have e145 : S133.2 62 a1 = S78.2 62 a1 := congrFun (hS133.2 62 (by decide)) _
                have e146 : S78.2 62 a1 = ((S66.2 62 ((a1)) + 1)) := by have q := hS78v a1; omega
                have e147 : S66.2 62 a1 = S54h.2 62 a1 := congrFun (hS66.2 62 (by decide)) _
                have e148 := i54_4 x
                by_cases hx : x = S54h.2 62 a1
                · subst hx; omega
                · omega), (by
                intro x
                have e149 : S133.2 63 x = S78.2 63 x := congrFun (hS133.2 63 (by decide)) _
                have e150 : S78.2 63 x = S66.2 63 x := congrFun (hS78.2 63 (by decide)) _
                have e151 := n66_2 x
                have e152 := i54_5 x
                have e153 := c6 x
                omega), (by
                intro x
                have e154 : S133.2 62 x = S78.2 62 x := congrFun (hS133.2 62 (by decide)) _
                have e155 := hS78v x
                have e156 : S66.2 62 x = S54h.2 62 x := congrFun (hS66.2 62 (by decide)) _
                have e157 := i54_6 x
                have e158 := c7 x
                omega), by omega⟩, show (5 - (S133.2 62) a1).toNat < (5 - (S54h.2 62) a1).toNat by omega⟩
        · intro q159
          have e160 : S78.1 54 22 = S66.1 54 22 := hS78.1 22 (by decide)
          unfold wX11_oneClass_133
          refine ⟨by omega, ?_⟩
          intro S133 hS133e
          have hS133 : Ch [22] [] S78 S133 := Ch_I hS133e
          have hS133v : S133.1 54 22 = (S78.1 54 22 + 1) := pI_at hS133e
          have e161 : S133.2 62 a1 = S78.2 62 a1 := congrFun (hS133.2 62 (by decide)) _
          have e162 : S78.2 62 a1 = ((S66.2 62 ((a1)) + 1)) := by have q := hS78v a1; omega
          have e163 : S66.2 62 a1 = S54h.2 62 a1 := congrFun (hS66.2 62 (by decide)) _
          have e164 : S133.1 54 23 = S78.1 54 23 := hS133.1 23 (by decide)
          have e165 : S78.1 54 23 = S66.1 54 23 := hS78.1 23 (by decide)
          have e166 : S133.2 63 a1 = S78.2 63 a1 := congrFun (hS133.2 63 (by decide)) _
          have e167 : S78.2 63 a1 = S66.2 63 a1 := congrFun (hS78.2 63 (by decide)) _
          first | have e168 : S66.2 63 a1 = S54h.2 63 a1 := by have q := n66_2 a1; omega | have e168 := n66_2 a1
          have e169 : S133.1 54 23 = S78.1 54 23 := hS133.1 23 (by decide)
          have e170 : S78.1 54 23 = S66.1 54 23 := hS78.1 23 (by decide)
          have e171 : S133.2 62 a1 = S78.2 62 a1 := congrFun (hS133.2 62 (by decide)) _
          have e172 : S78.2 62 a1 = ((S66.2 62 ((a1)) + 1)) := by have q := hS78v a1; omega
          have e173 : S66.2 62 a1 = S54h.2 62 a1 := congrFun (hS66.2 62 (by decide)) _
          have e174 : S133.1 54 23 = S78.1 54 23 := hS133.1 23 (by decide)
          have e175 : S78.1 54 23 = S66.1 54 23 := hS78.1 23 (by decide)
          have e176 : S133.2 62 a1 = S78.2 62 a1 := congrFun (hS133.2 62 (by decide)) _
          have e177 : S78.2 62 a1 = ((S66.2 62 ((a1)) + 1)) := by have q := hS78v a1; omega
          have e178 : S66.2 62 a1 = S54h.2 62 a1 := congrFun (hS66.2 62 (by decide)) _
          exact ⟨⟨(Ch.wk (Ch.tr (Ch.tr (Ch.tr hS54h hS66) hS78) hS133) (by decide) (by decide)), rfl, by omega, by omega, by omega, by omega, (by
                intro x
                have e179 : S133.2 63 (6 + (4 * a1 + x)) = S78.2 63 (6 + (4 * a1 + x)) := congrFun (hS133.2 63 (by decide)) _
                have e180 : S78.2 63 (6 + (4 * a1 + x)) = S66.2 63 (6 + (4 * a1 + x)) := congrFun (hS78.2 63 (by decide)) _
                have e181 := n66_2 (6 + (4 * a1 + x))
                have e182 := i54_5 (6 + (4 * a1 + x))
                have e183 := c6 (6 + (4 * a1 + x))
                have e184 : S133.2 62 a1 = S78.2 62 a1 := congrFun (hS133.2 62 (by decide)) _
                have e185 : S78.2 62 a1 = ((S66.2 62 ((a1)) + 1)) := by have q := hS78v a1; omega
                have e186 : S66.2 62 a1 = S54h.2 62 a1 := congrFun (hS66.2 62 (by decide)) _
                have e187 := i54_4 x
                by_cases hx : x = S54h.2 62 a1
                · subst hx; omega
                · omega), (by
                intro x
                have e188 : S133.2 63 x = S78.2 63 x := congrFun (hS133.2 63 (by decide)) _
                have e189 : S78.2 63 x = S66.2 63 x := congrFun (hS78.2 63 (by decide)) _
                have e190 := n66_2 x
                have e191 := i54_5 x
                have e192 := c6 x
                omega), (by
                intro x
                have e193 : S133.2 62 x = S78.2 62 x := congrFun (hS133.2 62 (by decide)) _
                have e194 := hS78v x
                have e195 : S66.2 62 x = S54h.2 62 x := congrFun (hS66.2 62 (by decide)) _
                have e196 := i54_6 x
                have e197 := c7 x
                omega), by omega⟩, show (5 - (S133.2 62) a1).toNat < (5 - (S54h.2 62) a1).toNat by omega⟩
      · intro q198
        have e199 : S78.1 54 22 = S66.1 54 22 := hS78.1 22 (by decide)
        have e200 : S78.1 54 0 = S66.1 54 0 := hS78.1 0 (by decide)
        have e201 : S66.1 54 0 = S54h.1 54 0 := hS66.1 0 (by decide)
        have e202 : S54h.1 54 0 = S1c.1 54 0 := hS54h.1 0 (by decide)
        have e203 : S1c.1 54 0 = S.1 54 0 := hS1c.1 0 (by decide)
        have e204 : S78.2 55 (S78.1 54 22) = S66.2 55 (S78.1 54 22) := congrFun (hS78.2 55 (by decide)) _
        have e205 : S66.2 55 (S78.1 54 22) = S54h.2 55 (S78.1 54 22) := congrFun (hS66.2 55 (by decide)) _
        have e206 : S54h.2 55 (S78.1 54 22) = S1c.2 55 (S78.1 54 22) := congrFun (hS54h.2 55 (by decide)) _
        have e207 : S1c.2 55 (S78.1 54 22) = S.2 55 (S78.1 54 22) := congrFun (hS1c.2 55 (by decide)) _
        have e208 : S78.1 54 0 = S66.1 54 0 := hS78.1 0 (by decide)
        have e209 : S66.1 54 0 = S54h.1 54 0 := hS66.1 0 (by decide)
        have e210 : S54h.1 54 0 = S1c.1 54 0 := hS54h.1 0 (by decide)
        have e211 : S1c.1 54 0 = S.1 54 0 := hS1c.1 0 (by decide)
        refine tX11_signAt (by omega) (fun r101 n101_0 n101_1 n101_2 => ?_)
        refine ⟨by omega, ?_⟩
        refine ⟨fun h106 => ?_, fun h106 => ?_⟩
        · unfold wX11_oneClass_113
          unfold wX11_oneClass_114
          refine ⟨by omega, ?_⟩
          refine ⟨fun h117 => ?_, fun h117 => ?_⟩
          · intro q212
            have e213 : S78.1 54 22 = S66.1 54 22 := hS78.1 22 (by decide)
            unfold wX11_oneClass_133
            refine ⟨by omega, ?_⟩
            intro S133 hS133e
            have hS133 : Ch [22] [] S78 S133 := Ch_I hS133e
            have hS133v : S133.1 54 22 = S78.1 54 22 := pI_at hS133e
            have e214 : S133.2 62 a1 = S78.2 62 a1 := congrFun (hS133.2 62 (by decide)) _
            have e215 : S78.2 62 a1 = ((S66.2 62 ((a1)) + 1)) := by have q := hS78v a1; omega
            have e216 : S66.2 62 a1 = S54h.2 62 a1 := congrFun (hS66.2 62 (by decide)) _
            have e217 : S133.1 54 23 = S78.1 54 23 := hS133.1 23 (by decide)
            have e218 : S78.1 54 23 = S66.1 54 23 := hS78.1 23 (by decide)
            have e219 : S133.2 63 a1 = S78.2 63 a1 := congrFun (hS133.2 63 (by decide)) _
            have e220 : S78.2 63 a1 = S66.2 63 a1 := congrFun (hS78.2 63 (by decide)) _
            first | have e221 : S66.2 63 a1 = S54h.2 63 a1 := by have q := n66_2 a1; omega | have e221 := n66_2 a1
            have e222 : S133.1 54 23 = S78.1 54 23 := hS133.1 23 (by decide)
            have e223 : S78.1 54 23 = S66.1 54 23 := hS78.1 23 (by decide)
            have e224 : S133.2 62 a1 = S78.2 62 a1 := congrFun (hS133.2 62 (by decide)) _
            have e225 : S78.2 62 a1 = ((S66.2 62 ((a1)) + 1)) := by have q := hS78v a1; omega
            have e226 : S66.2 62 a1 = S54h.2 62 a1 := congrFun (hS66.2 62 (by decide)) _
            have e227 : S133.1 54 23 = S78.1 54 23 := hS133.1 23 (by decide)
            have e228 : S78.1 54 23 = S66.1 54 23 := hS78.1 23 (by decide)
            have e229 : S133.2 62 a1 = S78.2 62 a1 := congrFun (hS133.2 62 (by decide)) _
            have e230 : S78.2 62 a1 = ((S66.2 62 ((a1)) + 1)) := by have q := hS78v a1; omega
            have e231 : S66.2 62 a1 = S54h.2 62 a1 := congrFun (hS66.2 62 (by decide)) _
            exact ⟨⟨(Ch.wk (Ch.tr (Ch.tr (Ch.tr hS54h hS66) hS78) hS133) (by decide) (by decide)), rfl, by omega, by omega, by omega, by omega, (by
                  intro x
                  have e232 : S133.2 63 (6 + (4 * a1 + x)) = S78.2 63 (6 + (4 * a1 + x)) := congrFun (hS133.2 63 (by decide)) _
                  have e233 : S78.2 63 (6 + (4 * a1 + x)) = S66.2 63 (6 + (4 * a1 + x)) := congrFun (hS78.2 63 (by decide)) _
                  have e234 := n66_2 (6 + (4 * a1 + x))
                  have e235 := i54_5 (6 + (4 * a1 + x))
                  have e236 := c6 (6 + (4 * a1 + x))
                  have e237 : S133.2 62 a1 = S78.2 62 a1 := congrFun (hS133.2 62 (by decide)) _
                  have e238 : S78.2 62 a1 = ((S66.2 62 ((a1)) + 1)) := by have q := hS78v a1; omega
                  have e239 : S66.2 62 a1 = S54h.2 62 a1 := congrFun (hS66.2 62 (by decide)) _
                  have e240 := i54_4 x
                  by_cases hx : x = S54h.2 62 a1
                  · subst hx; omega
                  · omega), (by
                  intro x
                  have e241 : S133.2 63 x = S78.2 63 x := congrFun (hS133.2 63 (by decide)) _
                  have e242 : S78.2 63 x = S66.2 63 x := congrFun (hS78.2 63 (by decide)) _
                  have e243 := n66_2 x
                  have e244 := i54_5 x
                  have e245 := c6 x
                  omega), (by
                  intro x
                  have e246 : S133.2 62 x = S78.2 62 x := congrFun (hS133.2 62 (by decide)) _
                  have e247 := hS78v x
                  have e248 : S66.2 62 x = S54h.2 62 x := congrFun (hS66.2 62 (by decide)) _
                  have e249 := i54_6 x
                  have e250 := c7 x
                  omega), by omega⟩, show (5 - (S133.2 62) a1).toNat < (5 - (S54h.2 62) a1).toNat by omega⟩
          · intro q251
            have e252 : S78.1 54 22 = S66.1 54 22 := hS78.1 22 (by decide)
            unfold wX11_oneClass_133
            refine ⟨by omega, ?_⟩
            intro S133 hS133e
            have hS133 : Ch [22] [] S78 S133 := Ch_I hS133e
            have hS133v : S133.1 54 22 = (S78.1 54 22 + 1) := pI_at hS133e
            have e253 : S133.2 62 a1 = S78.2 62 a1 := congrFun (hS133.2 62 (by decide)) _
            have e254 : S78.2 62 a1 = ((S66.2 62 ((a1)) + 1)) := by have q := hS78v a1; omega
            have e255 : S66.2 62 a1 = S54h.2 62 a1 := congrFun (hS66.2 62 (by decide)) _
            have e256 : S133.1 54 23 = S78.1 54 23 := hS133.1 23 (by decide)
            have e257 : S78.1 54 23 = S66.1 54 23 := hS78.1 23 (by decide)
            have e258 : S133.2 63 a1 = S78.2 63 a1 := congrFun (hS133.2 63 (by decide)) _
            have e259 : S78.2 63 a1 = S66.2 63 a1 := congrFun (hS78.2 63 (by decide)) _
            first | have e260 : S66.2 63 a1 = S54h.2 63 a1 := by have q := n66_2 a1; omega | have e260 := n66_2 a1
            have e261 : S133.1 54 23 = S78.1 54 23 := hS133.1 23 (by decide)
            have e262 : S78.1 54 23 = S66.1 54 23 := hS78.1 23 (by decide)
            have e263 : S133.2 62 a1 = S78.2 62 a1 := congrFun (hS133.2 62 (by decide)) _
            have e264 : S78.2 62 a1 = ((S66.2 62 ((a1)) + 1)) := by have q := hS78v a1; omega
            have e265 : S66.2 62 a1 = S54h.2 62 a1 := congrFun (hS66.2 62 (by decide)) _
            have e266 : S133.1 54 23 = S78.1 54 23 := hS133.1 23 (by decide)
            have e267 : S78.1 54 23 = S66.1 54 23 := hS78.1 23 (by decide)
            have e268 : S133.2 62 a1 = S78.2 62 a1 := congrFun (hS133.2 62 (by decide)) _
            have e269 : S78.2 62 a1 = ((S66.2 62 ((a1)) + 1)) := by have q := hS78v a1; omega
            have e270 : S66.2 62 a1 = S54h.2 62 a1 := congrFun (hS66.2 62 (by decide)) _
            exact ⟨⟨(Ch.wk (Ch.tr (Ch.tr (Ch.tr hS54h hS66) hS78) hS133) (by decide) (by decide)), rfl, by omega, by omega, by omega, by omega, (by
                  intro x
                  have e271 : S133.2 63 (6 + (4 * a1 + x)) = S78.2 63 (6 + (4 * a1 + x)) := congrFun (hS133.2 63 (by decide)) _
                  have e272 : S78.2 63 (6 + (4 * a1 + x)) = S66.2 63 (6 + (4 * a1 + x)) := congrFun (hS78.2 63 (by decide)) _
                  have e273 := n66_2 (6 + (4 * a1 + x))
                  have e274 := i54_5 (6 + (4 * a1 + x))
                  have e275 := c6 (6 + (4 * a1 + x))
                  have e276 : S133.2 62 a1 = S78.2 62 a1 := congrFun (hS133.2 62 (by decide)) _
                  have e277 : S78.2 62 a1 = ((S66.2 62 ((a1)) + 1)) := by have q := hS78v a1; omega
                  have e278 : S66.2 62 a1 = S54h.2 62 a1 := congrFun (hS66.2 62 (by decide)) _
                  have e279 := i54_4 x
                  by_cases hx : x = S54h.2 62 a1
                  · subst hx; omega
                  · omega), (by
                  intro x
                  have e280 : S133.2 63 x = S78.2 63 x := congrFun (hS133.2 63 (by decide)) _
                  have e281 : S78.2 63 x = S66.2 63 x := congrFun (hS78.2 63 (by decide)) _
                  have e282 := n66_2 x
                  have e283 := i54_5 x
                  have e284 := c6 x
                  omega), (by
                  intro x
                  have e285 : S133.2 62 x = S78.2 62 x := congrFun (hS133.2 62 (by decide)) _
                  have e286 := hS78v x
                  have e287 : S66.2 62 x = S54h.2 62 x := congrFun (hS66.2 62 (by decide)) _
                  have e288 := i54_6 x
                  have e289 := c7 x
                  omega), by omega⟩, show (5 - (S133.2 62) a1).toNat < (5 - (S54h.2 62) a1).toNat by omega⟩
        · unfold wX11_oneClass_114
          refine ⟨by omega, ?_⟩
          refine ⟨fun h117 => ?_, fun h117 => ?_⟩
          · intro q290
            have e291 : S78.1 54 22 = S66.1 54 22 := hS78.1 22 (by decide)
            unfold wX11_oneClass_133
            refine ⟨by omega, ?_⟩
            intro S133 hS133e
            have hS133 : Ch [22] [] S78 S133 := Ch_I hS133e
            have hS133v : S133.1 54 22 = S78.1 54 22 := pI_at hS133e
            have e292 : S133.2 62 a1 = S78.2 62 a1 := congrFun (hS133.2 62 (by decide)) _
            have e293 : S78.2 62 a1 = ((S66.2 62 ((a1)) + 1)) := by have q := hS78v a1; omega
            have e294 : S66.2 62 a1 = S54h.2 62 a1 := congrFun (hS66.2 62 (by decide)) _
            have e295 : S133.1 54 23 = S78.1 54 23 := hS133.1 23 (by decide)
            have e296 : S78.1 54 23 = S66.1 54 23 := hS78.1 23 (by decide)
            have e297 : S133.2 63 a1 = S78.2 63 a1 := congrFun (hS133.2 63 (by decide)) _
            have e298 : S78.2 63 a1 = S66.2 63 a1 := congrFun (hS78.2 63 (by decide)) _
            first | have e299 : S66.2 63 a1 = S54h.2 63 a1 := by have q := n66_2 a1; omega | have e299 := n66_2 a1
            have e300 : S133.1 54 23 = S78.1 54 23 := hS133.1 23 (by decide)
            have e301 : S78.1 54 23 = S66.1 54 23 := hS78.1 23 (by decide)
            have e302 : S133.2 62 a1 = S78.2 62 a1 := congrFun (hS133.2 62 (by decide)) _
            have e303 : S78.2 62 a1 = ((S66.2 62 ((a1)) + 1)) := by have q := hS78v a1; omega
            have e304 : S66.2 62 a1 = S54h.2 62 a1 := congrFun (hS66.2 62 (by decide)) _
            have e305 : S133.1 54 23 = S78.1 54 23 := hS133.1 23 (by decide)
            have e306 : S78.1 54 23 = S66.1 54 23 := hS78.1 23 (by decide)
            have e307 : S133.2 62 a1 = S78.2 62 a1 := congrFun (hS133.2 62 (by decide)) _
            have e308 : S78.2 62 a1 = ((S66.2 62 ((a1)) + 1)) := by have q := hS78v a1; omega
            have e309 : S66.2 62 a1 = S54h.2 62 a1 := congrFun (hS66.2 62 (by decide)) _
            exact ⟨⟨(Ch.wk (Ch.tr (Ch.tr (Ch.tr hS54h hS66) hS78) hS133) (by decide) (by decide)), rfl, by omega, by omega, by omega, by omega, (by
                  intro x
                  have e310 : S133.2 63 (6 + (4 * a1 + x)) = S78.2 63 (6 + (4 * a1 + x)) := congrFun (hS133.2 63 (by decide)) _
                  have e311 : S78.2 63 (6 + (4 * a1 + x)) = S66.2 63 (6 + (4 * a1 + x)) := congrFun (hS78.2 63 (by decide)) _
                  have e312 := n66_2 (6 + (4 * a1 + x))
                  have e313 := i54_5 (6 + (4 * a1 + x))
                  have e314 := c6 (6 + (4 * a1 + x))
                  have e315 : S133.2 62 a1 = S78.2 62 a1 := congrFun (hS133.2 62 (by decide)) _
                  have e316 : S78.2 62 a1 = ((S66.2 62 ((a1)) + 1)) := by have q := hS78v a1; omega
                  have e317 : S66.2 62 a1 = S54h.2 62 a1 := congrFun (hS66.2 62 (by decide)) _
                  have e318 := i54_4 x
                  by_cases hx : x = S54h.2 62 a1
                  · subst hx; omega
                  · omega), (by
                  intro x
                  have e319 : S133.2 63 x = S78.2 63 x := congrFun (hS133.2 63 (by decide)) _
                  have e320 : S78.2 63 x = S66.2 63 x := congrFun (hS78.2 63 (by decide)) _
                  have e321 := n66_2 x
                  have e322 := i54_5 x
                  have e323 := c6 x
                  omega), (by
                  intro x
                  have e324 : S133.2 62 x = S78.2 62 x := congrFun (hS133.2 62 (by decide)) _
                  have e325 := hS78v x
                  have e326 : S66.2 62 x = S54h.2 62 x := congrFun (hS66.2 62 (by decide)) _
                  have e327 := i54_6 x
                  have e328 := c7 x
                  omega), by omega⟩, show (5 - (S133.2 62) a1).toNat < (5 - (S54h.2 62) a1).toNat by omega⟩
          · intro q329
            have e330 : S78.1 54 22 = S66.1 54 22 := hS78.1 22 (by decide)
            unfold wX11_oneClass_133
            refine ⟨by omega, ?_⟩
            intro S133 hS133e
            have hS133 : Ch [22] [] S78 S133 := Ch_I hS133e
            have hS133v : S133.1 54 22 = (S78.1 54 22 + 1) := pI_at hS133e
            have e331 : S133.2 62 a1 = S78.2 62 a1 := congrFun (hS133.2 62 (by decide)) _
            have e332 : S78.2 62 a1 = ((S66.2 62 ((a1)) + 1)) := by have q := hS78v a1; omega
            have e333 : S66.2 62 a1 = S54h.2 62 a1 := congrFun (hS66.2 62 (by decide)) _
            have e334 : S133.1 54 23 = S78.1 54 23 := hS133.1 23 (by decide)
            have e335 : S78.1 54 23 = S66.1 54 23 := hS78.1 23 (by decide)
            have e336 : S133.2 63 a1 = S78.2 63 a1 := congrFun (hS133.2 63 (by decide)) _
            have e337 : S78.2 63 a1 = S66.2 63 a1 := congrFun (hS78.2 63 (by decide)) _
            first | have e338 : S66.2 63 a1 = S54h.2 63 a1 := by have q := n66_2 a1; omega | have e338 := n66_2 a1
            have e339 : S133.1 54 23 = S78.1 54 23 := hS133.1 23 (by decide)
            have e340 : S78.1 54 23 = S66.1 54 23 := hS78.1 23 (by decide)
            have e341 : S133.2 62 a1 = S78.2 62 a1 := congrFun (hS133.2 62 (by decide)) _
            have e342 : S78.2 62 a1 = ((S66.2 62 ((a1)) + 1)) := by have q := hS78v a1; omega
            have e343 : S66.2 62 a1 = S54h.2 62 a1 := congrFun (hS66.2 62 (by decide)) _
            have e344 : S133.1 54 23 = S78.1 54 23 := hS133.1 23 (by decide)
            have e345 : S78.1 54 23 = S66.1 54 23 := hS78.1 23 (by decide)
            have e346 : S133.2 62 a1 = S78.2 62 a1 := congrFun (hS133.2 62 (by decide)) _
            have e347 : S78.2 62 a1 = ((S66.2 62 ((a1)) + 1)) := by have q := hS78v a1; omega
            have e348 : S66.2 62 a1 = S54h.2 62 a1 := congrFun (hS66.2 62 (by decide)) _
            exact ⟨⟨(Ch.wk (Ch.tr (Ch.tr (Ch.tr hS54h hS66) hS78) hS133) (by decide) (by decide)), rfl, by omega, by omega, by omega, by omega, (by
                  intro x
                  have e349 : S133.2 63 (6 + (4 * a1 + x)) = S78.2 63 (6 + (4 * a1 + x)) := congrFun (hS133.2 63 (by decide)) _
                  have e350 : S78.2 63 (6 + (4 * a1 + x)) = S66.2 63 (6 + (4 * a1 + x)) := congrFun (hS78.2 63 (by decide)) _
                  have e351 := n66_2 (6 + (4 * a1 + x))
                  have e352 := i54_5 (6 + (4 * a1 + x))
                  have e353 := c6 (6 + (4 * a1 + x))
                  have e354 : S133.2 62 a1 = S78.2 62 a1 := congrFun (hS133.2 62 (by decide)) _
                  have e355 : S78.2 62 a1 = ((S66.2 62 ((a1)) + 1)) := by have q := hS78v a1; omega
                  have e356 : S66.2 62 a1 = S54h.2 62 a1 := congrFun (hS66.2 62 (by decide)) _
                  have e357 := i54_4 x
                  by_cases hx : x = S54h.2 62 a1
                  · subst hx; omega
                  · omega), (by
                  intro x
                  have e358 : S133.2 63 x = S78.2 63 x := congrFun (hS133.2 63 (by decide)) _
                  have e359 : S78.2 63 x = S66.2 63 x := congrFun (hS78.2 63 (by decide)) _
                  have e360 := n66_2 x
                  have e361 := i54_5 x
                  have e362 := c6 x
                  omega), (by
                  intro x
                  have e363 : S133.2 62 x = S78.2 62 x := congrFun (hS133.2 62 (by decide)) _
                  have e364 := hS78v x
                  have e365 : S66.2 62 x = S54h.2 62 x := congrFun (hS66.2 62 (by decide)) _
                  have e366 := i54_6 x
                  have e367 := c7 x
                  omega), by omega⟩, show (5 - (S133.2 62) a1).toNat < (5 - (S54h.2 62) a1).toNat by omega⟩
set_option maxRecDepth 100000 in
set_option maxHeartbeats 4000000 in
theorem tX11_oneClass {a1 : Int} {S : St} {K : Int → St → Prop} (p1 : iv 0 5 a1) (p2 : (S.1 54 22) ≤ (S.1 54 0)) (p3 : (S.1 54 23) = 0) (p4 : (S.1 54 0) ≤ 3000) (hK : ∀ (r : Int) (S' : St), Ch [22, 23, 24] [62, 63, 64, 65, 66] S S' → ((S'.1 54 22) ≤ (S.1 54 0)) → ((S'.1 54 23) = 1 ∨ 1 ≤ (S'.2 63) a1) → (∀ x, (S'.1 54 23) = 1 ∨ x < 0 ∨ (S'.2 62) a1 ≤ x ∨ 1 ≤ (S'.2 63) (6 + (4 * a1 + x))) → (∀ x, x = a1 ∨ (6 + 4 * a1 ≤ x ∧ x ≤ 9 + 4 * a1) ∨ (S'.2 63) x = (S.2 63) x) → (∀ x, x = a1 ∨ (S'.2 62) x = (S.2 62) x) → K r S') : wX11_oneClass a1 S K := by
  unfold wX11_oneClass
  intro g1
  refine tX11_name (by omega) (by omega) (by omega) (by omega) (fun r4 S4 hS4 n4_0 n4_1 n4_2 n4_3 => ?_)
  refine ⟨by omega, by omega, ?_⟩
  intro S13 hS13e
  have hS13 : Ch [] [62] S4 S13 := Ch_A hS13e
  have hS13v : ∀ x, (x = a1 ∧ S13.2 62 x = 0) ∨ (¬ x = a1 ∧ S13.2 62 x = S4.2 62 x) := pA_at hS13e
  intro q1
  have e2 : S13.1 54 23 = S4.1 54 23 := hS13.1 23 (by decide)
  refine ⟨fun h18 => ?_, fun h18 => ?_⟩
  · have e3 : S13.1 54 22 = S4.1 54 22 := hS13.1 22 (by decide)
    have e4 : S13.1 54 0 = S4.1 54 0 := hS13.1 0 (by decide)
    have e5 : S4.1 54 0 = S.1 54 0 := hS4.1 0 (by decide)
    have e6 : S13.1 54 0 = S4.1 54 0 := hS13.1 0 (by decide)
    have e7 : S4.1 54 0 = S.1 54 0 := hS4.1 0 (by decide)
    have e8 : S13.1 54 23 = S4.1 54 23 := hS13.1 23 (by decide)
    refine tX11_eat (by omega) (by omega) (fun r25 S25 hS25 n25_0 n25_1 => ?_)
    intro q9
    refine ⟨fun h32 => ?_, fun h32 => ?_⟩
    · unfold wX11_oneClass_52
      unfold wX11_oneClass_53
      have e10 : S25.2 62 a1 = S13.2 62 a1 := congrFun (hS25.2 62 (by decide)) _
      have e11 : S13.2 62 a1 = (0) := by have q := hS13v a1; omega
      have e12 : S4.2 62 a1 = S.2 62 a1 := congrFun (hS4.2 62 (by decide)) _
      have e13 : S25.2 63 a1 = S13.2 63 a1 := congrFun (hS25.2 63 (by decide)) _
      have e14 : S13.2 63 a1 = S4.2 63 a1 := congrFun (hS13.2 63 (by decide)) _
      exact tX11_oneClass_54 g1 p1 p2 p3 p4 (Ch.wk (Ch.tr (Ch.tr hS4 hS13) hS25) (by decide) (by decide)) (by omega) (by omega) (by omega) (by omega) (by omega) (by
            intro x
            have e15 : S25.2 63 x = S13.2 63 x := congrFun (hS25.2 63 (by decide)) _
            have e16 : S13.2 63 x = S4.2 63 x := congrFun (hS13.2 63 (by decide)) _
            have e17 := n4_2 x
            omega) (by
            intro x
            have e18 : S25.2 62 x = S13.2 62 x := congrFun (hS25.2 62 (by decide)) _
            have e19 := hS13v x
            have e20 : S4.2 62 x = S.2 62 x := congrFun (hS4.2 62 (by decide)) _
            omega) (by omega) hK
    · intro q21
      have e22 : S25.1 54 0 = S13.1 54 0 := hS25.1 0 (by decide)
      have e23 : S13.1 54 0 = S4.1 54 0 := hS13.1 0 (by decide)
      have e24 : S4.1 54 0 = S.1 54 0 := hS4.1 0 (by decide)
      have e25 : S25.2 55 (S25.1 54 22) = S13.2 55 (S25.1 54 22) := congrFun (hS25.2 55 (by decide)) _
      have e26 : S13.2 55 (S25.1 54 22) = S4.2 55 (S25.1 54 22) := congrFun (hS13.2 55 (by decide)) _
      have e27 : S4.2 55 (S25.1 54 22) = S.2 55 (S25.1 54 22) := congrFun (hS4.2 55 (by decide)) _
      have e28 : S25.1 54 0 = S13.1 54 0 := hS25.1 0 (by decide)
      have e29 : S13.1 54 0 = S4.1 54 0 := hS13.1 0 (by decide)
      have e30 : S4.1 54 0 = S.1 54 0 := hS4.1 0 (by decide)
      refine tX11_signAt (by omega) (fun r40 n40_0 n40_1 n40_2 => ?_)
      refine ⟨by omega, ?_⟩
      refine ⟨fun h45 => ?_, fun h45 => ?_⟩
      · unfold wX11_oneClass_52
        unfold wX11_oneClass_53
        have e31 : S25.2 62 a1 = S13.2 62 a1 := congrFun (hS25.2 62 (by decide)) _
        have e32 : S13.2 62 a1 = (0) := by have q := hS13v a1; omega
        have e33 : S4.2 62 a1 = S.2 62 a1 := congrFun (hS4.2 62 (by decide)) _
        have e34 : S25.2 63 a1 = S13.2 63 a1 := congrFun (hS25.2 63 (by decide)) _
        have e35 : S13.2 63 a1 = S4.2 63 a1 := congrFun (hS13.2 63 (by decide)) _
        exact tX11_oneClass_54 g1 p1 p2 p3 p4 (Ch.wk (Ch.tr (Ch.tr hS4 hS13) hS25) (by decide) (by decide)) (by omega) (by omega) (by omega) (by omega) (by omega) (by
              intro x
              have e36 : S25.2 63 x = S13.2 63 x := congrFun (hS25.2 63 (by decide)) _
              have e37 : S13.2 63 x = S4.2 63 x := congrFun (hS13.2 63 (by decide)) _
              have e38 := n4_2 x
              omega) (by
              intro x
              have e39 : S25.2 62 x = S13.2 62 x := congrFun (hS25.2 62 (by decide)) _
              have e40 := hS13v x
              have e41 : S4.2 62 x = S.2 62 x := congrFun (hS4.2 62 (by decide)) _
              omega) (by omega) hK
      · unfold wX11_oneClass_53
        have e42 : S25.2 62 a1 = S13.2 62 a1 := congrFun (hS25.2 62 (by decide)) _
        have e43 : S13.2 62 a1 = (0) := by have q := hS13v a1; omega
        have e44 : S4.2 62 a1 = S.2 62 a1 := congrFun (hS4.2 62 (by decide)) _
        have e45 : S25.2 63 a1 = S13.2 63 a1 := congrFun (hS25.2 63 (by decide)) _
        have e46 : S13.2 63 a1 = S4.2 63 a1 := congrFun (hS13.2 63 (by decide)) _
        exact tX11_oneClass_54 g1 p1 p2 p3 p4 (Ch.wk (Ch.tr (Ch.tr hS4 hS13) hS25) (by decide) (by decide)) (by omega) (by omega) (by omega) (by omega) (by omega) (by
              intro x
              have e47 : S25.2 63 x = S13.2 63 x := congrFun (hS25.2 63 (by decide)) _
              have e48 : S13.2 63 x = S4.2 63 x := congrFun (hS13.2 63 (by decide)) _
              have e49 := n4_2 x
              omega) (by
              intro x
              have e50 : S25.2 62 x = S13.2 62 x := congrFun (hS25.2 62 (by decide)) _
              have e51 := hS13v x
              have e52 : S4.2 62 x = S.2 62 x := congrFun (hS4.2 62 (by decide)) _
              omega) (by omega) hK
  · have e53 : S13.1 54 22 = S4.1 54 22 := hS13.1 22 (by decide)
    have e54 : S13.1 54 23 = S4.1 54 23 := hS13.1 23 (by decide)
    have e55 : S13.2 63 a1 = S4.2 63 a1 := congrFun (hS13.2 63 (by decide)) _
    have e56 : S13.1 54 23 = S4.1 54 23 := hS13.1 23 (by decide)
    have e57 : S13.2 62 a1 = (0) := by have q := hS13v a1; omega
    have e58 : S4.2 62 a1 = S.2 62 a1 := congrFun (hS4.2 62 (by decide)) _
    exact hK (0) S13 (Ch.wk (Ch.tr hS4 hS13) (by decide) (by decide)) (by omega) (by omega) (by
          intro x
          have e59 : S13.2 63 (6 + (4 * a1 + x)) = S4.2 63 (6 + (4 * a1 + x)) := congrFun (hS13.2 63 (by decide)) _
          have e60 := n4_2 (6 + (4 * a1 + x))
          have e61 : S13.2 62 a1 = (0) := by have q := hS13v a1; omega
          have e62 : S4.2 62 a1 = S.2 62 a1 := congrFun (hS4.2 62 (by decide)) _
          omega) (by
          intro x
          have e63 : S13.2 63 x = S4.2 63 x := congrFun (hS13.2 63 (by decide)) _
          have e64 := n4_2 x
          omega) (by
          intro x
          have e65 := hS13v x
          have e66 : S4.2 62 x = S.2 62 x := congrFun (hS4.2 62 (by decide)) _
          omega)
