set_option maxRecDepth 100000 in
set_option maxHeartbeats 4000000 in
theorem tX11_oneClass_54 {a1 l1 l2 : Int} {S S1c : St} {K : Int → St → Prop} (g1 : rng a1) (p1 : iv 0 5 a1) (p2 : (S.1 54 22) ≤ (S.1 54 0)) (p3 : (S.1 54 23) = 0) (p4 : (S.1 54 0) ≤ 3000) (hS1c : Ch [22, 23, 24] [62, 63, 64, 65, 66] S S1c) (c1 : a1 = l1) (c2 : iv 0 1 l2) (c3 : (S1c.1 54 22) ≤ (S.1 54 0)) (c4 : (S1c.2 62) a1 = 0) (c5 : (S1c.1 54 23) = 1 ∨ 1 ≤ (S1c.2 63) a1) (c6 : ∀ x, x = a1 ∨ (S1c.2 63) x = (S.2 63) x) (c7 : ∀ x, x = a1 ∨ (S1c.2 62) x = (S.2 62) x) (c8 : l2 = 0 ∨ (S1c.1 54 23) = 0) (hK : ∀ (r : Int) (S' : St), Ch [22, 23, 24] [62, 63, 64, 65, 66] S S' → ((S'.1 54 22) ≤ (S.1 54 0)) → ((S'.1 54 23) = 1 ∨ 1 ≤ (S'.2 63) a1) → (∀ x, (S'.1 54 23) = 1 ∨ x < 0 ∨ (S'.2 62) a1 ≤ x ∨ 1 ≤ (S'.2 63) (6 + (4 * a1 + x))) → (∀ x, x = a1 ∨ (6 + 4 * a1 ≤ x ∧ x ≤ 9 + 4 * a1) ∨ (S'.2 63) x = (S.2 63) x) → (∀ x, x = a1 ∨ (S'.2 62) x = (S.2 62) x) → K r S') : wX11_oneClass_54 l1 l2 S1c K := by
  subst c1
  unfold wX11_oneClass_54
  first | have e1 : S1c.2 62 a1 = S.2 62 a1 := by have q := c7 a1; omega | have e1 := c7 a1
  first | have e2 : S1c.2 63 a1 = S.2 63 a1 := by have q := c6 a1; omega | have e2 := c6 a1
  first | have e3 : S1c.2 62 a1 = S.2 62 a1 := by have q := c7 a1; omega | have e3 := c7 a1
  refine ⟨fun u1 u2 Sx => Ch [22, 23, 24] [62, 63, 64, 65, 66] S1c Sx ∧ (a1) = u1 ∧ (iv 0 1 u2) ∧ ((Sx.1 54 22) ≤ (S.1 54 0)) ∧ (u2 = 0 ∨ (Sx.2 62) a1 ≤ 3) ∧ ((Sx.1 54 23) = 1 ∨ 1 ≤ (Sx.2 63) a1) ∧ (∀ x, (Sx.1 54 23) = 1 ∨ x < 0 ∨ (Sx.2 62) a1 ≤ x ∨ 1 ≤ (Sx.2 63) (6 + (4 * a1 + x))) ∧ (∀ x, x = a1 ∨ (6 + 4 * a1 ≤ x ∧ x ≤ 9 + 4 * a1) ∨ (Sx.2 63) x = (S1c.2 63) x) ∧ (∀ x, x = a1 ∨ (Sx.2 62) x = (S1c.2 62) x) ∧ (u2 = 0 ∨ (Sx.1 54 23) = 0), fun u1 u2 Sx => (5 - (Sx.2 62) a1).toNat, ?_, fun v54_1 v54_2 S54h hI => ?_⟩
  · exact ⟨Ch.re, rfl, by omega, by omega, by omega, by omega, (by
        intro x
        first | have e4 : S1c.2 62 a1 = S.2 62 a1 := by have q := c7 a1; omega | have e4 := c7 a1
        omega), (by
        intro x
        have e5 := c6 x
        omega), (by
        intro x
        have e6 := c7 x
        omega), by omega⟩
  obtain ⟨hS54h, rfl, i54_0, i54_1, i54_2, i54_3, i54_4, i54_5, i54_6, i54_7⟩ := hI
  unfold wX11_oneClass_54'
  refine ⟨by omega, ?_⟩
  refine ⟨fun h55 => ?_, fun h55 => ?_⟩
  · intro q7
    refine ⟨fun h143 => ?_, fun h143 => ?_⟩
    · first | have e8 : S54h.2 63 a1 = S1c.2 63 a1 := by have q := i54_5 a1; omega | have e8 := i54_5 a1
      first | have e9 : S1c.2 63 a1 = S.2 63 a1 := by have q := c6 a1; omega | have e9 := c6 a1
      first | have e10 : S54h.2 62 a1 = S1c.2 62 a1 := by have q := i54_6 a1; omega | have e10 := i54_6 a1
      first | have e11 : S1c.2 62 a1 = S.2 62 a1 := by have q := c7 a1; omega | have e11 := c7 a1
      exact hK (0) S54h (Ch.wk (Ch.tr hS1c hS54h) (by decide) (by decide)) (by omega) (by omega) (by
            intro x
            have e12 := i54_5 (6 + (4 * a1 + x))
            have e13 := c6 (6 + (4 * a1 + x))
            first | have e14 : S54h.2 62 a1 = S1c.2 62 a1 := by have q := i54_6 a1; omega | have e14 := i54_6 a1
            first | have e15 : S1c.2 62 a1 = S.2 62 a1 := by have q := c7 a1; omega | have e15 := c7 a1
            have e16 := i54_4 x
            omega) (by
            intro x
            have e17 := i54_5 x
            have e18 := c6 x
            omega) (by
            intro x
            have e19 := i54_6 x
            have e20 := c7 x
            omega)
    · have e21 : S54h.1 54 0 = S1c.1 54 0 := hS54h.1 0 (by decide)
      have e22 : S1c.1 54 0 = S.1 54 0 := hS1c.1 0 (by decide)
      have e23 : S54h.1 54 0 = S1c.1 54 0 := hS54h.1 0 (by decide)
      have e24 : S1c.1 54 0 = S.1 54 0 := hS1c.1 0 (by decide)
      refine tX11_eat (by omega) (by omega) (fun r149 S149 hS149 n149_0 n149_1 => ?_)
      have e25 : S149.2 63 a1 = S54h.2 63 a1 := congrFun (hS149.2 63 (by decide)) _
      first | have e26 : S54h.2 63 a1 = S1c.2 63 a1 := by have q := i54_5 a1; omega | have e26 := i54_5 a1
      first | have e27 : S1c.2 63 a1 = S.2 63 a1 := by have q := c6 a1; omega | have e27 := c6 a1
      have e28 : S149.2 62 a1 = S54h.2 62 a1 := congrFun (hS149.2 62 (by decide)) _
      first | have e29 : S54h.2 62 a1 = S1c.2 62 a1 := by have q := i54_6 a1; omega | have e29 := i54_6 a1
      first | have e30 : S1c.2 62 a1 = S.2 62 a1 := by have q := c7 a1; omega | have e30 := c7 a1
      exact hK (0) S149 (Ch.wk (Ch.tr (Ch.tr hS1c hS54h) hS149) (by decide) (by decide)) (by omega) (by omega) (by
            intro x
            have e31 : S149.2 63 (6 + (4 * a1 + x)) = S54h.2 63 (6 + (4 * a1 + x)) := congrFun (hS149.2 63 (by decide)) _
            have e32 := i54_5 (6 + (4 * a1 + x))
            have e33 := c6 (6 + (4 * a1 + x))
            have e34 : S149.2 62 a1 = S54h.2 62 a1 := congrFun (hS149.2 62 (by decide)) _
            first | have e35 : S54h.2 62 a1 = S1c.2 62 a1 := by have q := i54_6 a1; omega | have e35 := i54_6 a1
            first | have e36 : S1c.2 62 a1 = S.2 62 a1 := by have q := c7 a1; omega | have e36 := c7 a1
            have e37 := i54_4 x
            omega) (by
            intro x
            have e38 : S149.2 63 x = S54h.2 63 x := congrFun (hS149.2 63 (by decide)) _
            have e39 := i54_5 x
            have e40 := c6 x
            omega) (by
            intro x
            have e41 : S149.2 62 x = S54h.2 62 x := congrFun (hS149.2 62 (by decide)) _
            have e42 := i54_6 x
            have e43 := c7 x
            omega)
  · refine ⟨by omega, by omega, ?_⟩
    intro q44
    first | have e45 : S54h.2 62 ((a1)) = S1c.2 62 ((a1)) := by have q := i54_6 ((a1)); omega | have e45 := i54_6 ((a1))
    first | have e46 : S1c.2 62 ((a1)) = S.2 62 ((a1)) := by have q := c7 ((a1)); omega | have e46 := c7 ((a1))
    refine ⟨by omega, ?_⟩
    have e47 : S54h.1 54 0 = S1c.1 54 0 := hS54h.1 0 (by decide)
    have e48 : S1c.1 54 0 = S.1 54 0 := hS1c.1 0 (by decide)
    have e49 : S54h.1 54 0 = S1c.1 54 0 := hS54h.1 0 (by decide)
    have e50 : S1c.1 54 0 = S.1 54 0 := hS1c.1 0 (by decide)
    have e51 : S54h.1 54 0 = S1c.1 54 0 := hS54h.1 0 (by decide)
    have e52 : S1c.1 54 0 = S.1 54 0 := hS1c.1 0 (by decide)
    refine tX11_field (by omega) (by omega) (by omega) (by omega) (fun r66 S66 hS66 n66_0 n66_1 n66_2 n66_3 => ?_)
    refine ⟨by omega, by omega, ?_⟩
    intro q53
    have e54 : S66.2 62 ((a1)) = S54h.2 62 ((a1)) := congrFun (hS66.2 62 (by decide)) _
    first | have e55 : S54h.2 62 ((a1)) = S1c.2 62 ((a1)) := by have q := i54_6 ((a1)); omega | have e55 := i54_6 ((a1))
    first | have e56 : S1c.2 62 ((a1)) = S.2 62 ((a1)) := by have q := c7 ((a1)); omega | have e56 := c7 ((a1))
    refine ⟨by omega, by omega, ?_⟩
    refine ⟨by omega, ?_⟩
    intro S78 hS78e
    have hS78 : Ch [] [62] S66 S78 := Ch_A hS78e
    have hS78v : ∀ x, (x = (a1) ∧ S78.2 62 x = (S66.2 62 ((a1)) + 1)) ∨ (¬ x = (a1) ∧ S78.2 62 x = S66.2 62 x) := pA_at hS78e
    intro q57
    have e58 : S78.1 54 23 = S66.1 54 23 := hS78.1 23 (by decide)
    refine ⟨fun h83 => ?_, fun h83 => ?_⟩
    · unfold wX11_oneClass_113
      unfold wX11_oneClass_114
      refine ⟨by omega, ?_⟩
      refine ⟨fun h117 => ?_, fun h117 => ?_⟩
      · intro q59
        have e60 : S78.1 54 22 = S66.1 54 22 := hS78.1 22 (by decide)
        unfold wX11_oneClass_133
        refine ⟨by omega, ?_⟩
        intro S133 hS133e
        have hS133 : Ch [22] [] S78 S133 := Ch_I hS133e
        have hS133v : S133.1 54 22 = S78.1 54 22 := pI_at hS133e
        have e61 : S133.2 62 a1 = S78.2 62 a1 := congrFun (hS133.2 62 (by decide)) _
        have e62 : S78.2 62 a1 = ((S66.2 62 ((a1)) + 1)) := by have q := hS78v a1; omega
        have e63 : S66.2 62 a1 = S54h.2 62 a1 := congrFun (hS66.2 62 (by decide)) _
        first | have e64 : S54h.2 62 a1 = S1c.2 62 a1 := by have q := i54_6 a1; omega | have e64 := i54_6 a1
        first | have e65 : S1c.2 62 a1 = S.2 62 a1 := by have q := c7 a1; omega | have e65 := c7 a1
        have e66 : S133.1 54 23 = S78.1 54 23 := hS133.1 23 (by decide)
        have e67 : S78.1 54 23 = S66.1 54 23 := hS78.1 23 (by decide)
        have e68 : S133.2 63 a1 = S78.2 63 a1 := congrFun (hS133.2 63 (by decide)) _
        have e69 : S78.2 63 a1 = S66.2 63 a1 := congrFun (hS78.2 63 (by decide)) _
        first | have e70 : S66.2 63 a1 = S54h.2 63 a1 := by have q := n66_2 a1; omega | have e70 := n66_2 a1
        first | have e71 : S54h.2 63 a1 = S1c.2 63 a1 := by have q := i54_5 a1; omega | have e71 := i54_5 a1
        first | have e72 : S1c.2 63 a1 = S.2 63 a1 := by have q := c6 a1; omega | have e72 := c6 a1
        have e73 : S133.1 54 23 = S78.1 54 23 := hS133.1 23 (by decide)
        have e74 : S78.1 54 23 = S66.1 54 23 := hS78.1 23 (by decide)
        have e75 : S133.2 62 a1 = S78.2 62 a1 := congrFun (hS133.2 62 (by decide)) _
        have e76 : S78.2 62 a1 = ((S66.2 62 ((a1)) + 1)) := by have q := hS78v a1; omega
        have e77 : S66.2 62 a1 = S54h.2 62 a1 := congrFun (hS66.2 62 (by decide)) _
        first | have e78 : S54h.2 62 a1 = S1c.2 62 a1 := by have q := i54_6 a1; omega | have e78 := i54_6 a1
        first | have e79 : S1c.2 62 a1 = S.2 62 a1 := by have q := c7 a1; omega | have e79 := c7 a1
        have e80 : S133.1 54 23 = S78.1 54 23 := hS133.1 23 (by decide)
        have e81 : S78.1 54 23 = S66.1 54 23 := hS78.1 23 (by decide)
        have e82 : S133.2 62 a1 = S78.2 62 a1 := congrFun (hS133.2 62 (by decide)) _
        have e83 : S78.2 62 a1 = ((S66.2 62 ((a1)) + 1)) := by have q := hS78v a1; omega
        have e84 : S66.2 62 a1 = S54h.2 62 a1 := congrFun (hS66.2 62 (by decide)) _
        first | have e85 : S54h.2 62 a1 = S1c.2 62 a1 := by have q := i54_6 a1; omega | have e85 := i54_6 a1
        first | have e86 : S1c.2 62 a1 = S.2 62 a1 := by have q := c7 a1; omega | have e86 := c7 a1
        exact ⟨⟨(Ch.wk (Ch.tr (Ch.tr (Ch.tr hS54h hS66) hS78) hS133) (by decide) (by decide)), rfl, by omega, by omega, by omega, by omega, (by
              intro x
              have e87 : S133.2 63 (6 + (4 * a1 + x)) = S78.2 63 (6 + (4 * a1 + x)) := congrFun (hS133.2 63 (by decide)) _
              have e88 : S78.2 63 (6 + (4 * a1 + x)) = S66.2 63 (6 + (4 * a1 + x)) := congrFun (hS78.2 63 (by decide)) _
              have e89 := n66_2 (6 + (4 * a1 + x))
              have e90 := i54_5 (6 + (4 * a1 + x))
              have e91 := c6 (6 + (4 * a1 + x))
              have e92 : S133.2 62 a1 = S78.2 62 a1 := congrFun (hS133.2 62 (by decide)) _
              have e93 : S78.2 62 a1 = ((S66.2 62 ((a1)) + 1)) := by have q := hS78v a1; omega
              have e94 : S66.2 62 a1 = S54h.2 62 a1 := congrFun (hS66.2 62 (by decide)) _
              first | have e95 : S54h.2 62 a1 = S1c.2 62 a1 := by have q := i54_6 a1; omega | have e95 := i54_6 a1
              first | have e96 : S1c.2 62 a1 = S.2 62 a1 := by have q := c7 a1; omega | have e96 := c7 a1
              have e97 := i54_4 x
              omega), (by
              intro x
              have e98 : S133.2 63 x = S78.2 63 x := congrFun (hS133.2 63 (by decide)) _
              have e99 : S78.2 63 x = S66.2 63 x := congrFun (hS78.2 63 (by decide)) _
              have e100 := n66_2 x
              have e101 := i54_5 x
              have e102 := c6 x
              omega), (by
              intro x
              have e103 : S133.2 62 x = S78.2 62 x := congrFun (hS133.2 62 (by decide)) _
              have e104 := hS78v x
              have e105 : S66.2 62 x = S54h.2 62 x := congrFun (hS66.2 62 (by decide)) _
              have e106 := i54_6 x
              have e107 := c7 x
              omega), by omega⟩, show (5 - (S133.2 62) a1).toNat < (5 - (S54h.2 62) a1).toNat by omega⟩
      · intro q108
        have e109 : S78.1 54 22 = S66.1 54 22 := hS78.1 22 (by decide)
        unfold wX11_oneClass_133
        refine ⟨by omega, ?_⟩
        intro S133 hS133e
        have hS133 : Ch [22] [] S78 S133 := Ch_I hS133e
        have hS133v : S133.1 54 22 = (S78.1 54 22 + 1) := pI_at hS133e
        have e110 : S133.2 62 a1 = S78.2 62 a1 := congrFun (hS133.2 62 (by decide)) _
        have e111 : S78.2 62 a1 = ((S66.2 62 ((a1)) + 1)) := by have q := hS78v a1; omega
        have e112 : S66.2 62 a1 = S54h.2 62 a1 := congrFun (hS66.2 62 (by decide)) _
        first | have e113 : S54h.2 62 a1 = S1c.2 62 a1 := by have q := i54_6 a1; omega | have e113 := i54_6 a1
        first | have e114 : S1c.2 62 a1 = S.2 62 a1 := by have q := c7 a1; omega | have e114 := c7 a1
        have e115 : S133.1 54 23 = S78.1 54 23 := hS133.1 23 (by decide)
        have e116 : S78.1 54 23 = S66.1 54 23 := hS78.1 23 (by decide)
        have e117 : S133.2 63 a1 = S78.2 63 a1 := congrFun (hS133.2 63 (by decide)) _
        have e118 : S78.2 63 a1 = S66.2 63 a1 := congrFun (hS78.2 63 (by decide)) _
        first | have e119 : S66.2 63 a1 = S54h.2 63 a1 := by have q := n66_2 a1; omega | have e119 := n66_2 a1
        first | have e120 : S54h.2 63 a1 = S1c.2 63 a1 := by have q := i54_5 a1; omega | have e120 := i54_5 a1
        first | have e121 : S1c.2 63 a1 = S.2 63 a1 := by have q := c6 a1; omega | have e121 := c6 a1
        have e122 : S133.1 54 23 = S78.1 54 23 := hS133.1 23 (by decide)
        have e123 : S78.1 54 23 = S66.1 54 23 := hS78.1 23 (by decide)
        have e124 : S133.2 62 a1 = S78.2 62 a1 := congrFun (hS133.2 62 (by decide)) _
        have e125 : S78.2 62 a1 = ((S66.2 62 ((a1)) + 1)) := by have q := hS78v a1; omega
        have e126 : S66.2 62 a1 = S54h.2 62 a1 := congrFun (hS66.2 62 (by decide)) _
        first | have e127 : S54h.2 62 a1 = S1c.2 62 a1 := by have q := i54_6 a1; omega | have e127 := i54_6 a1
        first | have e128 : S1c.2 62 a1 = S.2 62 a1 := by have q := c7 a1; omega | have e128 := c7 a1
        have e129 : S133.1 54 23 = S78.1 54 23 := hS133.1 23 (by decide)
        have e130 : S78.1 54 23 = S66.1 54 23 := hS78.1 23 (by decide)
        have e131 : S133.2 62 a1 = S78.2 62 a1 := congrFun (hS133.2 62 (by decide)) _
        have e132 : S78.2 62 a1 = ((S66.2 62 ((a1)) + 1)) := by have q := hS78v a1; omega
        have e133 : S66.2 62 a1 = S54h.2 62 a1 := congrFun (hS66.2 62 (by decide)) _
        first | have e134 : S54h.2 62 a1 = S1c.2 62 a1 := by have q := i54_6 a1; omega | have e134 := i54_6 a1
        first | have e135 : S1c.2 62 a1 = S.2 62 a1 := by have q := c7 a1; omega | have e135 := c7 a1
        exact ⟨⟨(Ch.wk (Ch.tr (Ch.tr (Ch.tr hS54h hS66) hS78) hS133) (by decide) (by decide)), rfl, by omega, by omega, by omega, by omega, (by
              intro x
              have e136 : S133.2 63 (6 + (4 * a1 + x)) = S78.2 63 (6 + (4 * a1 + x)) := congrFun (hS133.2 63 (by decide)) _
              have e137 : S78.2 63 (6 + (4 * a1 + x)) = S66.2 63 (6 + (4 * a1 + x)) := congrFun (hS78.2 63 (by decide)) _
              have e138 := n66_2 (6 + (4 * a1 + x))
              have e139 := i54_5 (6 + (4 * a1 + x))
              have e140 := c6 (6 + (4 * a1 + x))
              have e141 : S133.2 62 a1 = S78.2 62 a1 := congrFun (hS133.2 62 (by decide)) _
              have e142 : S78.2 62 a1 = ((S66.2 62 ((a1)) + 1)) := by have q := hS78v a1; omega
              have e143 : S66.2 62 a1 = S54h.2 62 a1 := congrFun (hS66.2 62 (by decide)) _
              first | have e144 : S54h.2 62 a1 = S1c.2 62 a1 := by have q := i54_6 a1; omega | have e144 := i54_6 a1
              first | have e145 : S1c.2 62 a1 = S.2 62 a1 := by have q := c7 a1; omega | have e145 := c7 a1
              have e146 := i54_4 x
              omega), (by
              intro x
              have e147 : S133.2 63 x = S78.2 63 x := congrFun (hS133.2 63 (by decide)) _
              have e148 : S78.2 63 x = S66.2 63 x := congrFun (hS78.2 63 (by decide)) _
              have e149 := n66_2 x
              have e150 := i54_5 x
              have e151 := c6 x
              omega), (by
              intro x
              have e152 : S133.2 62 x = S78.2 62 x := congrFun (hS133.2 62 (by decide)) _
              have e153 := hS78v x
              have e154 : S66.2 62 x = S54h.2 62 x := congrFun (hS66.2 62 (by decide)) _
              have e155 := i54_6 x
              have e156 := c7 x
              omega), by omega⟩, show (5 - (S133.2 62) a1).toNat < (5 - (S54h.2 62) a1).toNat by omega⟩
    · refine ⟨by omega, by omega, ?_⟩
      intro q157
      have e158 : S78.2 62 ((a1)) = ((S66.2 62 ((a1)) + 1)) := by have q := hS78v ((a1)); omega
      have e159 : S66.2 62 ((a1)) = S54h.2 62 ((a1)) := congrFun (hS66.2 62 (by decide)) _
      first | have e160 : S54h.2 62 ((a1)) = S1c.2 62 ((a1)) := by have q := i54_6 ((a1)); omega | have e160 := i54_6 ((a1))
      first | have e161 : S1c.2 62 ((a1)) = S.2 62 ((a1)) := by have q := c7 ((a1)); omega | have e161 := c7 ((a1))
      refine ⟨fun h93 => ?_, fun h93 => ?_⟩
      · unfold wX11_oneClass_113
        unfold wX11_oneClass_114
        refine ⟨by omega, ?_⟩
        refine ⟨fun h117 => ?_, fun h117 => ?_⟩
        · intro q162
          have e163 : S78.1 54 22 = S66.1 54 22 := hS78.1 22 (by decide)
          unfold wX11_oneClass_133
          refine ⟨by omega, ?_⟩
          intro S133 hS133e
          have hS133 : Ch [22] [] S78 S133 := Ch_I hS133e
          have hS133v : S133.1 54 22 = S78.1 54 22 := pI_at hS133e
          have e164 : S133.2 62 a1 = S78.2 62 a1 := congrFun (hS133.2 62 (by decide)) _
          have e165 : S78.2 62 a1 = ((S66.2 62 ((a1)) + 1)) := by have q := hS78v a1; omega
          have e166 : S66.2 62 a1 = S54h.2 62 a1 := congrFun (hS66.2 62 (by decide)) _
          first | have e167 : S54h.2 62 a1 = S1c.2 62 a1 := by have q := i54_6 a1; omega | have e167 := i54_6 a1
          first | have e168 : S1c.2 62 a1 = S.2 62 a1 := by have q := c7 a1; omega | have e168 := c7 a1
          have e169 : S133.1 54 23 = S78.1 54 23 := hS133.1 23 (by decide)
          have e170 : S78.1 54 23 = S66.1 54 23 := hS78.1 23 (by decide)
          have e171 : S133.2 63 a1 = S78.2 63 a1 := congrFun (hS133.2 63 (by decide)) _
          have e172 : S78.2 63 a1 = S66.2 63 a1 := congrFun (hS78.2 63 (by decide)) _
          first | have e173 : S66.2 63 a1 = S54h.2 63 a1 := by have q := n66_2 a1; omega | have e173 := n66_2 a1
          first | have e174 : S54h.2 63 a1 = S1c.2 63 a1 := by have q := i54_5 a1; omega | have e174 := i54_5 a1
          first | have e175 : S1c.2 63 a1 = S.2 63 a1 := by have q := c6 a1; omega | have e175 := c6 a1
          have e176 : S133.1 54 23 = S78.1 54 23 := hS133.1 23 (by decide)
          have e177 : S78.1 54 23 = S66.1 54 23 := hS78.1 23 (by decide)
          have e178 : S133.2 62 a1 = S78.2 62 a1 := congrFun (hS133.2 62 (by decide)) _
          have e179 : S78.2 62 a1 = ((S66.2 62 ((a1)) + 1)) := by have q := hS78v a1; omega
          have e180 : S66.2 62 a1 = S54h.2 62 a1 := congrFun (hS66.2 62 (by decide)) _
          first | have e181 : S54h.2 62 a1 = S1c.2 62 a1 := by have q := i54_6 a1; omega | have e181 := i54_6 a1
          first | have e182 : S1c.2 62 a1 = S.2 62 a1 := by have q := c7 a1; omega | have e182 := c7 a1
          have e183 : S133.1 54 23 = S78.1 54 23 := hS133.1 23 (by decide)
          have e184 : S78.1 54 23 = S66.1 54 23 := hS78.1 23 (by decide)
          have e185 : S133.2 62 a1 = S78.2 62 a1 := congrFun (hS133.2 62 (by decide)) _
          have e186 : S78.2 62 a1 = ((S66.2 62 ((a1)) + 1)) := by have q := hS78v a1; omega
          have e187 : S66.2 62 a1 = S54h.2 62 a1 := congrFun (hS66.2 62 (by decide)) _
          first | have e188 : S54h.2 62 a1 = S1c.2 62 a1 := by have q := i54_6 a1; omega | have e188 := i54_6 a1
          first | have e189 : S1c.2 62 a1 = S.2 62 a1 := by have q := c7 a1; omega | have e189 := c7 a1
          exact ⟨⟨(Ch.wk (Ch.tr (Ch.tr (Ch.tr hS54h hS66) hS78) hS133) (by decide) (by decide)), rfl, by omega, by omega, by omega, by omega, (by
                intro x
                have e190 : S133.2 63 (6 + (4 * a1 + x)) = S78.2 63 (6 + (4 * a1 + x)) := congrFun (hS133.2 63 (by decide)) _
                have e191 : S78.2 63 (6 + (4 * a1 + x)) = S66.2 63 (6 + (4 * a1 + x)) := congrFun (hS78.2 63 (by decide)) _
                have e192 := n66_2 (6 + (4 * a1 + x))
                have e193 := i54_5 (6 + (4 * a1 + x))
                have e194 := c6 (6 + (4 * a1 + x))
                have e195 : S133.2 62 a1 = S78.2 62 a1 := congrFun (hS133.2 62 (by decide)) _
                have e196 : S78.2 62 a1 = ((S66.2 62 ((a1)) + 1)) := by have q := hS78v a1; omega
                have e197 : S66.2 62 a1 = S54h.2 62 a1 := congrFun (hS66.2 62 (by decide)) _
                first | have e198 : S54h.2 62 a1 = S1c.2 62 a1 := by have q := i54_6 a1; omega | have e198 := i54_6 a1
                first | have e199 : S1c.2 62 a1 = S.2 62 a1 := by have q := c7 a1; omega | have e199 := c7 a1
                have e200 := i54_4 x
                omega), (by
                intro x
                have e201 : S133.2 63 x = S78.2 63 x := congrFun (hS133.2 63 (by decide)) _
                have e202 : S78.2 63 x = S66.2 63 x := congrFun (hS78.2 63 (by decide)) _
                have e203 := n66_2 x
                have e204 := i54_5 x
                have e205 := c6 x
                omega), (by
                intro x
                have e206 : S133.2 62 x = S78.2 62 x := congrFun (hS133.2 62 (by decide)) _
                have e207 := hS78v x
                have e208 : S66.2 62 x = S54h.2 62 x := congrFun (hS66.2 62 (by decide)) _
                have e209 := i54_6 x
                have e210 := c7 x
                omega), by omega⟩, show (5 - (S133.2 62) a1).toNat < (5 - (S54h.2 62) a1).toNat by omega⟩
        · intro q211
          have e212 : S78.1 54 22 = S66.1 54 22 := hS78.1 22 (by decide)
          unfold wX11_oneClass_133
          refine ⟨by omega, ?_⟩
          intro S133 hS133e
          have hS133 : Ch [22] [] S78 S133 := Ch_I hS133e
          have hS133v : S133.1 54 22 = (S78.1 54 22 + 1) := pI_at hS133e
          have e213 : S133.2 62 a1 = S78.2 62 a1 := congrFun (hS133.2 62 (by decide)) _
          have e214 : S78.2 62 a1 = ((S66.2 62 ((a1)) + 1)) := by have q := hS78v a1; omega
          have e215 : S66.2 62 a1 = S54h.2 62 a1 := congrFun (hS66.2 62 (by decide)) _
          first | have e216 : S54h.2 62 a1 = S1c.2 62 a1 := by have q := i54_6 a1; omega | have e216 := i54_6 a1
          first | have e217 : S1c.2 62 a1 = S.2 62 a1 := by have q := c7 a1; omega | have e217 := c7 a1
          have e218 : S133.1 54 23 = S78.1 54 23 := hS133.1 23 (by decide)
          have e219 : S78.1 54 23 = S66.1 54 23 := hS78.1 23 (by decide)
          have e220 : S133.2 63 a1 = S78.2 63 a1 := congrFun (hS133.2 63 (by decide)) _
          have e221 : S78.2 63 a1 = S66.2 63 a1 := congrFun (hS78.2 63 (by decide)) _
          first | have e222 : S66.2 63 a1 = S54h.2 63 a1 := by have q := n66_2 a1; omega | have e222 := n66_2 a1
          first | have e223 : S54h.2 63 a1 = S1c.2 63 a1 := by have q := i54_5 a1; omega | have e223 := i54_5 a1
          first | have e224 : S1c.2 63 a1 = S.2 63 a1 := by have q := c6 a1; omega | have e224 := c6 a1
          have e225 : S133.1 54 23 = S78.1 54 23 := hS133.1 23 (by decide)
          have e226 : S78.1 54 23 = S66.1 54 23 := hS78.1 23 (by decide)
          have e227 : S133.2 62 a1 = S78.2 62 a1 := congrFun (hS133.2 62 (by decide)) _
          have e228 : S78.2 62 a1 = ((S66.2 62 ((a1)) + 1)) := by have q := hS78v a1; omega
          have e229 : S66.2 62 a1 = S54h.2 62 a1 := congrFun (hS66.2 62 (by decide)) _
          first | have e230 : S54h.2 62 a1 = S1c.2 62 a1 := by have q := i54_6 a1; omega | have e230 := i54_6 a1
          first | have e231 : S1c.2 62 a1 = S.2 62 a1 := by have q := c7 a1; omega | have e231 := c7 a1
          have e232 : S133.1 54 23 = S78.1 54 23 := hS133.1 23 (by decide)
          have e233 : S78.1 54 23 = S66.1 54 23 := hS78.1 23 (by decide)
          have e234 : S133.2 62 a1 = S78.2 62 a1 := congrFun (hS133.2 62 (by decide)) _
          have e235 : S78.2 62 a1 = ((S66.2 62 ((a1)) + 1)) := by have q := hS78v a1; omega
          have e236 : S66.2 62 a1 = S54h.2 62 a1 := congrFun (hS66.2 62 (by decide)) _
          first | have e237 : S54h.2 62 a1 = S1c.2 62 a1 := by have q := i54_6 a1; omega | have e237 := i54_6 a1
          first | have e238 : S1c.2 62 a1 = S.2 62 a1 := by have q := c7 a1; omega | have e238 := c7 a1
          exact ⟨⟨(Ch.wk (Ch.tr (Ch.tr (Ch.tr hS54h hS66) hS78) hS133) (by decide) (by decide)), rfl, by omega, by omega, by omega, by omega, (by
                intro x
                have e239 : S133.2 63 (6 + (4 * a1 + x)) = S78.2 63 (6 + (4 * a1 + x)) := congrFun (hS133.2 63 (by decide)) _
                have e240 : S78.2 63 (6 + (4 * a1 + x)) = S66.2 63 (6 + (4 * a1 + x)) := congrFun (hS78.2 63 (by decide)) _
                have e241 := n66_2 (6 + (4 * a1 + x))
                have e242 := i54_5 (6 + (4 * a1 + x))
                have e243 := c6 (6 + (4 * a1 + x))
                have e244 : S133.2 62 a1 = S78.2 62 a1 := congrFun (hS133.2 62 (by decide)) _
                have e245 : S78.2 62 a1 = ((S66.2 62 ((a1)) + 1)) := by have q := hS78v a1; omega
                have e246 : S66.2 62 a1 = S54h.2 62 a1 := congrFun (hS66.2 62 (by decide)) _
                first | have e247 : S54h.2 62 a1 = S1c.2 62 a1 := by have q := i54_6 a1; omega | have e247 := i54_6 a1
                first | have e248 : S1c.2 62 a1 = S.2 62 a1 := by have q := c7 a1; omega | have e248 := c7 a1
                have e249 := i54_4 x
                omega), (by
                intro x
                have e250 : S133.2 63 x = S78.2 63 x := congrFun (hS133.2 63 (by decide)) _
                have e251 : S78.2 63 x = S66.2 63 x := congrFun (hS78.2 63 (by decide)) _
                have e252 := n66_2 x
                have e253 := i54_5 x
                have e254 := c6 x
                omega), (by
                intro x
                have e255 : S133.2 62 x = S78.2 62 x := congrFun (hS133.2 62 (by decide)) _
                have e256 := hS78v x
                have e257 : S66.2 62 x = S54h.2 62 x := congrFun (hS66.2 62 (by decide)) _
                have e258 := i54_6 x
                have e259 := c7 x
                omega), by omega⟩, show (5 - (S133.2 62) a1).toNat < (5 - (S54h.2 62) a1).toNat by omega⟩
      · intro q260
        have e261 : S78.1 54 22 = S66.1 54 22 := hS78.1 22 (by decide)
        have e262 : S78.1 54 0 = S66.1 54 0 := hS78.1 0 (by decide)
        have e263 : S66.1 54 0 = S54h.1 54 0 := hS66.1 0 (by decide)
        have e264 : S54h.1 54 0 = S1c.1 54 0 := hS54h.1 0 (by decide)
        have e265 : S1c.1 54 0 = S.1 54 0 := hS1c.1 0 (by decide)
        have e266 : S78.2 55 (S78.1 54 22) = S66.2 55 (S78.1 54 22) := congrFun (hS78.2 55 (by decide)) _
        have e267 : S66.2 55 (S78.1 54 22) = S54h.2 55 (S78.1 54 22) := congrFun (hS66.2 55 (by decide)) _
        have e268 : S54h.2 55 (S78.1 54 22) = S1c.2 55 (S78.1 54 22) := congrFun (hS54h.2 55 (by decide)) _
        have e269 : S1c.2 55 (S78.1 54 22) = S.2 55 (S78.1 54 22) := congrFun (hS1c.2 55 (by decide)) _
        have e270 : S78.1 54 0 = S66.1 54 0 := hS78.1 0 (by decide)
        have e271 : S66.1 54 0 = S54h.1 54 0 := hS66.1 0 (by decide)
        have e272 : S54h.1 54 0 = S1c.1 54 0 := hS54h.1 0 (by decide)
        have e273 : S1c.1 54 0 = S.1 54 0 := hS1c.1 0 (by decide)
        refine tX11_signAt (by omega) (fun r101 n101_0 n101_1 n101_2 => ?_)
        refine ⟨by omega, ?_⟩
        refine ⟨fun h106 => ?_, fun h106 => ?_⟩
        · unfold wX11_oneClass_113
          unfold wX11_oneClass_114
          refine ⟨by omega, ?_⟩
          refine ⟨fun h117 => ?_, fun h117 => ?_⟩
          · intro q274
            have e275 : S78.1 54 22 = S66.1 54 22 := hS78.1 22 (by decide)
            unfold wX11_oneClass_133
            refine ⟨by omega, ?_⟩
            intro S133 hS133e
            have hS133 : Ch [22] [] S78 S133 := Ch_I hS133e
            have hS133v : S133.1 54 22 = S78.1 54 22 := pI_at hS133e
            have e276 : S133.2 62 a1 = S78.2 62 a1 := congrFun (hS133.2 62 (by decide)) _
            have e277 : S78.2 62 a1 = ((S66.2 62 ((a1)) + 1)) := by have q := hS78v a1; omega
            have e278 : S66.2 62 a1 = S54h.2 62 a1 := congrFun (hS66.2 62 (by decide)) _
            first | have e279 : S54h.2 62 a1 = S1c.2 62 a1 := by have q := i54_6 a1; omega | have e279 := i54_6 a1
            first | have e280 : S1c.2 62 a1 = S.2 62 a1 := by have q := c7 a1; omega | have e280 := c7 a1
            have e281 : S133.1 54 23 = S78.1 54 23 := hS133.1 23 (by decide)
            have e282 : S78.1 54 23 = S66.1 54 23 := hS78.1 23 (by decide)
            have e283 : S133.2 63 a1 = S78.2 63 a1 := congrFun (hS133.2 63 (by decide)) _
            have e284 : S78.2 63 a1 = S66.2 63 a1 := congrFun (hS78.2 63 (by decide)) _
            first | have e285 : S66.2 63 a1 = S54h.2 63 a1 := by have q := n66_2 a1; omega | have e285 := n66_2 a1
            first | have e286 : S54h.2 63 a1 = S1c.2 63 a1 := by have q := i54_5 a1; omega | have e286 := i54_5 a1
            first | have e287 : S1c.2 63 a1 = S.2 63 a1 := by have q := c6 a1; omega | have e287 := c6 a1
            have e288 : S133.1 54 23 = S78.1 54 23 := hS133.1 23 (by decide)
            have e289 : S78.1 54 23 = S66.1 54 23 := hS78.1 23 (by decide)
            have e290 : S133.2 62 a1 = S78.2 62 a1 := congrFun (hS133.2 62 (by decide)) _
            have e291 : S78.2 62 a1 = ((S66.2 62 ((a1)) + 1)) := by have q := hS78v a1; omega
            have e292 : S66.2 62 a1 = S54h.2 62 a1 := congrFun (hS66.2 62 (by decide)) _
            first | have e293 : S54h.2 62 a1 = S1c.2 62 a1 := by have q := i54_6 a1; omega | have e293 := i54_6 a1
            first | have e294 : S1c.2 62 a1 = S.2 62 a1 := by have q := c7 a1; omega | have e294 := c7 a1
            have e295 : S133.1 54 23 = S78.1 54 23 := hS133.1 23 (by decide)
            have e296 : S78.1 54 23 = S66.1 54 23 := hS78.1 23 (by decide)
            have e297 : S133.2 62 a1 = S78.2 62 a1 := congrFun (hS133.2 62 (by decide)) _
            have e298 : S78.2 62 a1 = ((S66.2 62 ((a1)) + 1)) := by have q := hS78v a1; omega
            have e299 : S66.2 62 a1 = S54h.2 62 a1 := congrFun (hS66.2 62 (by decide)) _
            first | have e300 : S54h.2 62 a1 = S1c.2 62 a1 := by have q := i54_6 a1; omega | have e300 := i54_6 a1
            first | have e301 : S1c.2 62 a1 = S.2 62 a1 := by have q := c7 a1; omega | have e301 := c7 a1
            exact ⟨⟨(Ch.wk (Ch.tr (Ch.tr (Ch.tr hS54h hS66) hS78) hS133) (by decide) (by decide)), rfl, by omega, by omega, by omega, by omega, (by
                  intro x
                  have e302 : S133.2 63 (6 + (4 * a1 + x)) = S78.2 63 (6 + (4 * a1 + x)) := congrFun (hS133.2 63 (by decide)) _
                  have e303 : S78.2 63 (6 + (4 * a1 + x)) = S66.2 63 (6 + (4 * a1 + x)) := congrFun (hS78.2 63 (by decide)) _
                  have e304 := n66_2 (6 + (4 * a1 + x))
                  have e305 := i54_5 (6 + (4 * a1 + x))
                  have e306 := c6 (6 + (4 * a1 + x))
                  have e307 : S133.2 62 a1 = S78.2 62 a1 := congrFun (hS133.2 62 (by decide)) _
                  have e308 : S78.2 62 a1 = ((S66.2 62 ((a1)) + 1)) := by have q := hS78v a1; omega
                  have e309 : S66.2 62 a1 = S54h.2 62 a1 := congrFun (hS66.2 62 (by decide)) _
                  first | have e310 : S54h.2 62 a1 = S1c.2 62 a1 := by have q := i54_6 a1; omega | have e310 := i54_6 a1
                  first | have e311 : S1c.2 62 a1 = S.2 62 a1 := by have q := c7 a1; omega | have e311 := c7 a1
                  have e312 := i54_4 x
                  omega), (by
                  intro x
                  have e313 : S133.2 63 x = S78.2 63 x := congrFun (hS133.2 63 (by decide)) _
                  have e314 : S78.2 63 x = S66.2 63 x := congrFun (hS78.2 63 (by decide)) _
                  have e315 := n66_2 x
                  have e316 := i54_5 x
                  have e317 := c6 x
                  omega), (by
                  intro x
                  have e318 : S133.2 62 x = S78.2 62 x := congrFun (hS133.2 62 (by decide)) _
                  have e319 := hS78v x
                  have e320 : S66.2 62 x = S54h.2 62 x := congrFun (hS66.2 62 (by decide)) _
                  have e321 := i54_6 x
                  have e322 := c7 x
                  omega), by omega⟩, show (5 - (S133.2 62) a1).toNat < (5 - (S54h.2 62) a1).toNat by omega⟩
          · intro q323
            have e324 : S78.1 54 22 = S66.1 54 22 := hS78.1 22 (by decide)
            unfold wX11_oneClass_133
            refine ⟨by omega, ?_⟩
            intro S133 hS133e
            have hS133 : Ch [22] [] S78 S133 := Ch_I hS133e
            have hS133v : S133.1 54 22 = (S78.1 54 22 + 1) := pI_at hS133e
            have e325 : S133.2 62 a1 = S78.2 62 a1 := congrFun (hS133.2 62 (by decide)) _
            have e326 : S78.2 62 a1 = ((S66.2 62 ((a1)) + 1)) := by have q := hS78v a1; omega
            have e327 : S66.2 62 a1 = S54h.2 62 a1 := congrFun (hS66.2 62 (by decide)) _
            first | have e328 : S54h.2 62 a1 = S1c.2 62 a1 := by have q := i54_6 a1; omega | have e328 := i54_6 a1
            first | have e329 : S1c.2 62 a1 = S.2 62 a1 := by have q := c7 a1; omega | have e329 := c7 a1
            have e330 : S133.1 54 23 = S78.1 54 23 := hS133.1 23 (by decide)
            have e331 : S78.1 54 23 = S66.1 54 23 := hS78.1 23 (by decide)
            have e332 : S133.2 63 a1 = S78.2 63 a1 := congrFun (hS133.2 63 (by decide)) _
            have e333 : S78.2 63 a1 = S66.2 63 a1 := congrFun (hS78.2 63 (by decide)) _
            first | have e334 : S66.2 63 a1 = S54h.2 63 a1 := by have q := n66_2 a1; omega | have e334 := n66_2 a1
            first | have e335 : S54h.2 63 a1 = S1c.2 63 a1 := by have q := i54_5 a1; omega | have e335 := i54_5 a1
            first | have e336 : S1c.2 63 a1 = S.2 63 a1 := by have q := c6 a1; omega | have e336 := c6 a1
            have e337 : S133.1 54 23 = S78.1 54 23 := hS133.1 23 (by decide)
            have e338 : S78.1 54 23 = S66.1 54 23 := hS78.1 23 (by decide)
            have e339 : S133.2 62 a1 = S78.2 62 a1 := congrFun (hS133.2 62 (by decide)) _
            have e340 : S78.2 62 a1 = ((S66.2 62 ((a1)) + 1)) := by have q := hS78v a1; omega
            have e341 : S66.2 62 a1 = S54h.2 62 a1 := congrFun (hS66.2 62 (by decide)) _
            first | have e342 : S54h.2 62 a1 = S1c.2 62 a1 := by have q := i54_6 a1; omega | have e342 := i54_6 a1
            first | have e343 : S1c.2 62 a1 = S.2 62 a1 := by have q := c7 a1; omega | have e343 := c7 a1
            have e344 : S133.1 54 23 = S78.1 54 23 := hS133.1 23 (by decide)
            have e345 : S78.1 54 23 = S66.1 54 23 := hS78.1 23 (by decide)
            have e346 : S133.2 62 a1 = S78.2 62 a1 := congrFun (hS133.2 62 (by decide)) _
            have e347 : S78.2 62 a1 = ((S66.2 62 ((a1)) + 1)) := by have q := hS78v a1; omega
            have e348 : S66.2 62 a1 = S54h.2 62 a1 := congrFun (hS66.2 62 (by decide)) _
            first | have e349 : S54h.2 62 a1 = S1c.2 62 a1 := by have q := i54_6 a1; omega | have e349 := i54_6 a1
            first | have e350 : S1c.2 62 a1 = S.2 62 a1 := by have q := c7 a1; omega | have e350 := c7 a1
            exact ⟨⟨(Ch.wk (Ch.tr (Ch.tr (Ch.tr hS54h hS66) hS78) hS133) (by decide) (by decide)), rfl, by omega, by omega, by omega, by omega, (by
                  intro x
                  have e351 : S133.2 63 (6 + (4 * a1 + x)) = S78.2 63 (6 + (4 * a1 + x)) := congrFun (hS133.2 63 (by decide)) _
                  have e352 : S78.2 63 (6 + (4 * a1 + x)) = S66.2 63 (6 + (4 * a1 + x)) := congrFun (hS78.2 63 (by decide)) _
                  have e353 := n66_2 (6 + (4 * a1 + x))
                  have e354 := i54_5 (6 + (4 * a1 + x))
                  have e355 := c6 (6 + (4 * a1 + x))
                  have e356 : S133.2 62 a1 = S78.2 62 a1 := congrFun (hS133.2 62 (by decide)) _
                  have e357 : S78.2 62 a1 = ((S66.2 62 ((a1)) + 1)) := by have q := hS78v a1; omega
                  have e358 : S66.2 62 a1 = S54h.2 62 a1 := congrFun (hS66.2 62 (by decide)) _
                  first | have e359 : S54h.2 62 a1 = S1c.2 62 a1 := by have q := i54_6 a1; omega | have e359 := i54_6 a1
                  first | have e360 : S1c.2 62 a1 = S.2 62 a1 := by have q := c7 a1; omega | have e360 := c7 a1
                  have e361 := i54_4 x
                  omega), (by
                  intro x
                  have e362 : S133.2 63 x = S78.2 63 x := congrFun (hS133.2 63 (by decide)) _
                  have e363 : S78.2 63 x = S66.2 63 x := congrFun (hS78.2 63 (by decide)) _
                  have e364 := n66_2 x
                  have e365 := i54_5 x
                  have e366 := c6 x
                  omega), (by
                  intro x
                  have e367 : S133.2 62 x = S78.2 62 x := congrFun (hS133.2 62 (by decide)) _
                  have e368 := hS78v x
                  have e369 : S66.2 62 x = S54h.2 62 x := congrFun (hS66.2 62 (by decide)) _
                  have e370 := i54_6 x
                  have e371 := c7 x
                  omega), by omega⟩, show (5 - (S133.2 62) a1).toNat < (5 - (S54h.2 62) a1).toNat by omega⟩
        · unfold wX11_oneClass_114
          refine ⟨by omega, ?_⟩
          refine ⟨fun h117 => ?_, fun h117 => ?_⟩
          · intro q372
            have e373 : S78.1 54 22 = S66.1 54 22 := hS78.1 22 (by decide)
            unfold wX11_oneClass_133
            refine ⟨by omega, ?_⟩
            intro S133 hS133e
            have hS133 : Ch [22] [] S78 S133 := Ch_I hS133e
            have hS133v : S133.1 54 22 = S78.1 54 22 := pI_at hS133e
            have e374 : S133.2 62 a1 = S78.2 62 a1 := congrFun (hS133.2 62 (by decide)) _
            have e375 : S78.2 62 a1 = ((S66.2 62 ((a1)) + 1)) := by have q := hS78v a1; omega
            have e376 : S66.2 62 a1 = S54h.2 62 a1 := congrFun (hS66.2 62 (by decide)) _
            first | have e377 : S54h.2 62 a1 = S1c.2 62 a1 := by have q := i54_6 a1; omega | have e377 := i54_6 a1
            first | have e378 : S1c.2 62 a1 = S.2 62 a1 := by have q := c7 a1; omega | have e378 := c7 a1
            have e379 : S133.1 54 23 = S78.1 54 23 := hS133.1 23 (by decide)
            have e380 : S78.1 54 23 = S66.1 54 23 := hS78.1 23 (by decide)
            have e381 : S133.2 63 a1 = S78.2 63 a1 := congrFun (hS133.2 63 (by decide)) _
            have e382 : S78.2 63 a1 = S66.2 63 a1 := congrFun (hS78.2 63 (by decide)) _
            first | have e383 : S66.2 63 a1 = S54h.2 63 a1 := by have q := n66_2 a1; omega | have e383 := n66_2 a1
            first | have e384 : S54h.2 63 a1 = S1c.2 63 a1 := by have q := i54_5 a1; omega | have e384 := i54_5 a1
            first | have e385 : S1c.2 63 a1 = S.2 63 a1 := by have q := c6 a1; omega | have e385 := c6 a1
            have e386 : S133.1 54 23 = S78.1 54 23 := hS133.1 23 (by decide)
            have e387 : S78.1 54 23 = S66.1 54 23 := hS78.1 23 (by decide)
            have e388 : S133.2 62 a1 = S78.2 62 a1 := congrFun (hS133.2 62 (by decide)) _
            have e389 : S78.2 62 a1 = ((S66.2 62 ((a1)) + 1)) := by have q := hS78v a1; omega
            have e390 : S66.2 62 a1 = S54h.2 62 a1 := congrFun (hS66.2 62 (by decide)) _
            first | have e391 : S54h.2 62 a1 = S1c.2 62 a1 := by have q := i54_6 a1; omega | have e391 := i54_6 a1
            first | have e392 : S1c.2 62 a1 = S.2 62 a1 := by have q := c7 a1; omega | have e392 := c7 a1
            have e393 : S133.1 54 23 = S78.1 54 23 := hS133.1 23 (by decide)
            have e394 : S78.1 54 23 = S66.1 54 23 := hS78.1 23 (by decide)
            have e395 : S133.2 62 a1 = S78.2 62 a1 := congrFun (hS133.2 62 (by decide)) _
            have e396 : S78.2 62 a1 = ((S66.2 62 ((a1)) + 1)) := by have q := hS78v a1; omega
            have e397 : S66.2 62 a1 = S54h.2 62 a1 := congrFun (hS66.2 62 (by decide)) _
            first | have e398 : S54h.2 62 a1 = S1c.2 62 a1 := by have q := i54_6 a1; omega | have e398 := i54_6 a1
            first | have e399 : S1c.2 62 a1 = S.2 62 a1 := by have q := c7 a1; omega | have e399 := c7 a1
            exact ⟨⟨(Ch.wk (Ch.tr (Ch.tr (Ch.tr hS54h hS66) hS78) hS133) (by decide) (by decide)), rfl, by omega, by omega, by omega, by omega, (by
                  intro x
                  have e400 : S133.2 63 (6 + (4 * a1 + x)) = S78.2 63 (6 + (4 * a1 + x)) := congrFun (hS133.2 63 (by decide)) _
                  have e401 : S78.2 63 (6 + (4 * a1 + x)) = S66.2 63 (6 + (4 * a1 + x)) := congrFun (hS78.2 63 (by decide)) _
                  have e402 := n66_2 (6 + (4 * a1 + x))
                  have e403 := i54_5 (6 + (4 * a1 + x))
                  have e404 := c6 (6 + (4 * a1 + x))
                  have e405 : S133.2 62 a1 = S78.2 62 a1 := congrFun (hS133.2 62 (by decide)) _
                  have e406 : S78.2 62 a1 = ((S66.2 62 ((a1)) + 1)) := by have q := hS78v a1; omega
                  have e407 : S66.2 62 a1 = S54h.2 62 a1 := congrFun (hS66.2 62 (by decide)) _
                  first | have e408 : S54h.2 62 a1 = S1c.2 62 a1 := by have q := i54_6 a1; omega | have e408 := i54_6 a1
                  first | have e409 : S1c.2 62 a1 = S.2 62 a1 := by have q := c7 a1; omega | have e409 := c7 a1
                  have e410 := i54_4 x
                  omega), (by
                  intro x
                  have e411 : S133.2 63 x = S78.2 63 x := congrFun (hS133.2 63 (by decide)) _
                  have e412 : S78.2 63 x = S66.2 63 x := congrFun (hS78.2 63 (by decide)) _
                  have e413 := n66_2 x
                  have e414 := i54_5 x
                  have e415 := c6 x
                  omega), (by
                  intro x
                  have e416 : S133.2 62 x = S78.2 62 x := congrFun (hS133.2 62 (by decide)) _
                  have e417 := hS78v x
                  have e418 : S66.2 62 x = S54h.2 62 x := congrFun (hS66.2 62 (by decide)) _
                  have e419 := i54_6 x
                  have e420 := c7 x
                  omega), by omega⟩, show (5 - (S133.2 62) a1).toNat < (5 - (S54h.2 62) a1).toNat by omega⟩
          · intro q421
            have e422 : S78.1 54 22 = S66.1 54 22 := hS78.1 22 (by decide)
            unfold wX11_oneClass_133
            refine ⟨by omega, ?_⟩
            intro S133 hS133e
            have hS133 : Ch [22] [] S78 S133 := Ch_I hS133e
            have hS133v : S133.1 54 22 = (S78.1 54 22 + 1) := pI_at hS133e
            have e423 : S133.2 62 a1 = S78.2 62 a1 := congrFun (hS133.2 62 (by decide)) _
            have e424 : S78.2 62 a1 = ((S66.2 62 ((a1)) + 1)) := by have q := hS78v a1; omega
            have e425 : S66.2 62 a1 = S54h.2 62 a1 := congrFun (hS66.2 62 (by decide)) _
            first | have e426 : S54h.2 62 a1 = S1c.2 62 a1 := by have q := i54_6 a1; omega | have e426 := i54_6 a1
            first | have e427 : S1c.2 62 a1 = S.2 62 a1 := by have q := c7 a1; omega | have e427 := c7 a1
            have e428 : S133.1 54 23 = S78.1 54 23 := hS133.1 23 (by decide)
            have e429 : S78.1 54 23 = S66.1 54 23 := hS78.1 23 (by decide)
            have e430 : S133.2 63 a1 = S78.2 63 a1 := congrFun (hS133.2 63 (by decide)) _
            have e431 : S78.2 63 a1 = S66.2 63 a1 := congrFun (hS78.2 63 (by decide)) _
            first | have e432 : S66.2 63 a1 = S54h.2 63 a1 := by have q := n66_2 a1; omega | have e432 := n66_2 a1
            first | have e433 : S54h.2 63 a1 = S1c.2 63 a1 := by have q := i54_5 a1; omega | have e433 := i54_5 a1
            first | have e434 : S1c.2 63 a1 = S.2 63 a1 := by have q := c6 a1; omega | have e434 := c6 a1
            have e435 : S133.1 54 23 = S78.1 54 23 := hS133.1 23 (by decide)
            have e436 : S78.1 54 23 = S66.1 54 23 := hS78.1 23 (by decide)
            have e437 : S133.2 62 a1 = S78.2 62 a1 := congrFun (hS133.2 62 (by decide)) _
            have e438 : S78.2 62 a1 = ((S66.2 62 ((a1)) + 1)) := by have q := hS78v a1; omega
            have e439 : S66.2 62 a1 = S54h.2 62 a1 := congrFun (hS66.2 62 (by decide)) _
            first | have e440 : S54h.2 62 a1 = S1c.2 62 a1 := by have q := i54_6 a1; omega | have e440 := i54_6 a1
            first | have e441 : S1c.2 62 a1 = S.2 62 a1 := by have q := c7 a1; omega | have e441 := c7 a1
            have e442 : S133.1 54 23 = S78.1 54 23 := hS133.1 23 (by decide)
            have e443 : S78.1 54 23 = S66.1 54 23 := hS78.1 23 (by decide)
            have e444 : S133.2 62 a1 = S78.2 62 a1 := congrFun (hS133.2 62 (by decide)) _
            have e445 : S78.2 62 a1 = ((S66.2 62 ((a1)) + 1)) := by have q := hS78v a1; omega
            have e446 : S66.2 62 a1 = S54h.2 62 a1 := congrFun (hS66.2 62 (by decide)) _
            first | have e447 : S54h.2 62 a1 = S1c.2 62 a1 := by have q := i54_6 a1; omega | have e447 := i54_6 a1
            first | have e448 : S1c.2 62 a1 = S.2 62 a1 := by have q := c7 a1; omega | have e448 := c7 a1
            exact ⟨⟨(Ch.wk (Ch.tr (Ch.tr (Ch.tr hS54h hS66) hS78) hS133) (by decide) (by decide)), rfl, by omega, by omega, by omega, by omega, (by
                  intro x
                  have e449 : S133.2 63 (6 + (4 * a1 + x)) = S78.2 63 (6 + (4 * a1 + x)) := congrFun (hS133.2 63 (by decide)) _
                  have e450 : S78.2 63 (6 + (4 * a1 + x)) = S66.2 63 (6 + (4 * a1 + x)) := congrFun (hS78.2 63 (by decide)) _
                  have e451 := n66_2 (6 + (4 * a1 + x))
                  have e452 := i54_5 (6 + (4 * a1 + x))
                  have e453 := c6 (6 + (4 * a1 + x))
                  have e454 : S133.2 62 a1 = S78.2 62 a1 := congrFun (hS133.2 62 (by decide)) _
                  have e455 : S78.2 62 a1 = ((S66.2 62 ((a1)) + 1)) := by have q := hS78v a1; omega
                  have e456 : S66.2 62 a1 = S54h.2 62 a1 := congrFun (hS66.2 62 (by decide)) _
                  first | have e457 : S54h.2 62 a1 = S1c.2 62 a1 := by have q := i54_6 a1; omega | have e457 := i54_6 a1
                  first | have e458 : S1c.2 62 a1 = S.2 62 a1 := by have q := c7 a1; omega | have e458 := c7 a1
                  have e459 := i54_4 x
                  omega), (by
                  intro x
                  have e460 : S133.2 63 x = S78.2 63 x := congrFun (hS133.2 63 (by decide)) _
                  have e461 : S78.2 63 x = S66.2 63 x := congrFun (hS78.2 63 (by decide)) _
                  have e462 := n66_2 x
                  have e463 := i54_5 x
                  have e464 := c6 x
                  omega), (by
                  intro x
                  have e465 : S133.2 62 x = S78.2 62 x := congrFun (hS133.2 62 (by decide)) _
                  have e466 := hS78v x
                  have e467 : S66.2 62 x = S54h.2 62 x := congrFun (hS66.2 62 (by decide)) _
                  have e468 := i54_6 x
                  have e469 := c7 x
                  omega), by omega⟩, show (5 - (S133.2 62) a1).toNat < (5 - (S54h.2 62) a1).toNat by omega⟩
set_option maxRecDepth 100000 in
set_option maxHeartbeats 4000000 in
theorem tX11_oneClass {a1 : Int} {S : St} {K : Int → St → Prop} (p1 : iv 0 5 a1) (p2 : (S.1 54 22) ≤ (S.1 54 0)) (p3 : (S.1 54 23) = 0) (p4 : (S.1 54 0) ≤ 3000) (hK : ∀ (r : Int) (S' : St), Ch [22, 23, 24] [62, 63, 64, 65, 66] S S' → ((S'.1 54 22) ≤ (S.1 54 0)) → ((S'.1 54 23) = 1 ∨ 1 ≤ (S'.2 63) a1) → (∀ x, (S'.1 54 23) = 1 ∨ x < 0 ∨ (S'.2 62) a1 ≤ x ∨ 1 ≤ (S'.2 63) (6 + (4 * a1 + x))) → (∀ x, x = a1 ∨ (6 + 4 * a1 ≤ x ∧ x ≤ 9 + 4 * a1) ∨ (S'.2 63) x = (S.2 63) x) → (∀ x, x = a1 ∨ (S'.2 62) x = (S.2 62) x) → K r S') : wX11_oneClass a1 S K := by
  unfold wX11_oneClass
  intro g1
  refine tX11_name (by omega) (by omega) (by omega) (by omega) (fun r4 S4 hS4 n4_0 n4_1 n4_2 n4_3 => ?_)
  refine ⟨by omega, by omega, ?_⟩
  intro S13 hS13e
  have hS13 : Ch [] [62] S4 S13 := Ch_A hS13e
  have hS13v : ∀ x, (x = a1 ∧ S13.2 62 x = 0) ∨ (¬ x = a1 ∧ S13.2 62 x = S4.2 62 x) := pA_at hS13e
  intro q1
  have e2 : S13.1 54 23 = S4.1 54 23 := hS13.1 23 (by decide)
  refine ⟨fun h18 => ?_, fun h18 => ?_⟩
  · have e3 : S13.1 54 22 = S4.1 54 22 := hS13.1 22 (by decide)
    have e4 : S13.1 54 0 = S4.1 54 0 := hS13.1 0 (by decide)
    have e5 : S4.1 54 0 = S.1 54 0 := hS4.1 0 (by decide)
    have e6 : S13.1 54 0 = S4.1 54 0 := hS13.1 0 (by decide)
    have e7 : S4.1 54 0 = S.1 54 0 := hS4.1 0 (by decide)
    have e8 : S13.1 54 23 = S4.1 54 23 := hS13.1 23 (by decide)
    refine tX11_eat (by omega) (by omega) (fun r25 S25 hS25 n25_0 n25_1 => ?_)
    intro q9
    refine ⟨fun h32 => ?_, fun h32 => ?_⟩
    · unfold wX11_oneClass_52
      unfold wX11_oneClass_53
      have e10 : S25.2 62 a1 = S13.2 62 a1 := congrFun (hS25.2 62 (by decide)) _
      have e11 : S13.2 62 a1 = (0) := by have q := hS13v a1; omega
      have e12 : S4.2 62 a1 = S.2 62 a1 := congrFun (hS4.2 62 (by decide)) _
      have e13 : S25.2 63 a1 = S13.2 63 a1 := congrFun (hS25.2 63 (by decide)) _
      have e14 : S13.2 63 a1 = S4.2 63 a1 := congrFun (hS13.2 63 (by decide)) _
      first | have e15 : S4.2 63 a1 = S.2 63 a1 := by have q := n4_2 a1; omega | have e15 := n4_2 a1
      exact tX11_oneClass_54 g1 p1 p2 p3 p4 (Ch.wk (Ch.tr (Ch.tr hS4 hS13) hS25) (by decide) (by decide)) (by omega) (by omega) (by omega) (by omega) (by omega) (by
            intro x
            have e16 : S25.2 63 x = S13.2 63 x := congrFun (hS25.2 63 (by decide)) _
            have e17 : S13.2 63 x = S4.2 63 x := congrFun (hS13.2 63 (by decide)) _
            have e18 := n4_2 x
            omega) (by
            intro x
            have e19 : S25.2 62 x = S13.2 62 x := congrFun (hS25.2 62 (by decide)) _
            have e20 := hS13v x
            have e21 : S4.2 62 x = S.2 62 x := congrFun (hS4.2 62 (by decide)) _
            omega) (by omega) hK
    · intro q22
      have e23 : S25.1 54 0 = S13.1 54 0 := hS25.1 0 (by decide)
      have e24 : S13.1 54 0 = S4.1 54 0 := hS13.1 0 (by decide)
      have e25 : S4.1 54 0 = S.1 54 0 := hS4.1 0 (by decide)
      have e26 : S25.2 55 (S25.1 54 22) = S13.2 55 (S25.1 54 22) := congrFun (hS25.2 55 (by decide)) _
      have e27 : S13.2 55 (S25.1 54 22) = S4.2 55 (S25.1 54 22) := congrFun (hS13.2 55 (by decide)) _
      have e28 : S4.2 55 (S25.1 54 22) = S.2 55 (S25.1 54 22) := congrFun (hS4.2 55 (by decide)) _
      have e29 : S25.1 54 0 = S13.1 54 0 := hS25.1 0 (by decide)
      have e30 : S13.1 54 0 = S4.1 54 0 := hS13.1 0 (by decide)
      have e31 : S4.1 54 0 = S.1 54 0 := hS4.1 0 (by decide)
      refine tX11_signAt (by omega) (fun r40 n40_0 n40_1 n40_2 => ?_)
      refine ⟨by omega, ?_⟩
      refine ⟨fun h45 => ?_, fun h45 => ?_⟩
      · unfold wX11_oneClass_52
        unfold wX11_oneClass_53
        have e32 : S25.2 62 a1 = S13.2 62 a1 := congrFun (hS25.2 62 (by decide)) _
        have e33 : S13.2 62 a1 = (0) := by have q := hS13v a1; omega
        have e34 : S4.2 62 a1 = S.2 62 a1 := congrFun (hS4.2 62 (by decide)) _
        have e35 : S25.2 63 a1 = S13.2 63 a1 := congrFun (hS25.2 63 (by decide)) _
        have e36 : S13.2 63 a1 = S4.2 63 a1 := congrFun (hS13.2 63 (by decide)) _
        first | have e37 : S4.2 63 a1 = S.2 63 a1 := by have q := n4_2 a1; omega | have e37 := n4_2 a1
        exact tX11_oneClass_54 g1 p1 p2 p3 p4 (Ch.wk (Ch.tr (Ch.tr hS4 hS13) hS25) (by decide) (by decide)) (by omega) (by omega) (by omega) (by omega) (by omega) (by
              intro x
              have e38 : S25.2 63 x = S13.2 63 x := congrFun (hS25.2 63 (by decide)) _
              have e39 : S13.2 63 x = S4.2 63 x := congrFun (hS13.2 63 (by decide)) _
              have e40 := n4_2 x
              omega) (by
              intro x
              have e41 : S25.2 62 x = S13.2 62 x := congrFun (hS25.2 62 (by decide)) _
              have e42 := hS13v x
              have e43 : S4.2 62 x = S.2 62 x := congrFun (hS4.2 62 (by decide)) _
              omega) (by omega) hK
      · unfold wX11_oneClass_53
        have e44 : S25.2 62 a1 = S13.2 62 a1 := congrFun (hS25.2 62 (by decide)) _
        have e45 : S13.2 62 a1 = (0) := by have q := hS13v a1; omega
        have e46 : S4.2 62 a1 = S.2 62 a1 := congrFun (hS4.2 62 (by decide)) _
        have e47 : S25.2 63 a1 = S13.2 63 a1 := congrFun (hS25.2 63 (by decide)) _
        have e48 : S13.2 63 a1 = S4.2 63 a1 := congrFun (hS13.2 63 (by decide)) _
        first | have e49 : S4.2 63 a1 = S.2 63 a1 := by have q := n4_2 a1; omega | have e49 := n4_2 a1
        exact tX11_oneClass_54 g1 p1 p2 p3 p4 (Ch.wk (Ch.tr (Ch.tr hS4 hS13) hS25) (by decide) (by decide)) (by omega) (by omega) (by omega) (by omega) (by omega) (by
              intro x
              have e50 : S25.2 63 x = S13.2 63 x := congrFun (hS25.2 63 (by decide)) _
              have e51 : S13.2 63 x = S4.2 63 x := congrFun (hS13.2 63 (by decide)) _
              have e52 := n4_2 x
              omega) (by
              intro x
              have e53 : S25.2 62 x = S13.2 62 x := congrFun (hS25.2 62 (by decide)) _
              have e54 := hS13v x
              have e55 : S4.2 62 x = S.2 62 x := congrFun (hS4.2 62 (by decide)) _
              omega) (by omega) hK
  · have e56 : S13.1 54 22 = S4.1 54 22 := hS13.1 22 (by decide)
    have e57 : S13.1 54 23 = S4.1 54 23 := hS13.1 23 (by decide)
    have e58 : S13.2 63 a1 = S4.2 63 a1 := congrFun (hS13.2 63 (by decide)) _
    first | have e59 : S4.2 63 a1 = S.2 63 a1 := by have q := n4_2 a1; omega | have e59 := n4_2 a1
    have e60 : S13.1 54 23 = S4.1 54 23 := hS13.1 23 (by decide)
    have e61 : S13.2 62 a1 = (0) := by have q := hS13v a1; omega
    have e62 : S4.2 62 a1 = S.2 62 a1 := congrFun (hS4.2 62 (by decide)) _
    exact hK (0) S13 (Ch.wk (Ch.tr hS4 hS13) (by decide) (by decide)) (by omega) (by omega) (by
          intro x
          have e63 : S13.2 63 (6 + (4 * a1 + x)) = S4.2 63 (6 + (4 * a1 + x)) := congrFun (hS13.2 63 (by decide)) _
          have e64 := n4_2 (6 + (4 * a1 + x))
          have e65 : S13.2 62 a1 = (0) := by have q := hS13v a1; omega
          have e66 : S4.2 62 a1 = S.2 62 a1 := congrFun (hS4.2 62 (by decide)) _
          omega) (by
          intro x
          have e67 : S13.2 63 x = S4.2 63 x := congrFun (hS13.2 63 (by decide)) _
          have e68 := n4_2 x
          omega) (by
          intro x
          have e69 := hS13v x
          have e70 : S4.2 62 x = S.2 62 x := congrFun (hS4.2 62 (by decide)) _
          omega)
