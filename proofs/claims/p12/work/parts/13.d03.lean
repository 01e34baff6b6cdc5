set_option maxRecDepth 100000 in
set_option maxHeartbeats 4000000 in
theorem tX11_attribute_117 {a1 a2 l1 l2 l3 l4 : Int} {S S1c : St} {K : Int → St → Prop} (g1 : rng a1) (g2 : rng a2) (p1 : 0 ≤ a1) (p2 : a1 < (S.1 54 41)) (p3 : (S.1 54 41) ≤ 3000) (p4 : NB ((S.2 84) a1)) (p5 : iv 0 199 a2) (p6 : 5 * (S.1 54 51) + 1 ≤ a1) (p7 : PA S) (p8 : (S.1 54 56) ≤ a1) (p9 : (S.2 90) a2 + (S.2 91) a2 ≤ (S.1 54 51)) (p10 : 0 ≤ (S.2 90) a2) (hS1c : Ch [59] [] S S1c) (c1 : a1 = l1) (c2 : a2 = l2) (c3 : a1 + 1 ≤ l3) (c4 : l3 + 1 < (S.1 54 41)) (c5 : iv 0 127 l4) (c6 : (S1c.1 54 59) = -2) (hK : ∀ (r : Int) (S' : St), Ch [51, 56, 59] [91, 92, 93, 94, 95, 96, 97] S S' → (a1 ≤ r) → (r ≤ 3010) → (PA S') → ((S'.2 90) a2 + (S'.2 91) a2 ≤ (S'.1 54 51)) → (∀ x, x = a2 ∨ (S'.2 91) x = (S.2 91) x) → ((S.1 54 51) ≤ (S'.1 54 51)) → (PB S' r) → K r S') : wX11_attribute_117 l1 l2 l3 l4 S1c K := by
  unfold wX11_attribute_117
  subst c1
  subst c2
  intro q1
  have e2 : S1c.1 54 51 = S.1 54 51 := hS1c.1 51 (by decide)
  refine ⟨by omega, by omega, ?_⟩
  refine ⟨by omega, ?_⟩
  intro S130 hS130e
  have hS130 : Ch [] [92] S1c S130 := Ch_A hS130e
  have hS130v : ∀ x, (x = S1c.1 54 51 ∧ S130.2 92 x = (a1)) ∨ (¬ x = S1c.1 54 51 ∧ S130.2 92 x = S1c.2 92 x) := pA_at hS130e
  refine ⟨by omega, by omega, ?_⟩
  refine ⟨by omega, ?_⟩
  intro S140 hS140e
  have hS140 : Ch [] [93] S130 S140 := Ch_A hS140e
  have hS140v : ∀ x, (x = S1c.1 54 51 ∧ S140.2 93 x = (l3 - (a1))) ∨ (¬ x = S1c.1 54 51 ∧ S140.2 93 x = S130.2 93 x) := pA_at hS140e
  intro q3
  have e4 : S140.1 54 56 = S130.1 54 56 := hS140.1 56 (by decide)
  have e5 : S130.1 54 56 = S1c.1 54 56 := hS130.1 56 (by decide)
  have e6 : S1c.1 54 56 = S.1 54 56 := hS1c.1 56 (by decide)
  refine ⟨by omega, by omega, ?_⟩
  intro S151 hS151e
  have hS151 : Ch [] [94] S140 S151 := Ch_A hS151e
  have hS151v : ∀ x, (x = S1c.1 54 51 ∧ S151.2 94 x = S140.1 54 56) ∨ (¬ x = S1c.1 54 51 ∧ S151.2 94 x = S140.2 94 x) := pA_at hS151e
  intro x155 hx155
  subst hx155
  unfold wX11_attribute_156
  have e7 : S151.1 54 59 = S140.1 54 59 := hS151.1 59 (by decide)
  have e8 : S140.1 54 59 = S130.1 54 59 := hS140.1 59 (by decide)
  have e9 : S130.1 54 59 = S1c.1 54 59 := hS130.1 59 (by decide)
  have e10 : S151.1 54 56 = S140.1 54 56 := hS151.1 56 (by decide)
  have e11 : S140.1 54 56 = S130.1 54 56 := hS140.1 56 (by decide)
  have e12 : S130.1 54 56 = S1c.1 54 56 := hS130.1 56 (by decide)
  have e13 : S1c.1 54 56 = S.1 54 56 := hS1c.1 56 (by decide)
  have e14 : S151.1 54 56 = S140.1 54 56 := hS151.1 56 (by decide)
  have e15 : S140.1 54 56 = S130.1 54 56 := hS140.1 56 (by decide)
  have e16 : S130.1 54 56 = S1c.1 54 56 := hS130.1 56 (by decide)
  have e17 : S1c.1 54 56 = S.1 54 56 := hS1c.1 56 (by decide)
  refine ⟨fun u2 u3 u4 u5 Sx => Ch [56, 59] [96, 97] S151 Sx ∧ (a2) = u2 ∧ l4 = u4 ∧ S1c.1 54 51 = u5 ∧ (a1 + 3 ≤ u3) ∧ (u3 ≤ 3005) ∧ (-1 ≤ (Sx.1 54 59) ∨ (u3 ≤ (S.1 54 41) ∧ (Sx.1 54 56) ≤ u3)) ∧ ((S151.1 54 56) ≤ (Sx.1 54 56)), fun u2 u3 u4 u5 Sx => (2 * (3010 - u3) + min 1 (max 0 (-1 - (Sx.1 54 59)))).toNat, ?_, fun v156_2 v156_3 v156_4 v156_5 S156h hI => ?_⟩
  · exact ⟨Ch.re, rfl, rfl, rfl, by omega, by omega, by omega, by omega⟩
  obtain ⟨hS156h, rfl, rfl, rfl, i156_0, i156_1, i156_2, i156_3⟩ := hI
  unfold wX11_attribute_156'
  intro q18
  refine ⟨fun h162 => ?_, fun h162 => ?_⟩
  · unfold wX11_attribute_234
    intro q19
    refine ⟨by omega, by omega, ?_⟩
    intro q20
    have e21 : S156h.2 94 (S1c.1 54 51) = S151.2 94 (S1c.1 54 51) := congrFun (hS156h.2 94 (by decide)) _
    have e22 : S151.2 94 (S1c.1 54 51) = (S140.1 54 56) := by have q := hS151v (S1c.1 54 51); omega
    have e23 : S140.2 94 (S1c.1 54 51) = S130.2 94 (S1c.1 54 51) := congrFun (hS140.2 94 (by decide)) _
    have e24 : S130.2 94 (S1c.1 54 51) = S1c.2 94 (S1c.1 54 51) := congrFun (hS130.2 94 (by decide)) _
    have e25 : S1c.2 94 (S1c.1 54 51) = S.2 94 (S1c.1 54 51) := congrFun (hS1c.2 94 (by decide)) _
    refine ⟨by omega, by omega, ?_⟩
    refine ⟨by omega, ?_⟩
    intro S252 hS252e
    have hS252 : Ch [] [95] S156h S252 := Ch_A hS252e
    have hS252v : ∀ x, (x = S1c.1 54 51 ∧ S252.2 95 x = (S156h.1 54 56 - S156h.2 94 (S1c.1 54 51))) ∨ (¬ x = S1c.1 54 51 ∧ S252.2 95 x = S156h.2 95 x) := pA_at hS252e
    intro q26
    have e27 : S252.1 54 51 = S156h.1 54 51 := hS252.1 51 (by decide)
    have e28 : S156h.1 54 51 = S151.1 54 51 := hS156h.1 51 (by decide)
    have e29 : S151.1 54 51 = S140.1 54 51 := hS151.1 51 (by decide)
    have e30 : S140.1 54 51 = S130.1 54 51 := hS140.1 51 (by decide)
    have e31 : S130.1 54 51 = S1c.1 54 51 := hS130.1 51 (by decide)
    have e32 : S1c.1 54 51 = S.1 54 51 := hS1c.1 51 (by decide)
    refine ⟨by omega, ?_⟩
    intro S260 hS260e
    have hS260 : Ch [51] [] S252 S260 := Ch_I hS260e
    have hS260v : S260.1 54 51 = (S252.1 54 51 + 1) := pI_at hS260e
    refine ⟨by omega, by omega, ?_⟩
    intro q33
    have e34 : S260.2 91 ((a2)) = S252.2 91 ((a2)) := congrFun (hS260.2 91 (by decide)) _
    have e35 : S252.2 91 ((a2)) = S156h.2 91 ((a2)) := congrFun (hS252.2 91 (by decide)) _
    have e36 : S156h.2 91 ((a2)) = S151.2 91 ((a2)) := congrFun (hS156h.2 91 (by decide)) _
    have e37 : S151.2 91 ((a2)) = S140.2 91 ((a2)) := congrFun (hS151.2 91 (by decide)) _
    have e38 : S140.2 91 ((a2)) = S130.2 91 ((a2)) := congrFun (hS140.2 91 (by decide)) _
    have e39 : S130.2 91 ((a2)) = S1c.2 91 ((a2)) := congrFun (hS130.2 91 (by decide)) _
    have e40 : S1c.2 91 ((a2)) = S.2 91 ((a2)) := congrFun (hS1c.2 91 (by decide)) _
    refine ⟨by omega, by omega, ?_⟩
    refine ⟨by omega, ?_⟩
    intro S272 hS272e
    have hS272 : Ch [] [91] S260 S272 := Ch_A hS272e
    have hS272v : ∀ x, (x = (a2) ∧ S272.2 91 x = (S260.2 91 ((a2)) + 1)) ∨ (¬ x = (a2) ∧ S272.2 91 x = S260.2 91 x) := pA_at hS272e
    have e41 : S272.2 90 a2 = S260.2 90 a2 := congrFun (hS272.2 90 (by decide)) _
    have e42 : S260.2 90 a2 = S252.2 90 a2 := congrFun (hS260.2 90 (by decide)) _
    have e43 : S252.2 90 a2 = S156h.2 90 a2 := congrFun (hS252.2 90 (by decide)) _
    have e44 : S156h.2 90 a2 = S151.2 90 a2 := congrFun (hS156h.2 90 (by decide)) _
    have e45 : S151.2 90 a2 = S140.2 90 a2 := congrFun (hS151.2 90 (by decide)) _
    have e46 : S140.2 90 a2 = S130.2 90 a2 := congrFun (hS140.2 90 (by decide)) _
    have e47 : S130.2 90 a2 = S1c.2 90 a2 := congrFun (hS130.2 90 (by decide)) _
    have e48 : S1c.2 90 a2 = S.2 90 a2 := congrFun (hS1c.2 90 (by decide)) _
    have e49 : S272.2 91 a2 = ((S260.2 91 ((a2)) + 1)) := by have q := hS272v a2; omega
    have e50 : S260.2 91 a2 = S252.2 91 a2 := congrFun (hS260.2 91 (by decide)) _
    have e51 : S252.2 91 a2 = S156h.2 91 a2 := congrFun (hS252.2 91 (by decide)) _
    have e52 : S156h.2 91 a2 = S151.2 91 a2 := congrFun (hS156h.2 91 (by decide)) _
    have e53 : S151.2 91 a2 = S140.2 91 a2 := congrFun (hS151.2 91 (by decide)) _
    have e54 : S140.2 91 a2 = S130.2 91 a2 := congrFun (hS140.2 91 (by decide)) _
    have e55 : S130.2 91 a2 = S1c.2 91 a2 := congrFun (hS130.2 91 (by decide)) _
    have e56 : S1c.2 91 a2 = S.2 91 a2 := congrFun (hS1c.2 91 (by decide)) _
    have e57 : S272.1 54 51 = S260.1 54 51 := hS272.1 51 (by decide)
    have e58 : S272.1 54 51 = S260.1 54 51 := hS272.1 51 (by decide)
    have e59 : S272.1 54 51 = S260.1 54 51 := hS272.1 51 (by decide)
    have e60 : S272.1 54 56 = S260.1 54 56 := hS272.1 56 (by decide)
    have e61 : S260.1 54 56 = S252.1 54 56 := hS260.1 56 (by decide)
    have e62 : S252.1 54 56 = S156h.1 54 56 := hS252.1 56 (by decide)
    exact hK ((v156_3 + 1)) S272 (Ch.wk (Ch.tr (Ch.tr (Ch.tr (Ch.tr (Ch.tr (Ch.tr (Ch.tr hS1c hS130) hS140) hS151) hS156h) hS252) hS260) hS272) (by decide) (by decide)) (by omega) (by omega) (by
          unfold PA
          intro x
          have e63 : S272.2 92 x = S260.2 92 x := congrFun (hS272.2 92 (by decide)) _
          have e64 : S260.2 92 x = S252.2 92 x := congrFun (hS260.2 92 (by decide)) _
          have e65 : S252.2 92 x = S156h.2 92 x := congrFun (hS252.2 92 (by decide)) _
          have e66 : S156h.2 92 x = S151.2 92 x := congrFun (hS156h.2 92 (by decide)) _
          have e67 : S151.2 92 x = S140.2 92 x := congrFun (hS151.2 92 (by decide)) _
          have e68 : S140.2 92 x = S130.2 92 x := congrFun (hS140.2 92 (by decide)) _
          have e69 := hS130v x
          have e70 : S1c.2 92 x = S.2 92 x := congrFun (hS1c.2 92 (by decide)) _
          have e71 : S272.2 93 x = S260.2 93 x := congrFun (hS272.2 93 (by decide)) _
          have e72 : S260.2 93 x = S252.2 93 x := congrFun (hS260.2 93 (by decide)) _
          have e73 : S252.2 93 x = S156h.2 93 x := congrFun (hS252.2 93 (by decide)) _
          have e74 : S156h.2 93 x = S151.2 93 x := congrFun (hS156h.2 93 (by decide)) _
          have e75 : S151.2 93 x = S140.2 93 x := congrFun (hS151.2 93 (by decide)) _
          have e76 := hS140v x
          have e77 : S130.2 93 x = S1c.2 93 x := congrFun (hS130.2 93 (by decide)) _
          have e78 : S1c.2 93 x = S.2 93 x := congrFun (hS1c.2 93 (by decide)) _
          have e79 : S272.2 94 x = S260.2 94 x := congrFun (hS272.2 94 (by decide)) _
          have e80 : S260.2 94 x = S252.2 94 x := congrFun (hS260.2 94 (by decide)) _
          have e81 : S252.2 94 x = S156h.2 94 x := congrFun (hS252.2 94 (by decide)) _
          have e82 : S156h.2 94 x = S151.2 94 x := congrFun (hS156h.2 94 (by decide)) _
          have e83 := hS151v x
          have e84 : S140.2 94 x = S130.2 94 x := congrFun (hS140.2 94 (by decide)) _
          have e85 : S130.2 94 x = S1c.2 94 x := congrFun (hS130.2 94 (by decide)) _
          have e86 : S1c.2 94 x = S.2 94 x := congrFun (hS1c.2 94 (by decide)) _
          have e87 : S272.2 95 x = S260.2 95 x := congrFun (hS272.2 95 (by decide)) _
          have e88 : S260.2 95 x = S252.2 95 x := congrFun (hS260.2 95 (by decide)) _
          have e89 := hS252v x
          have e90 : S156h.2 95 x = S151.2 95 x := congrFun (hS156h.2 95 (by decide)) _
          have e91 : S151.2 95 x = S140.2 95 x := congrFun (hS151.2 95 (by decide)) _
          have e92 : S140.2 95 x = S130.2 95 x := congrFun (hS140.2 95 (by decide)) _
          have e93 : S130.2 95 x = S1c.2 95 x := congrFun (hS130.2 95 (by decide)) _
          have e94 : S1c.2 95 x = S.2 95 x := congrFun (hS1c.2 95 (by decide)) _
          by_cases hx0 : x < 0
          · exact Or.inl hx0
          by_cases hx : x < S.1 54 51
          · have hp := p7.at (x := x) (by omega) hx
            exact Or.inr (Or.inr ⟨by omega, by omega⟩)
          by_cases hx2 : x = S.1 54 51
          · first
            | exact Or.inr (Or.inl (by omega))
            | exact Or.inr (Or.inr ⟨by omega, by omega⟩)
          · exact Or.inr (Or.inl (by omega))) (by omega) (by
          intro x
          have e95 := hS272v x
          have e96 : S260.2 91 x = S252.2 91 x := congrFun (hS260.2 91 (by decide)) _
          have e97 : S252.2 91 x = S156h.2 91 x := congrFun (hS252.2 91 (by decide)) _
          have e98 : S156h.2 91 x = S151.2 91 x := congrFun (hS156h.2 91 (by decide)) _
          have e99 : S151.2 91 x = S140.2 91 x := congrFun (hS151.2 91 (by decide)) _
          have e100 : S140.2 91 x = S130.2 91 x := congrFun (hS140.2 91 (by decide)) _
          have e101 : S130.2 91 x = S1c.2 91 x := congrFun (hS130.2 91 (by decide)) _
          have e102 : S1c.2 91 x = S.2 91 x := congrFun (hS1c.2 91 (by decide)) _
          omega) (by omega) (by
          unfold PB
          have e103 : S272.1 54 59 = S260.1 54 59 := hS272.1 59 (by decide)
          have e104 : S260.1 54 59 = S252.1 54 59 := hS260.1 59 (by decide)
          have e105 : S252.1 54 59 = S156h.1 54 59 := hS252.1 59 (by decide)
          have e106 : S272.1 54 41 = S260.1 54 41 := hS272.1 41 (by decide)
          have e107 : S260.1 54 41 = S252.1 54 41 := hS260.1 41 (by decide)
          have e108 : S252.1 54 41 = S156h.1 54 41 := hS252.1 41 (by decide)
          have e109 : S156h.1 54 41 = S151.1 54 41 := hS156h.1 41 (by decide)
          have e110 : S151.1 54 41 = S140.1 54 41 := hS151.1 41 (by decide)
          have e111 : S140.1 54 41 = S130.1 54 41 := hS140.1 41 (by decide)
          have e112 : S130.1 54 41 = S1c.1 54 41 := hS130.1 41 (by decide)
          have e113 : S1c.1 54 41 = S.1 54 41 := hS1c.1 41 (by decide)
          have e114 : S272.1 54 56 = S260.1 54 56 := hS272.1 56 (by decide)
          have e115 : S260.1 54 56 = S252.1 54 56 := hS260.1 56 (by decide)
          have e116 : S252.1 54 56 = S156h.1 54 56 := hS252.1 56 (by decide)
          have e117 : S272.1 54 51 = S260.1 54 51 := hS272.1 51 (by decide)
          first
          | exact Or.inl (by omega)
          | exact Or.inr ⟨by omega, by omega, by omega⟩
          | exact (Classical.em (-1 ≤ S156h.1 54 59)).elim (fun hb => Or.inl (by omega)) (fun hb => Or.inr ⟨by omega, by omega, by omega⟩))
  · have hib := i156_2.resolve_left (by omega)
    clear i156_2
    refine ⟨by omega, ?_⟩
    have e118 : S156h.1 54 41 = S151.1 54 41 := hS156h.1 41 (by decide)
    have e119 : S151.1 54 41 = S140.1 54 41 := hS151.1 41 (by decide)
    have e120 : S140.1 54 41 = S130.1 54 41 := hS140.1 41 (by decide)
    have e121 : S130.1 54 41 = S1c.1 54 41 := hS130.1 41 (by decide)
    have e122 : S1c.1 54 41 = S.1 54 41 := hS1c.1 41 (by decide)
    have e123 : S156h.2 84 (v156_3) = S151.2 84 (v156_3) := congrFun (hS156h.2 84 (by decide)) _
    have e124 : S151.2 84 (v156_3) = S140.2 84 (v156_3) := congrFun (hS151.2 84 (by decide)) _
    have e125 : S140.2 84 (v156_3) = S130.2 84 (v156_3) := congrFun (hS140.2 84 (by decide)) _
    have e126 : S130.2 84 (v156_3) = S1c.2 84 (v156_3) := congrFun (hS130.2 84 (by decide)) _
    have e127 : S1c.2 84 (v156_3) = S.2 84 (v156_3) := congrFun (hS1c.2 84 (by decide)) _
    have e128 : S156h.1 54 41 = S151.1 54 41 := hS156h.1 41 (by decide)
    have e129 : S151.1 54 41 = S140.1 54 41 := hS151.1 41 (by decide)
    have e130 : S140.1 54 41 = S130.1 54 41 := hS140.1 41 (by decide)
    have e131 : S130.1 54 41 = S1c.1 54 41 := hS130.1 41 (by decide)
    have e132 : S1c.1 54 41 = S.1 54 41 := hS1c.1 41 (by decide)
    refine tX11_docAt (by omega) (fun r167 n167_0 n167_1 n167_2 => ?_)
    refine ⟨by omega, ?_⟩
    refine ⟨by omega, ?_⟩
    refine ⟨fun h172 => ?_, fun h172 => ?_⟩
    · unfold wX11_attribute_234
      intro q133
      refine ⟨by omega, by omega, ?_⟩
      intro q134
      have e135 : S156h.2 94 (S1c.1 54 51) = S151.2 94 (S1c.1 54 51) := congrFun (hS156h.2 94 (by decide)) _
      have e136 : S151.2 94 (S1c.1 54 51) = (S140.1 54 56) := by have q := hS151v (S1c.1 54 51); omega
      have e137 : S140.2 94 (S1c.1 54 51) = S130.2 94 (S1c.1 54 51) := congrFun (hS140.2 94 (by decide)) _
      have e138 : S130.2 94 (S1c.1 54 51) = S1c.2 94 (S1c.1 54 51) := congrFun (hS130.2 94 (by decide)) _
      have e139 : S1c.2 94 (S1c.1 54 51) = S.2 94 (S1c.1 54 51) := congrFun (hS1c.2 94 (by decide)) _
      refine ⟨by omega, by omega, ?_⟩
      refine ⟨by omega, ?_⟩
      intro S252 hS252e
      have hS252 : Ch [] [95] S156h S252 := Ch_A hS252e
      have hS252v : ∀ x, (x = S1c.1 54 51 ∧ S252.2 95 x = (S156h.1 54 56 - S156h.2 94 (S1c.1 54 51))) ∨ (¬ x = S1c.1 54 51 ∧ S252.2 95 x = S156h.2 95 x) := pA_at hS252e
      intro q140
      have e141 : S252.1 54 51 = S156h.1 54 51 := hS252.1 51 (by decide)
      have e142 : S156h.1 54 51 = S151.1 54 51 := hS156h.1 51 (by decide)
      have e143 : S151.1 54 51 = S140.1 54 51 := hS151.1 51 (by decide)
      have e144 : S140.1 54 51 = S130.1 54 51 := hS140.1 51 (by decide)
      have e145 : S130.1 54 51 = S1c.1 54 51 := hS130.1 51 (by decide)
      have e146 : S1c.1 54 51 = S.1 54 51 := hS1c.1 51 (by decide)
      refine ⟨by omega, ?_⟩
      intro S260 hS260e
      have hS260 : Ch [51] [] S252 S260 := Ch_I hS260e
      have hS260v : S260.1 54 51 = (S252.1 54 51 + 1) := pI_at hS260e
      refine ⟨by omega, by omega, ?_⟩
      intro q147
      have e148 : S260.2 91 ((a2)) = S252.2 91 ((a2)) := congrFun (hS260.2 91 (by decide)) _
      have e149 : S252.2 91 ((a2)) = S156h.2 91 ((a2)) := congrFun (hS252.2 91 (by decide)) _
      have e150 : S156h.2 91 ((a2)) = S151.2 91 ((a2)) := congrFun (hS156h.2 91 (by decide)) _
      have e151 : S151.2 91 ((a2)) = S140.2 91 ((a2)) := congrFun (hS151.2 91 (by decide)) _
      have e152 : S140.2 91 ((a2)) = S130.2 91 ((a2)) := congrFun (hS140.2 91 (by decide)) _
      have e153 : S130.2 91 ((a2)) = S1c.2 91 ((a2)) := congrFun (hS130.2 91 (by decide)) _
      have e154 : S1c.2 91 ((a2)) = S.2 91 ((a2)) := congrFun (hS1c.2 91 (by decide)) _
      refine ⟨by omega, by omega, ?_⟩
      refine ⟨by omega, ?_⟩
      intro S272 hS272e
      have hS272 : Ch [] [91] S260 S272 := Ch_A hS272e
      have hS272v : ∀ x, (x = (a2) ∧ S272.2 91 x = (S260.2 91 ((a2)) + 1)) ∨ (¬ x = (a2) ∧ S272.2 91 x = S260.2 91 x) := pA_at hS272e
      have e155 : S272.2 90 a2 = S260.2 90 a2 := congrFun (hS272.2 90 (by decide)) _
      have e156 : S260.2 90 a2 = S252.2 90 a2 := congrFun (hS260.2 90 (by decide)) _
      have e157 : S252.2 90 a2 = S156h.2 90 a2 := congrFun (hS252.2 90 (by decide)) _
      have e158 : S156h.2 90 a2 = S151.2 90 a2 := congrFun (hS156h.2 90 (by decide)) _
      have e159 : S151.2 90 a2 = S140.2 90 a2 := congrFun (hS151.2 90 (by decide)) _
      have e160 : S140.2 90 a2 = S130.2 90 a2 := congrFun (hS140.2 90 (by decide)) _
      have e161 : S130.2 90 a2 = S1c.2 90 a2 := congrFun (hS130.2 90 (by decide)) _
      have e162 : S1c.2 90 a2 = S.2 90 a2 := congrFun (hS1c.2 90 (by decide)) _
      have e163 : S272.2 91 a2 = ((S260.2 91 ((a2)) + 1)) := by have q := hS272v a2; omega
      have e164 : S260.2 91 a2 = S252.2 91 a2 := congrFun (hS260.2 91 (by decide)) _
      have e165 : S252.2 91 a2 = S156h.2 91 a2 := congrFun (hS252.2 91 (by decide)) _
      have e166 : S156h.2 91 a2 = S151.2 91 a2 := congrFun (hS156h.2 91 (by decide)) _
      have e167 : S151.2 91 a2 = S140.2 91 a2 := congrFun (hS151.2 91 (by decide)) _
      have e168 : S140.2 91 a2 = S130.2 91 a2 := congrFun (hS140.2 91 (by decide)) _
      have e169 : S130.2 91 a2 = S1c.2 91 a2 := congrFun (hS130.2 91 (by decide)) _
      have e170 : S1c.2 91 a2 = S.2 91 a2 := congrFun (hS1c.2 91 (by decide)) _
      have e171 : S272.1 54 51 = S260.1 54 51 := hS272.1 51 (by decide)
      have e172 : S272.1 54 51 = S260.1 54 51 := hS272.1 51 (by decide)
      have e173 : S272.1 54 51 = S260.1 54 51 := hS272.1 51 (by decide)
      have e174 : S272.1 54 56 = S260.1 54 56 := hS272.1 56 (by decide)
      have e175 : S260.1 54 56 = S252.1 54 56 := hS260.1 56 (by decide)
      have e176 : S252.1 54 56 = S156h.1 54 56 := hS252.1 56 (by decide)
      exact hK ((v156_3 + 1)) S272 (Ch.wk (Ch.tr (Ch.tr (Ch.tr (Ch.tr (Ch.tr (Ch.tr (Ch.tr hS1c hS130) hS140) hS151) hS156h) hS252) hS260) hS272) (by decide) (by decide)) (by omega) (by omega) (by
            unfold PA
            intro x
            have e177 : S272.2 92 x = S260.2 92 x := congrFun (hS272.2 92 (by decide)) _
            have e178 : S260.2 92 x = S252.2 92 x := congrFun (hS260.2 92 (by decide)) _
            have e179 : S252.2 92 x = S156h.2 92 x := congrFun (hS252.2 92 (by decide)) _
            have e180 : S156h.2 92 x = S151.2 92 x := congrFun (hS156h.2 92 (by decide)) _
            have e181 : S151.2 92 x = S140.2 92 x := congrFun (hS151.2 92 (by decide)) _
            have e182 : S140.2 92 x = S130.2 92 x := congrFun (hS140.2 92 (by decide)) _
            have e183 := hS130v x
            have e184 : S1c.2 92 x = S.2 92 x := congrFun (hS1c.2 92 (by decide)) _
            have e185 : S272.2 93 x = S260.2 93 x := congrFun (hS272.2 93 (by decide)) _
            have e186 : S260.2 93 x = S252.2 93 x := congrFun (hS260.2 93 (by decide)) _
            have e187 : S252.2 93 x = S156h.2 93 x := congrFun (hS252.2 93 (by decide)) _
            have e188 : S156h.2 93 x = S151.2 93 x := congrFun (hS156h.2 93 (by decide)) _
            have e189 : S151.2 93 x = S140.2 93 x := congrFun (hS151.2 93 (by decide)) _
            have e190 := hS140v x
            have e191 : S130.2 93 x = S1c.2 93 x := congrFun (hS130.2 93 (by decide)) _
            have e192 : S1c.2 93 x = S.2 93 x := congrFun (hS1c.2 93 (by decide)) _
            have e193 : S272.2 94 x = S260.2 94 x := congrFun (hS272.2 94 (by decide)) _
            have e194 : S260.2 94 x = S252.2 94 x := congrFun (hS260.2 94 (by decide)) _
            have e195 : S252.2 94 x = S156h.2 94 x := congrFun (hS252.2 94 (by decide)) _
            have e196 : S156h.2 94 x = S151.2 94 x := congrFun (hS156h.2 94 (by decide)) _
            have e197 := hS151v x
            have e198 : S140.2 94 x = S130.2 94 x := congrFun (hS140.2 94 (by decide)) _
            have e199 : S130.2 94 x = S1c.2 94 x := congrFun (hS130.2 94 (by decide)) _
            have e200 : S1c.2 94 x = S.2 94 x := congrFun (hS1c.2 94 (by decide)) _
            have e201 : S272.2 95 x = S260.2 95 x := congrFun (hS272.2 95 (by decide)) _
            have e202 : S260.2 95 x = S252.2 95 x := congrFun (hS260.2 95 (by decide)) _
            have e203 := hS252v x
            have e204 : S156h.2 95 x = S151.2 95 x := congrFun (hS156h.2 95 (by decide)) _
            have e205 : S151.2 95 x = S140.2 95 x := congrFun (hS151.2 95 (by decide)) _
            have e206 : S140.2 95 x = S130.2 95 x := congrFun (hS140.2 95 (by decide)) _
            have e207 : S130.2 95 x = S1c.2 95 x := congrFun (hS130.2 95 (by decide)) _
            have e208 : S1c.2 95 x = S.2 95 x := congrFun (hS1c.2 95 (by decide)) _
            by_cases hx0 : x < 0
            · exact Or.inl hx0
            by_cases hx : x < S.1 54 51
            · have hp := p7.at (x := x) (by omega) hx
              exact Or.inr (Or.inr ⟨by omega, by omega⟩)
            by_cases hx2 : x = S.1 54 51
            · first
              | exact Or.inr (Or.inl (by omega))
              | exact Or.inr (Or.inr ⟨by omega, by omega⟩)
            · exact Or.inr (Or.inl (by omega))) (by omega) (by
            intro x
            have e209 := hS272v x
            have e210 : S260.2 91 x = S252.2 91 x := congrFun (hS260.2 91 (by decide)) _
            have e211 : S252.2 91 x = S156h.2 91 x := congrFun (hS252.2 91 (by decide)) _
            have e212 : S156h.2 91 x = S151.2 91 x := congrFun (hS156h.2 91 (by decide)) _
            have e213 : S151.2 91 x = S140.2 91 x := congrFun (hS151.2 91 (by decide)) _
            have e214 : S140.2 91 x = S130.2 91 x := congrFun (hS140.2 91 (by decide)) _
            have e215 : S130.2 91 x = S1c.2 91 x := congrFun (hS130.2 91 (by decide)) _
            have e216 : S1c.2 91 x = S.2 91 x := congrFun (hS1c.2 91 (by decide)) _
            omega) (by omega) (by
            unfold PB
            have e217 : S272.1 54 59 = S260.1 54 59 := hS272.1 59 (by decide)
            have e218 : S260.1 54 59 = S252.1 54 59 := hS260.1 59 (by decide)
            have e219 : S252.1 54 59 = S156h.1 54 59 := hS252.1 59 (by decide)
            have e220 : S272.1 54 41 = S260.1 54 41 := hS272.1 41 (by decide)
            have e221 : S260.1 54 41 = S252.1 54 41 := hS260.1 41 (by decide)
            have e222 : S252.1 54 41 = S156h.1 54 41 := hS252.1 41 (by decide)
            have e223 : S156h.1 54 41 = S151.1 54 41 := hS156h.1 41 (by decide)
            have e224 : S151.1 54 41 = S140.1 54 41 := hS151.1 41 (by decide)
            have e225 : S140.1 54 41 = S130.1 54 41 := hS140.1 41 (by decide)
            have e226 : S130.1 54 41 = S1c.1 54 41 := hS130.1 41 (by decide)
            have e227 : S1c.1 54 41 = S.1 54 41 := hS1c.1 41 (by decide)
            have e228 : S272.1 54 56 = S260.1 54 56 := hS272.1 56 (by decide)
            have e229 : S260.1 54 56 = S252.1 54 56 := hS260.1 56 (by decide)
            have e230 : S252.1 54 56 = S156h.1 54 56 := hS252.1 56 (by decide)
            have e231 : S272.1 54 51 = S260.1 54 51 := hS272.1 51 (by decide)
            first
            | exact Or.inl (by omega)
            | exact Or.inr ⟨by omega, by omega, by omega⟩
            | exact (Classical.em (-1 ≤ S156h.1 54 59)).elim (fun hb => Or.inl (by omega)) (fun hb => Or.inr ⟨by omega, by omega, by omega⟩))
    · have e232 : S156h.1 54 41 = S151.1 54 41 := hS156h.1 41 (by decide)
      have e233 : S151.1 54 41 = S140.1 54 41 := hS151.1 41 (by decide)
      have e234 : S140.1 54 41 = S130.1 54 41 := hS140.1 41 (by decide)
      have e235 : S130.1 54 41 = S1c.1 54 41 := hS130.1 41 (by decide)
      have e236 : S1c.1 54 41 = S.1 54 41 := hS1c.1 41 (by decide)
      have e237 : S156h.2 84 (v156_3) = S151.2 84 (v156_3) := congrFun (hS156h.2 84 (by decide)) _
      have e238 : S151.2 84 (v156_3) = S140.2 84 (v156_3) := congrFun (hS151.2 84 (by decide)) _
      have e239 : S140.2 84 (v156_3) = S130.2 84 (v156_3) := congrFun (hS140.2 84 (by decide)) _
      have e240 : S130.2 84 (v156_3) = S1c.2 84 (v156_3) := congrFun (hS130.2 84 (by decide)) _
      have e241 : S1c.2 84 (v156_3) = S.2 84 (v156_3) := congrFun (hS1c.2 84 (by decide)) _
      have e242 : S156h.1 54 41 = S151.1 54 41 := hS156h.1 41 (by decide)
      have e243 : S151.1 54 41 = S140.1 54 41 := hS151.1 41 (by decide)
      have e244 : S140.1 54 41 = S130.1 54 41 := hS140.1 41 (by decide)
      have e245 : S130.1 54 41 = S1c.1 54 41 := hS130.1 41 (by decide)
      have e246 : S1c.1 54 41 = S.1 54 41 := hS1c.1 41 (by decide)
      refine tX11_docAt (by omega) (fun r177 n177_0 n177_1 n177_2 => ?_)
      refine ⟨by omega, ?_⟩
      refine ⟨fun h184 => ?_, fun h184 => ?_⟩
      · unfold wX11_attribute_194
        refine ⟨by omega, ?_⟩
        refine tX11_fail (by omega) (fun r196 S196 hS196 n196_0 => ?_)
        unfold wX11_attribute_231
        have e247 : S196.1 54 56 = S156h.1 54 56 := hS196.1 56 (by decide)
        have e248 : S196.1 54 56 = S156h.1 54 56 := hS196.1 56 (by decide)
        exact ⟨⟨(Ch.wk (Ch.tr hS156h hS196) (by decide) (by decide)), rfl, rfl, rfl, by omega, by omega, by omega, by omega⟩, show (2 * (3010 - v156_3) + min 1 (max 0 (-1 - (S196.1 54 59)))).toNat < (2 * (3010 - v156_3) + min 1 (max 0 (-1 - (S156h.1 54 59)))).toNat by omega⟩
      · refine ⟨fun h191 => ?_, fun h191 => ?_⟩
        · refine ⟨fun h206 => ?_, fun h206 => ?_⟩
          · refine tX11_keep (by omega) (by omega) (fun r225 S225 hS225 n225_0 => ?_)
            unfold wX11_attribute_231
            have e249 : S225.1 54 59 = S156h.1 54 59 := hS225.1 59 (by decide)
            have e250 : S225.1 54 59 = S156h.1 54 59 := hS225.1 59 (by decide)
            exact ⟨⟨(Ch.wk (Ch.tr hS156h hS225) (by decide) (by decide)), rfl, rfl, rfl, by omega, by omega, by omega, by omega⟩, show (2 * (3010 - ((v156_3 + 1))) + min 1 (max 0 (-1 - (S225.1 54 59)))).toNat < (2 * (3010 - v156_3) + min 1 (max 0 (-1 - (S156h.1 54 59)))).toNat by omega⟩
          · have e251 : S156h.1 54 41 = S151.1 54 41 := hS156h.1 41 (by decide)
            have e252 : S151.1 54 41 = S140.1 54 41 := hS151.1 41 (by decide)
            have e253 : S140.1 54 41 = S130.1 54 41 := hS140.1 41 (by decide)
            have e254 : S130.1 54 41 = S1c.1 54 41 := hS130.1 41 (by decide)
            have e255 : S1c.1 54 41 = S.1 54 41 := hS1c.1 41 (by decide)
            have e256 : S156h.1 54 41 = S151.1 54 41 := hS156h.1 41 (by decide)
            have e257 : S151.1 54 41 = S140.1 54 41 := hS151.1 41 (by decide)
            have e258 : S140.1 54 41 = S130.1 54 41 := hS140.1 41 (by decide)
            have e259 : S130.1 54 41 = S1c.1 54 41 := hS130.1 41 (by decide)
            have e260 : S1c.1 54 41 = S.1 54 41 := hS1c.1 41 (by decide)
            have e261 : S156h.1 54 41 = S151.1 54 41 := hS156h.1 41 (by decide)
            have e262 : S151.1 54 41 = S140.1 54 41 := hS151.1 41 (by decide)
            have e263 : S140.1 54 41 = S130.1 54 41 := hS140.1 41 (by decide)
            have e264 : S130.1 54 41 = S1c.1 54 41 := hS130.1 41 (by decide)
            have e265 : S1c.1 54 41 = S.1 54 41 := hS1c.1 41 (by decide)
            refine tX11_reference (by omega) (by omega) (by omega) (by omega) (by omega) (fun r213 S213 hS213 n213_0 n213_1 n213_2 n213_3 => ?_)
            unfold wX11_attribute_231
            exact ⟨⟨(Ch.wk (Ch.tr hS156h hS213) (by decide) (by decide)), rfl, rfl, rfl, by omega, by omega, by omega, by omega⟩, show (2 * (3010 - r213) + min 1 (max 0 (-1 - (S213.1 54 59)))).toNat < (2 * (3010 - v156_3) + min 1 (max 0 (-1 - (S156h.1 54 59)))).toNat by omega⟩
        · unfold wX11_attribute_194
          refine ⟨by omega, ?_⟩
          refine tX11_fail (by omega) (fun r196 S196 hS196 n196_0 => ?_)
          unfold wX11_attribute_231
          have e266 : S196.1 54 56 = S156h.1 54 56 := hS196.1 56 (by decide)
          have e267 : S196.1 54 56 = S156h.1 54 56 := hS196.1 56 (by decide)
          exact ⟨⟨(Ch.wk (Ch.tr hS156h hS196) (by decide) (by decide)), rfl, rfl, rfl, by omega, by omega, by omega, by omega⟩, show (2 * (3010 - v156_3) + min 1 (max 0 (-1 - (S196.1 54 59)))).toNat < (2 * (3010 - v156_3) + min 1 (max 0 (-1 - (S156h.1 54 59)))).toNat by omega⟩
set_option maxRecDepth 100000 in
set_option maxHeartbeats 4000000 in
theorem tX11_attribute {a1 a2 : Int} {S : St} {K : Int → St → Prop} (p1 : 0 ≤ a1) (p2 : a1 < (S.1 54 41)) (p3 : (S.1 54 41) ≤ 3000) (p4 : NB ((S.2 84) a1)) (p5 : iv 0 199 a2) (p6 : 5 * (S.1 54 51) + 1 ≤ a1) (p7 : PA S) (p8 : (S.1 54 56) ≤ a1) (p9 : (S.2 90) a2 + (S.2 91) a2 ≤ (S.1 54 51)) (p10 : 0 ≤ (S.2 90) a2) (hK : ∀ (r : Int) (S' : St), Ch [51, 56, 59] [91, 92, 93, 94, 95, 96, 97] S S' → (a1 ≤ r) → (r ≤ 3010) → (PA S') → ((S'.2 90) a2 + (S'.2 91) a2 ≤ (S'.1 54 51)) → (∀ x, x = a2 ∨ (S'.2 91) x = (S.2 91) x) → ((S.1 54 51) ≤ (S'.1 54 51)) → (PB S' r) → K r S') : wX11_attribute a1 a2 S K := by
  unfold wX11_attribute
  intro g1 g2
  refine tX11_nameEnd (by omega) (by omega) (by omega) (fun r2 n2_0 n2_1 n2_2 => ?_)
  have hne := n2_2.resolve_right (fun q => q ⟨p2, p4⟩)
  clear n2_2
  refine ⟨by omega, by omega, ?_⟩
  intro q1
  intro x12 hx12
  subst hx12
  unfold wX11_attribute_14
  refine ⟨fun u1 u2 u3 u4 Sx => Ch [59] [] S Sx ∧ a1 = u1 ∧ a2 = u2 ∧ r2 = u3 ∧ (0 ≤ u4) ∧ (u4 ≤ 600), fun u1 u2 u3 u4 Sx => (601 - u4).toNat, ?_, fun v14_1 v14_2 v14_3 v14_4 S14h hI => ?_⟩
  · exact ⟨Ch.re, rfl, rfl, rfl, by omega, by omega⟩
  obtain ⟨hS14h, rfl, rfl, rfl, i14_0, i14_1⟩ := hI
  unfold wX11_attribute_14'
  intro q2
  have e3 : S14h.1 54 51 = S.1 54 51 := hS14h.1 51 (by decide)
  refine ⟨by omega, ?_⟩
  refine ⟨fun h20 => ?_, fun h20 => ?_⟩
  · refine ⟨by omega, ?_⟩
    have e4 : S14h.1 54 41 = S.1 54 41 := hS14h.1 41 (by decide)
    have e5 : S14h.2 84 ((r2 + 1)) = S.2 84 ((r2 + 1)) := congrFun (hS14h.2 84 (by decide)) _
    have e6 : S14h.1 54 41 = S.1 54 41 := hS14h.1 41 (by decide)
    refine tX11_docAt (by omega) (fun r63 n63_0 n63_1 n63_2 => ?_)
    intro q7
    refine ⟨fun h74 => ?_, fun h74 => ?_⟩
    · unfold wX11_attribute_87
      refine ⟨by omega, ?_⟩
      refine tX11_fail (by omega) (fun r89 S89 hS89 n89_0 => ?_)
      have e8 : S89.2 90 a2 = S14h.2 90 a2 := congrFun (hS89.2 90 (by decide)) _
      have e9 : S14h.2 90 a2 = S.2 90 a2 := congrFun (hS14h.2 90 (by decide)) _
      have e10 : S89.2 91 a2 = S14h.2 91 a2 := congrFun (hS89.2 91 (by decide)) _
      have e11 : S14h.2 91 a2 = S.2 91 a2 := congrFun (hS14h.2 91 (by decide)) _
      have e12 : S89.1 54 51 = S14h.1 54 51 := hS89.1 51 (by decide)
      have e13 : S14h.1 54 51 = S.1 54 51 := hS14h.1 51 (by decide)
      have e14 : S89.1 54 51 = S14h.1 54 51 := hS89.1 51 (by decide)
      have e15 : S14h.1 54 51 = S.1 54 51 := hS14h.1 51 (by decide)
      have e16 : S89.1 54 51 = S14h.1 54 51 := hS89.1 51 (by decide)
      have e17 : S14h.1 54 51 = S.1 54 51 := hS14h.1 51 (by decide)
      have e18 : S89.1 54 56 = S14h.1 54 56 := hS89.1 56 (by decide)
      have e19 : S14h.1 54 56 = S.1 54 56 := hS14h.1 56 (by decide)
      exact hK (r2) S89 (Ch.wk (Ch.tr hS14h hS89) (by decide) (by decide)) (by omega) (by omega) (by
            unfold PA
            intro x
            have e20 : S89.2 92 x = S14h.2 92 x := congrFun (hS89.2 92 (by decide)) _
            have e21 : S14h.2 92 x = S.2 92 x := congrFun (hS14h.2 92 (by decide)) _
            have e22 : S89.2 93 x = S14h.2 93 x := congrFun (hS89.2 93 (by decide)) _
            have e23 : S14h.2 93 x = S.2 93 x := congrFun (hS14h.2 93 (by decide)) _
            have e24 : S89.2 94 x = S14h.2 94 x := congrFun (hS89.2 94 (by decide)) _
            have e25 : S14h.2 94 x = S.2 94 x := congrFun (hS14h.2 94 (by decide)) _
            have e26 : S89.2 95 x = S14h.2 95 x := congrFun (hS89.2 95 (by decide)) _
            have e27 : S14h.2 95 x = S.2 95 x := congrFun (hS14h.2 95 (by decide)) _
            by_cases hx0 : x < 0
            · exact Or.inl hx0
            by_cases hx : x < S.1 54 51
            · have hp := p7.at (x := x) (by omega) hx
              exact Or.inr (Or.inr ⟨by omega, by omega⟩)
            by_cases hx2 : x = S.1 54 51
            · first
              | exact Or.inr (Or.inl (by omega))
              | exact Or.inr (Or.inr ⟨by omega, by omega⟩)
            · exact Or.inr (Or.inl (by omega))) (by omega) (by
            intro x
            have e28 : S89.2 91 x = S14h.2 91 x := congrFun (hS89.2 91 (by decide)) _
            have e29 : S14h.2 91 x = S.2 91 x := congrFun (hS14h.2 91 (by decide)) _
            omega) (by omega) (by
            unfold PB
            have e30 : S89.1 54 41 = S14h.1 54 41 := hS89.1 41 (by decide)
            have e31 : S14h.1 54 41 = S.1 54 41 := hS14h.1 41 (by decide)
            have e32 : S89.1 54 56 = S14h.1 54 56 := hS89.1 56 (by decide)
            have e33 : S14h.1 54 56 = S.1 54 56 := hS14h.1 56 (by decide)
            have e34 : S89.1 54 51 = S14h.1 54 51 := hS89.1 51 (by decide)
            have e35 : S14h.1 54 51 = S.1 54 51 := hS14h.1 51 (by decide)
            first
            | exact Or.inl (by omega)
            | exact Or.inr ⟨by omega, by omega, by omega⟩
            | exact (Classical.em (-1 ≤ S156h.1 54 59)).elim (fun hb => Or.inl (by omega)) (fun hb => Or.inr ⟨by omega, by omega, by omega⟩))
    · refine ⟨by omega, ?_⟩
      have e36 : S14h.1 54 41 = S.1 54 41 := hS14h.1 41 (by decide)
      have e37 : S14h.2 84 (r2) = S.2 84 (r2) := congrFun (hS14h.2 84 (by decide)) _
      have e38 : S14h.1 54 41 = S.1 54 41 := hS14h.1 41 (by decide)
      refine tX11_docAt (by omega) (fun r79 n79_0 n79_1 n79_2 => ?_)
      refine ⟨by omega, ?_⟩
      refine ⟨fun h84 => ?_, fun h84 => ?_⟩
      · refine ⟨by omega, ?_⟩
        refine ⟨fun h98 => ?_, fun h98 => ?_⟩
        · exact tX11_attribute_117 g1 g2 p1 p2 p3 p4 p5 p6 p7 p8 p9 p10 (Ch.wk hS14h (by decide) (by decide)) (by omega) (by omega) (by omega) (by omega) (by omega) (by omega) hK
        · refine ⟨fun h105 => ?_, fun h105 => ?_⟩
          · exact tX11_attribute_117 g1 g2 p1 p2 p3 p4 p5 p6 p7 p8 p9 p10 (Ch.wk hS14h (by decide) (by decide)) (by omega) (by omega) (by omega) (by omega) (by omega) (by omega) hK
          · refine tX11_fail (by omega) (fun r112 S112 hS112 n112_0 => ?_)
            have e39 : S112.2 90 a2 = S14h.2 90 a2 := congrFun (hS112.2 90 (by decide)) _
            have e40 : S14h.2 90 a2 = S.2 90 a2 := congrFun (hS14h.2 90 (by decide)) _
            have e41 : S112.2 91 a2 = S14h.2 91 a2 := congrFun (hS112.2 91 (by decide)) _
            have e42 : S14h.2 91 a2 = S.2 91 a2 := congrFun (hS14h.2 91 (by decide)) _
            have e43 : S112.1 54 51 = S14h.1 54 51 := hS112.1 51 (by decide)
            have e44 : S14h.1 54 51 = S.1 54 51 := hS14h.1 51 (by decide)
            have e45 : S112.1 54 51 = S14h.1 54 51 := hS112.1 51 (by decide)
            have e46 : S14h.1 54 51 = S.1 54 51 := hS14h.1 51 (by decide)
            have e47 : S112.1 54 51 = S14h.1 54 51 := hS112.1 51 (by decide)
            have e48 : S14h.1 54 51 = S.1 54 51 := hS14h.1 51 (by decide)
            have e49 : S112.1 54 56 = S14h.1 54 56 := hS112.1 56 (by decide)
            have e50 : S14h.1 54 56 = S.1 54 56 := hS14h.1 56 (by decide)
            exact hK (r2) S112 (Ch.wk (Ch.tr hS14h hS112) (by decide) (by decide)) (by omega) (by omega) (by
                  unfold PA
                  intro x
                  have e51 : S112.2 92 x = S14h.2 92 x := congrFun (hS112.2 92 (by decide)) _
                  have e52 : S14h.2 92 x = S.2 92 x := congrFun (hS14h.2 92 (by decide)) _
                  have e53 : S112.2 93 x = S14h.2 93 x := congrFun (hS112.2 93 (by decide)) _
                  have e54 : S14h.2 93 x = S.2 93 x := congrFun (hS14h.2 93 (by decide)) _
                  have e55 : S112.2 94 x = S14h.2 94 x := congrFun (hS112.2 94 (by decide)) _
                  have e56 : S14h.2 94 x = S.2 94 x := congrFun (hS14h.2 94 (by decide)) _
                  have e57 : S112.2 95 x = S14h.2 95 x := congrFun (hS112.2 95 (by decide)) _
                  have e58 : S14h.2 95 x = S.2 95 x := congrFun (hS14h.2 95 (by decide)) _
                  by_cases hx0 : x < 0
                  · exact Or.inl hx0
                  by_cases hx : x < S.1 54 51
                  · have hp := p7.at (x := x) (by omega) hx
                    exact Or.inr (Or.inr ⟨by omega, by omega⟩)
                  by_cases hx2 : x = S.1 54 51
                  · first
                    | exact Or.inr (Or.inl (by omega))
                    | exact Or.inr (Or.inr ⟨by omega, by omega⟩)
                  · exact Or.inr (Or.inl (by omega))) (by omega) (by
                  intro x
                  have e59 : S112.2 91 x = S14h.2 91 x := congrFun (hS112.2 91 (by decide)) _
                  have e60 : S14h.2 91 x = S.2 91 x := congrFun (hS14h.2 91 (by decide)) _
                  omega) (by omega) (by
                  unfold PB
                  have e61 : S112.1 54 41 = S14h.1 54 41 := hS112.1 41 (by decide)
                  have e62 : S14h.1 54 41 = S.1 54 41 := hS14h.1 41 (by decide)
                  have e63 : S112.1 54 56 = S14h.1 54 56 := hS112.1 56 (by decide)
                  have e64 : S14h.1 54 56 = S.1 54 56 := hS14h.1 56 (by decide)
                  have e65 : S112.1 54 51 = S14h.1 54 51 := hS112.1 51 (by decide)
                  have e66 : S14h.1 54 51 = S.1 54 51 := hS14h.1 51 (by decide)
                  first
                  | exact Or.inl (by omega)
                  | exact Or.inr ⟨by omega, by omega, by omega⟩
                  | exact (Classical.em (-1 ≤ S156h.1 54 59)).elim (fun hb => Or.inl (by omega)) (fun hb => Or.inr ⟨by omega, by omega, by omega⟩))
      · unfold wX11_attribute_87
        refine ⟨by omega, ?_⟩
        refine tX11_fail (by omega) (fun r89 S89 hS89 n89_0 => ?_)
        have e67 : S89.2 90 a2 = S14h.2 90 a2 := congrFun (hS89.2 90 (by decide)) _
        have e68 : S14h.2 90 a2 = S.2 90 a2 := congrFun (hS14h.2 90 (by decide)) _
        have e69 : S89.2 91 a2 = S14h.2 91 a2 := congrFun (hS89.2 91 (by decide)) _
        have e70 : S14h.2 91 a2 = S.2 91 a2 := congrFun (hS14h.2 91 (by decide)) _
        have e71 : S89.1 54 51 = S14h.1 54 51 := hS89.1 51 (by decide)
        have e72 : S14h.1 54 51 = S.1 54 51 := hS14h.1 51 (by decide)
        have e73 : S89.1 54 51 = S14h.1 54 51 := hS89.1 51 (by decide)
        have e74 : S14h.1 54 51 = S.1 54 51 := hS14h.1 51 (by decide)
        have e75 : S89.1 54 51 = S14h.1 54 51 := hS89.1 51 (by decide)
        have e76 : S14h.1 54 51 = S.1 54 51 := hS14h.1 51 (by decide)
        have e77 : S89.1 54 56 = S14h.1 54 56 := hS89.1 56 (by decide)
        have e78 : S14h.1 54 56 = S.1 54 56 := hS14h.1 56 (by decide)
        exact hK (r2) S89 (Ch.wk (Ch.tr hS14h hS89) (by decide) (by decide)) (by omega) (by omega) (by
              unfold PA
              intro x
              have e79 : S89.2 92 x = S14h.2 92 x := congrFun (hS89.2 92 (by decide)) _
              have e80 : S14h.2 92 x = S.2 92 x := congrFun (hS14h.2 92 (by decide)) _
              have e81 : S89.2 93 x = S14h.2 93 x := congrFun (hS89.2 93 (by decide)) _
              have e82 : S14h.2 93 x = S.2 93 x := congrFun (hS14h.2 93 (by decide)) _
              have e83 : S89.2 94 x = S14h.2 94 x := congrFun (hS89.2 94 (by decide)) _
              have e84 : S14h.2 94 x = S.2 94 x := congrFun (hS14h.2 94 (by decide)) _
              have e85 : S89.2 95 x = S14h.2 95 x := congrFun (hS89.2 95 (by decide)) _
              have e86 : S14h.2 95 x = S.2 95 x := congrFun (hS14h.2 95 (by decide)) _
              by_cases hx0 : x < 0
              · exact Or.inl hx0
              by_cases hx : x < S.1 54 51
              · have hp := p7.at (x := x) (by omega) hx
                exact Or.inr (Or.inr ⟨by omega, by omega⟩)
              by_cases hx2 : x = S.1 54 51
              · first
                | exact Or.inr (Or.inl (by omega))
                | exact Or.inr (Or.inr ⟨by omega, by omega⟩)
              · exact Or.inr (Or.inl (by omega))) (by omega) (by
              intro x
              have e87 : S89.2 91 x = S14h.2 91 x := congrFun (hS89.2 91 (by decide)) _
              have e88 : S14h.2 91 x = S.2 91 x := congrFun (hS14h.2 91 (by decide)) _
              omega) (by omega) (by
              unfold PB
              have e89 : S89.1 54 41 = S14h.1 54 41 := hS89.1 41 (by decide)
              have e90 : S14h.1 54 41 = S.1 54 41 := hS14h.1 41 (by decide)
              have e91 : S89.1 54 56 = S14h.1 54 56 := hS89.1 56 (by decide)
              have e92 : S14h.1 54 56 = S.1 54 56 := hS14h.1 56 (by decide)
              have e93 : S89.1 54 51 = S14h.1 54 51 := hS89.1 51 (by decide)
              have e94 : S14h.1 54 51 = S.1 54 51 := hS14h.1 51 (by decide)
              first
              | exact Or.inl (by omega)
              | exact Or.inr ⟨by omega, by omega, by omega⟩
              | exact (Classical.em (-1 ≤ S156h.1 54 59)).elim (fun hb => Or.inl (by omega)) (fun hb => Or.inr ⟨by omega, by omega, by omega⟩))
  · have hpa := p7.at (x := v14_4) (by omega) (by omega)
    refine ⟨by omega, by omega, ?_⟩
    intro q95
    have e96 : S14h.2 92 (v14_4) = S.2 92 (v14_4) := congrFun (hS14h.2 92 (by decide)) _
    refine ⟨by omega, by omega, ?_⟩
    intro q97
    have e98 : S14h.2 93 (v14_4) = S.2 93 (v14_4) := congrFun (hS14h.2 93 (by decide)) _
    refine ⟨by omega, ?_⟩
    refine ⟨by omega, ?_⟩
    refine tX11_sameNames (by omega) (by omega) (by omega) (by omega) (by omega) (fun r42 n42_0 => ?_)
    refine ⟨by omega, ?_⟩
    refine ⟨fun h45 => ?_, fun h45 => ?_⟩
    · unfold wX11_attribute_53
      exact ⟨⟨(Ch.wk hS14h (by decide) (by decide)), rfl, rfl, rfl, by omega, by omega⟩, show (601 - ((v14_4 + 1))).toNat < (601 - v14_4).toNat by omega⟩
    · refine tX11_fail (by omega) (fun r50 S50 hS50 n50_0 => ?_)
      unfold wX11_attribute_53
      exact ⟨⟨(Ch.wk (Ch.tr hS14h hS50) (by decide) (by decide)), rfl, rfl, rfl, by omega, by omega⟩, show (601 - ((v14_4 + 1))).toNat < (601 - v14_4).toNat by omega⟩

