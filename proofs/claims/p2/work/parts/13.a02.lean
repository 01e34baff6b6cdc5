set_option maxRecDepth 100000 in
set_option maxHeartbeats 4000000 in
theorem tX11_name {a1 a2 a3 : Int} {S : St} {K : Int → St → Prop} (p1 : iv 0 29 a1) (p2 : 0 ≤ a2) (p3 : a3 ≤ 30) (p4 : (S.1 54 22) ≤ (S.1 54 0)) (hK : ∀ (r : Int) (S' : St), Ch [22, 23, 24] [63, 64] S S' → ((S'.1 54 22) ≤ (S.1 54 0)) → ((S'.1 54 23) = 1 ∨ 1 ≤ (S'.2 63) a1) → (∀ x, x = a1 ∨ (S'.2 63) x = (S.2 63) x) → ((S'.1 54 23) = 1 ∨ (S'.1 54 23) = (S.1 54 23)) → K r S') : wX11_name a1 a2 a3 S K := by
  unfold wX11_name
  intro g1 g2 g3
  intro q1
  refine tX11_nameAt (by omega) (by omega) (fun r6 S6 hS6 n6_0 n6_1 n6_2 n6_3 => ?_)
  refine ⟨by omega, ?_⟩
  refine ⟨fun h13 => ?_, fun h13 => ?_⟩
  · intro q2
    have e3 : S6.1 54 22 = S.1 54 22 := hS6.1 22 (by decide)
    refine ⟨by omega, ?_⟩
    intro S44 hS44e
    have hS44 : Ch [22] [] S6 S44 := Ch_I hS44e
    have hS44v : S44.1 54 22 = (S6.1 54 22 + r6) := pI_at hS44e
    unfold wX11_name_53
    refine ⟨fun u1 u3 u5 u6 Sx => S44 = Sx ∧ a1 = u1 ∧ a3 = u3 ∧ (0 ≤ u6) ∧ (iv 0 1 u5) ∧ (rng u6), fun u1 u3 u5 u6 Sx => (31 - u6).toNat, ?_, fun v53_1 v53_3 v53_5 v53_6 S53h hI => ?_⟩
    · exact ⟨rfl, rfl, rfl, by omega, by omega, by omega⟩
    obtain ⟨rfl, rfl, rfl, i53_0, i53_1, i53_2⟩ := hI
    unfold wX11_name_53'
    refine ⟨by omega, ?_⟩
    refine ⟨by omega, ?_⟩
    refine ⟨fun h56 => ?_, fun h56 => ?_⟩
    · intro q4
      have e5 : S44.1 54 24 = S6.1 54 24 := hS44.1 24 (by decide)
      have e6 : S6.1 54 24 = S.1 54 24 := hS6.1 24 (by decide)
      refine ⟨fun h92 => ?_, fun h92 => ?_⟩
      · intro S105 hS105e
        have hS105 : Ch [24] [] S44 S105 := Ch_I hS105e
        have hS105v : S105.1 54 24 = 1 := pI_at hS105e
        have e7 : S105.1 54 22 = S44.1 54 22 := hS105.1 22 (by decide)
        have e8 : S105.1 54 23 = S44.1 54 23 := hS105.1 23 (by decide)
        have e9 : S44.1 54 23 = S6.1 54 23 := hS44.1 23 (by decide)
        have e10 : S6.1 54 23 = S.1 54 23 := hS6.1 23 (by decide)
        have e11 : S105.2 63 a1 = S44.2 63 a1 := congrFun (hS105.2 63 (by decide)) _
        have e12 : S44.2 63 a1 = S6.2 63 a1 := congrFun (hS44.2 63 (by decide)) _
        first | have e13 : S6.2 63 a1 = S.2 63 a1 := by have q := n6_1 a1; omega | have e13 := n6_1 a1
        have e14 : S105.1 54 23 = S44.1 54 23 := hS105.1 23 (by decide)
        have e15 : S44.1 54 23 = S6.1 54 23 := hS44.1 23 (by decide)
        have e16 : S6.1 54 23 = S.1 54 23 := hS6.1 23 (by decide)
        exact hK (0) S105 (Ch.wk (Ch.tr (Ch.tr hS6 hS44) hS105) (by decide) (by decide)) (by omega) (by omega) (by
              intro x
              have e17 : S105.2 63 x = S44.2 63 x := congrFun (hS105.2 63 (by decide)) _
              have e18 : S44.2 63 x = S6.2 63 x := congrFun (hS44.2 63 (by decide)) _
              have e19 := n6_1 x
              omega) (by omega)
      · refine ⟨by omega, ?_⟩
        refine ⟨fun h97 => ?_, fun h97 => ?_⟩
        · intro S105 hS105e
          have hS105 : Ch [24] [] S44 S105 := Ch_I hS105e
          have hS105v : S105.1 54 24 = 0 := pI_at hS105e
          have e20 : S105.1 54 22 = S44.1 54 22 := hS105.1 22 (by decide)
          have e21 : S105.1 54 23 = S44.1 54 23 := hS105.1 23 (by decide)
          have e22 : S44.1 54 23 = S6.1 54 23 := hS44.1 23 (by decide)
          have e23 : S6.1 54 23 = S.1 54 23 := hS6.1 23 (by decide)
          have e24 : S105.2 63 a1 = S44.2 63 a1 := congrFun (hS105.2 63 (by decide)) _
          have e25 : S44.2 63 a1 = S6.2 63 a1 := congrFun (hS44.2 63 (by decide)) _
          first | have e26 : S6.2 63 a1 = S.2 63 a1 := by have q := n6_1 a1; omega | have e26 := n6_1 a1
          have e27 : S105.1 54 23 = S44.1 54 23 := hS105.1 23 (by decide)
          have e28 : S44.1 54 23 = S6.1 54 23 := hS44.1 23 (by decide)
          have e29 : S6.1 54 23 = S.1 54 23 := hS6.1 23 (by decide)
          exact hK (0) S105 (Ch.wk (Ch.tr (Ch.tr hS6 hS44) hS105) (by decide) (by decide)) (by omega) (by omega) (by
                intro x
                have e30 : S105.2 63 x = S44.2 63 x := congrFun (hS105.2 63 (by decide)) _
                have e31 : S44.2 63 x = S6.2 63 x := congrFun (hS44.2 63 (by decide)) _
                have e32 := n6_1 x
                omega) (by omega)
        · intro S105 hS105e
          have hS105 : Ch [24] [] S44 S105 := Ch_I hS105e
          have hS105v : S105.1 54 24 = 1 := pI_at hS105e
          have e33 : S105.1 54 22 = S44.1 54 22 := hS105.1 22 (by decide)
          have e34 : S105.1 54 23 = S44.1 54 23 := hS105.1 23 (by decide)
          have e35 : S44.1 54 23 = S6.1 54 23 := hS44.1 23 (by decide)
          have e36 : S6.1 54 23 = S.1 54 23 := hS6.1 23 (by decide)
          have e37 : S105.2 63 a1 = S44.2 63 a1 := congrFun (hS105.2 63 (by decide)) _
          have e38 : S44.2 63 a1 = S6.2 63 a1 := congrFun (hS44.2 63 (by decide)) _
          first | have e39 : S6.2 63 a1 = S.2 63 a1 := by have q := n6_1 a1; omega | have e39 := n6_1 a1
          have e40 : S105.1 54 23 = S44.1 54 23 := hS105.1 23 (by decide)
          have e41 : S44.1 54 23 = S6.1 54 23 := hS44.1 23 (by decide)
          have e42 : S6.1 54 23 = S.1 54 23 := hS6.1 23 (by decide)
          exact hK (0) S105 (Ch.wk (Ch.tr (Ch.tr hS6 hS44) hS105) (by decide) (by decide)) (by omega) (by omega) (by
                intro x
                have e43 : S105.2 63 x = S44.2 63 x := congrFun (hS105.2 63 (by decide)) _
                have e44 : S44.2 63 x = S6.2 63 x := congrFun (hS44.2 63 (by decide)) _
                have e45 := n6_1 x
                omega) (by omega)
    · refine ⟨by omega, ?_⟩
      refine ⟨fun h61 => ?_, fun h61 => ?_⟩
      · unfold wX11_name_74
        unfold wX11_name_79
        exact ⟨⟨rfl, rfl, rfl, by omega, by omega, by omega⟩, show (31 - ((v53_6 + 1))).toNat < (31 - v53_6).toNat by omega⟩
      · refine ⟨by omega, ?_⟩
        refine tX11_areAlike (by omega) (by omega) (fun r68 n68_0 => ?_)
        refine ⟨by omega, ?_⟩
        refine ⟨fun h71 => ?_, fun h71 => ?_⟩
        · unfold wX11_name_79
          exact ⟨⟨rfl, rfl, rfl, by omega, by omega, by omega⟩, show (31 - ((v53_6 + 1))).toNat < (31 - v53_6).toNat by omega⟩
        · unfold wX11_name_74
          unfold wX11_name_79
          exact ⟨⟨rfl, rfl, rfl, by omega, by omega, by omega⟩, show (31 - ((v53_6 + 1))).toNat < (31 - v53_6).toNat by omega⟩
  · intro q46
    have e47 : S6.1 54 22 = S.1 54 22 := hS6.1 22 (by decide)
    refine ⟨by omega, ?_⟩
    intro S27 hS27e
    have hS27 : Ch [22] [] S6 S27 := Ch_I hS27e
    have hS27v : S27.1 54 22 = ((S6.1 54 22 + (-2)) - r6) := pI_at hS27e
    intro S32 hS32e
    have hS32 : Ch [23] [] S27 S32 := Ch_I hS32e
    have hS32v : S32.1 54 23 = 1 := pI_at hS32e
    have e48 : S32.1 54 22 = S27.1 54 22 := hS32.1 22 (by decide)
    have e49 : S32.2 63 a1 = S27.2 63 a1 := congrFun (hS32.2 63 (by decide)) _
    have e50 : S27.2 63 a1 = S6.2 63 a1 := congrFun (hS27.2 63 (by decide)) _
    first | have e51 : S6.2 63 a1 = S.2 63 a1 := by have q := n6_1 a1; omega | have e51 := n6_1 a1
    exact hK (0) S32 (Ch.wk (Ch.tr (Ch.tr hS6 hS27) hS32) (by decide) (by decide)) (by omega) (by omega) (by
          intro x
          have e52 : S32.2 63 x = S27.2 63 x := congrFun (hS32.2 63 (by decide)) _
          have e53 : S27.2 63 x = S6.2 63 x := congrFun (hS27.2 63 (by decide)) _
          have e54 := n6_1 x
          omega) (by omega)
