set_option maxRecDepth 100000 in
set_option maxHeartbeats 4000000 in
theorem tX11_text {a1 a2 : Int} {S : St} {K : Int → St → Prop} (p1 : HV S) (p2 : (S.2 67) 0 ≤ 30) (p3 : iv 0 3000 ((S.1 54 0))) (hK : ∀ (r : Int) (S' : St), Ch [0] [69, 70] S S' → (HV S') → (iv 0 1 r) → K r S') : wX11_text a1 a2 S K := by
  unfold wX11_text
  intro g1 g2
  refine tX11_kindAt  (fun r4 n4_0 => ?_)
  have hka : r4 = -1 ∨ (0 ≤ a1 ∧ a1 < S.2 67 0 ∧ 0 ≤ a2 ∧ a2 ≤ 3 ∧ iv 0 3 r4 ∧ r4 = S.2 59 (4 * S.2 68 a1 + a2)) := by
    rcases n4_0 with h | h
    · exact Or.inl h
    · rw [show (30 : Int) * 0 + a1 = a1 by omega] at h
      omega
  clear n4_0
  refine ⟨by omega, ?_⟩
  refine ⟨fun h8 => ?_, fun h8 => ?_⟩
  · unfold wX11_text_24
    unfold wX11_text_25
    unfold wX11_text_29
    refine ⟨fun u1 u2 u3 u4 Sx => S = Sx ∧ a1 = u1 ∧ a2 = u2 ∧ (iv 0 1 u3) ∧ (0 ≤ u4) ∧ (u4 ≤ (S.1 54 0)) ∧ (u3 = 0 ∨ (0 ≤ a1 ∧ a1 < (Sx.2 67) 0 ∧ 0 ≤ a2 ∧ a2 ≤ 3 ∧ (Sx.2 59) (4 * (Sx.2 68) a1 + a2) = 1 ∧ (Sx.1 54 0) ≤ 20)), fun u1 u2 u3 u4 Sx => (3001 - u4).toNat, ?_, fun v29_1 v29_2 v29_3 v29_4 S29h hI => ?_⟩
    · exact ⟨rfl, rfl, rfl, by omega, by omega, by omega, by omega⟩
    obtain ⟨rfl, rfl, rfl, i29_0, i29_1, i29_2, i29_3⟩ := hI
    unfold wX11_text_29'
    intro q1
    refine ⟨by omega, ?_⟩
    refine ⟨fun h35 => ?_, fun h35 => ?_⟩
    · unfold wX11_text_66
      refine ⟨by omega, ?_⟩
      refine ⟨fun h67 => ?_, fun h67 => ?_⟩
      · have hg := i29_3.resolve_left (by omega)
        clear i29_3
        intro x77 hx77
        subst hx77
        intro q2
        refine ⟨by omega, by omega, ?_⟩
        refine ⟨by omega, ?_⟩
        intro S89 hS89e
        have hS89 : Ch [] [69] S S89 := Ch_A hS89e
        have hS89v : ∀ x, (x = (((4 * a1) + a2)) ∧ S89.2 69 x = S.1 54 0) ∨ (¬ x = (((4 * a1) + a2)) ∧ S89.2 69 x = S.2 69 x) := pA_at hS89e
        unfold wX11_text_93
        refine ⟨fun u4 u5 Sx => Ch [] [70] S89 Sx ∧ (((4 * a1) + a2)) = u4 ∧ (0 ≤ u5) ∧ (u5 ≤ (S.1 54 0)) ∧ (∀ x, (20 * (4 * a1 + a2) ≤ x ∧ x < 20 * (4 * a1 + a2) + 20) ∨ (Sx.2 70) x = (S89.2 70) x), fun u4 u5 Sx => (21 - u5).toNat, ?_, fun v93_4 v93_5 S93h hI => ?_⟩
        · exact ⟨Ch.re, rfl, by omega, by omega, (by
              intro x
              exact Or.inr rfl)⟩
        obtain ⟨hS93h, rfl, i93_0, i93_1, i93_2⟩ := hI
        unfold wX11_text_93'
        intro q3
        have e4 : S93h.1 54 0 = S89.1 54 0 := hS93h.1 0 (by decide)
        have e5 : S89.1 54 0 = S.1 54 0 := hS89.1 0 (by decide)
        refine ⟨by omega, ?_⟩
        refine ⟨fun h99 => ?_, fun h99 => ?_⟩
        · intro S130 hS130e
          have hS130 : Ch [0] [] S93h S130 := Ch_I hS130e
          have hS130v : S130.1 54 0 = 0 := pI_at hS130e
          have HVV : tyV (S.2 67 0) (S.2 59 (4 * S.2 68 a1 + a2)) (S130.2 69 (4 * a1 + a2)) := by
            have q := hS89v (4 * a1 + a2)
            have q1 := congrFun (hS130.2 69 (by decide)) (4 * a1 + a2)
            have q2 := congrFun (hS93h.2 69 (by decide)) (4 * a1 + a2)
            unfold tyV
            omega
          have HVL : ∀ z : Int, S.2 59 (4 * S.2 68 a1 + a2) = 3 → 0 ≤ z → z < S130.2 69 (4 * a1 + a2) → 0 ≤ S130.2 70 (20 * (4 * a1 + a2) + z) ∧ S130.2 70 (20 * (4 * a1 + a2) + z) < S.2 67 0 := by
            intro z k3
            omega
          have e6 : S130.2 69 (4 * a1 + a2) = S93h.2 69 (4 * a1 + a2) := congrFun (hS130.2 69 (by decide)) _
          have e7 : S93h.2 69 (4 * a1 + a2) = S89.2 69 (4 * a1 + a2) := congrFun (hS93h.2 69 (by decide)) _
          have e8 : S89.2 69 (4 * a1 + a2) = (S.1 54 0) := by have q := hS89v (4 * a1 + a2); omega
          exact hK (1) S130 (Ch.wk (Ch.tr (Ch.tr hS89 hS93h) hS130) (by decide) (by decide)) (HV_slot (a := a1) (f := a2) p1 (((Ch.tr (Ch.tr hS89 hS93h) hS130)).2 59 (by decide)) (((Ch.tr (Ch.tr hS89 hS93h) hS130)).2 67 (by decide)) (((Ch.tr (Ch.tr hS89 hS93h) hS130)).2 68 (by decide)) (((Ch.tr (Ch.tr hS89 hS93h) hS130)).1 2 (by decide)) (by omega) (by omega) (by omega) (by omega) (by omega) (by
                intro x
                have e9 : S130.2 69 x = S93h.2 69 x := congrFun (hS130.2 69 (by decide)) _
                have e10 : S93h.2 69 x = S89.2 69 x := congrFun (hS93h.2 69 (by decide)) _
                have e11 := hS89v x
                omega) (by
                intro x
                have e12 : S130.2 70 x = S93h.2 70 x := congrFun (hS130.2 70 (by decide)) _
                have e13 := i93_2 x
                have e14 : S89.2 70 x = S.2 70 x := congrFun (hS89.2 70 (by decide)) _
                omega) HVV HVL) (by omega)
        · refine ⟨by omega, by omega, ?_⟩
          intro q15
          have e16 : S93h.2 55 (v93_5) = S89.2 55 (v93_5) := congrFun (hS93h.2 55 (by decide)) _
          have e17 : S89.2 55 (v93_5) = S.2 55 (v93_5) := congrFun (hS89.2 55 (by decide)) _
          refine ⟨by omega, by omega, ?_⟩
          intro S121 hS121e
          have hS121 : Ch [] [70] S93h S121 := Ch_A hS121e
          have hS121v : ∀ x, (x = ((20 * (((4 * a1) + a2))) + v93_5) ∧ S121.2 70 x = S93h.2 55 (v93_5)) ∨ (¬ x = ((20 * (((4 * a1) + a2))) + v93_5) ∧ S121.2 70 x = S93h.2 70 x) := pA_at hS121e
          exact ⟨⟨(Ch.wk (Ch.tr hS93h hS121) (by decide) (by decide)), rfl, by omega, by omega, (by
                intro x
                have e18 := hS121v x
                have e19 := i93_2 x
                have e20 : S89.2 70 x = S.2 70 x := congrFun (hS89.2 70 (by decide)) _
                omega)⟩, show (21 - ((v93_5 + 1))).toNat < (21 - v93_5).toNat by omega⟩
      · exact hK (0) S (Ch.wk Ch.rf (by decide) (by decide)) (p1) (by omega)
    · refine ⟨by omega, ?_⟩
      refine ⟨fun h39 => ?_, fun h39 => ?_⟩
      · unfold wX11_text_66
        refine ⟨by omega, ?_⟩
        refine ⟨fun h67 => ?_, fun h67 => ?_⟩
        · have hg := i29_3.resolve_left (by omega)
          clear i29_3
          intro x77 hx77
          subst hx77
          intro q21
          refine ⟨by omega, by omega, ?_⟩
          refine ⟨by omega, ?_⟩
          intro S89 hS89e
          have hS89 : Ch [] [69] S S89 := Ch_A hS89e
          have hS89v : ∀ x, (x = (((4 * a1) + a2)) ∧ S89.2 69 x = S.1 54 0) ∨ (¬ x = (((4 * a1) + a2)) ∧ S89.2 69 x = S.2 69 x) := pA_at hS89e
          unfold wX11_text_93
          refine ⟨fun u4 u5 Sx => Ch [] [70] S89 Sx ∧ (((4 * a1) + a2)) = u4 ∧ (0 ≤ u5) ∧ (u5 ≤ (S.1 54 0)) ∧ (∀ x, (20 * (4 * a1 + a2) ≤ x ∧ x < 20 * (4 * a1 + a2) + 20) ∨ (Sx.2 70) x = (S89.2 70) x), fun u4 u5 Sx => (21 - u5).toNat, ?_, fun v93_4 v93_5 S93h hI => ?_⟩
          · exact ⟨Ch.re, rfl, by omega, by omega, (by
                intro x
                exact Or.inr rfl)⟩
          obtain ⟨hS93h, rfl, i93_0, i93_1, i93_2⟩ := hI
          unfold wX11_text_93'
          intro q22
          have e23 : S93h.1 54 0 = S89.1 54 0 := hS93h.1 0 (by decide)
          have e24 : S89.1 54 0 = S.1 54 0 := hS89.1 0 (by decide)
          refine ⟨by omega, ?_⟩
          refine ⟨fun h99 => ?_, fun h99 => ?_⟩
          · intro S130 hS130e
            have hS130 : Ch [0] [] S93h S130 := Ch_I hS130e
            have hS130v : S130.1 54 0 = 0 := pI_at hS130e
            have HVV : tyV (S.2 67 0) (S.2 59 (4 * S.2 68 a1 + a2)) (S130.2 69 (4 * a1 + a2)) := by
              have q := hS89v (4 * a1 + a2)
              have q1 := congrFun (hS130.2 69 (by decide)) (4 * a1 + a2)
              have q2 := congrFun (hS93h.2 69 (by decide)) (4 * a1 + a2)
              unfold tyV
              omega
            have HVL : ∀ z : Int, S.2 59 (4 * S.2 68 a1 + a2) = 3 → 0 ≤ z → z < S130.2 69 (4 * a1 + a2) → 0 ≤ S130.2 70 (20 * (4 * a1 + a2) + z) ∧ S130.2 70 (20 * (4 * a1 + a2) + z) < S.2 67 0 := by
              intro z k3
              omega
            have e25 : S130.2 69 (4 * a1 + a2) = S93h.2 69 (4 * a1 + a2) := congrFun (hS130.2 69 (by decide)) _
            have e26 : S93h.2 69 (4 * a1 + a2) = S89.2 69 (4 * a1 + a2) := congrFun (hS93h.2 69 (by decide)) _
            have e27 : S89.2 69 (4 * a1 + a2) = (S.1 54 0) := by have q := hS89v (4 * a1 + a2); omega
            exact hK (1) S130 (Ch.wk (Ch.tr (Ch.tr hS89 hS93h) hS130) (by decide) (by decide)) (HV_slot (a := a1) (f := a2) p1 (((Ch.tr (Ch.tr hS89 hS93h) hS130)).2 59 (by decide)) (((Ch.tr (Ch.tr hS89 hS93h) hS130)).2 67 (by decide)) (((Ch.tr (Ch.tr hS89 hS93h) hS130)).2 68 (by decide)) (((Ch.tr (Ch.tr hS89 hS93h) hS130)).1 2 (by decide)) (by omega) (by omega) (by omega) (by omega) (by omega) (by
                  intro x
                  have e28 : S130.2 69 x = S93h.2 69 x := congrFun (hS130.2 69 (by decide)) _
                  have e29 : S93h.2 69 x = S89.2 69 x := congrFun (hS93h.2 69 (by decide)) _
                  have e30 := hS89v x
                  omega) (by
                  intro x
                  have e31 : S130.2 70 x = S93h.2 70 x := congrFun (hS130.2 70 (by decide)) _
                  have e32 := i93_2 x
                  have e33 : S89.2 70 x = S.2 70 x := congrFun (hS89.2 70 (by decide)) _
                  omega) HVV HVL) (by omega)
          · refine ⟨by omega, by omega, ?_⟩
            intro q34
            have e35 : S93h.2 55 (v93_5) = S89.2 55 (v93_5) := congrFun (hS93h.2 55 (by decide)) _
            have e36 : S89.2 55 (v93_5) = S.2 55 (v93_5) := congrFun (hS89.2 55 (by decide)) _
            refine ⟨by omega, by omega, ?_⟩
            intro S121 hS121e
            have hS121 : Ch [] [70] S93h S121 := Ch_A hS121e
            have hS121v : ∀ x, (x = ((20 * (((4 * a1) + a2))) + v93_5) ∧ S121.2 70 x = S93h.2 55 (v93_5)) ∨ (¬ x = ((20 * (((4 * a1) + a2))) + v93_5) ∧ S121.2 70 x = S93h.2 70 x) := pA_at hS121e
            exact ⟨⟨(Ch.wk (Ch.tr hS93h hS121) (by decide) (by decide)), rfl, by omega, by omega, (by
                  intro x
                  have e37 := hS121v x
                  have e38 := i93_2 x
                  have e39 : S89.2 70 x = S.2 70 x := congrFun (hS89.2 70 (by decide)) _
                  omega)⟩, show (21 - ((v93_5 + 1))).toNat < (21 - v93_5).toNat by omega⟩
        · exact hK (0) S (Ch.wk Ch.rf (by decide) (by decide)) (p1) (by omega)
      · refine ⟨by omega, by omega, ?_⟩
        intro q40
        refine ⟨fun h51 => ?_, fun h51 => ?_⟩
        · unfold wX11_text_59
          exact ⟨⟨rfl, rfl, rfl, by omega, by omega, by omega, by omega⟩, show (3001 - ((v29_4 + 1))).toNat < (3001 - v29_4).toNat by omega⟩
        · unfold wX11_text_59
          exact ⟨⟨rfl, rfl, rfl, by omega, by omega, by omega, by omega⟩, show (3001 - ((v29_4 + 1))).toNat < (3001 - v29_4).toNat by omega⟩
  · intro q41
    refine ⟨fun h17 => ?_, fun h17 => ?_⟩
    · unfold wX11_text_24
      unfold wX11_text_25
      unfold wX11_text_29
      refine ⟨fun u1 u2 u3 u4 Sx => S = Sx ∧ a1 = u1 ∧ a2 = u2 ∧ (iv 0 1 u3) ∧ (0 ≤ u4) ∧ (u4 ≤ (S.1 54 0)) ∧ (u3 = 0 ∨ (0 ≤ a1 ∧ a1 < (Sx.2 67) 0 ∧ 0 ≤ a2 ∧ a2 ≤ 3 ∧ (Sx.2 59) (4 * (Sx.2 68) a1 + a2) = 1 ∧ (Sx.1 54 0) ≤ 20)), fun u1 u2 u3 u4 Sx => (3001 - u4).toNat, ?_, fun v29_1 v29_2 v29_3 v29_4 S29h hI => ?_⟩
      · exact ⟨rfl, rfl, rfl, by omega, by omega, by omega, by omega⟩
      obtain ⟨rfl, rfl, rfl, i29_0, i29_1, i29_2, i29_3⟩ := hI
      unfold wX11_text_29'
      intro q42
      refine ⟨by omega, ?_⟩
      refine ⟨fun h35 => ?_, fun h35 => ?_⟩
      · unfold wX11_text_66
        refine ⟨by omega, ?_⟩
        refine ⟨fun h67 => ?_, fun h67 => ?_⟩
        · have hg := i29_3.resolve_left (by omega)
          clear i29_3
          intro x77 hx77
          subst hx77
          intro q43
          refine ⟨by omega, by omega, ?_⟩
          refine ⟨by omega, ?_⟩
          intro S89 hS89e
          have hS89 : Ch [] [69] S S89 := Ch_A hS89e
          have hS89v : ∀ x, (x = (((4 * a1) + a2)) ∧ S89.2 69 x = S.1 54 0) ∨ (¬ x = (((4 * a1) + a2)) ∧ S89.2 69 x = S.2 69 x) := pA_at hS89e
          unfold wX11_text_93
          refine ⟨fun u4 u5 Sx => Ch [] [70] S89 Sx ∧ (((4 * a1) + a2)) = u4 ∧ (0 ≤ u5) ∧ (u5 ≤ (S.1 54 0)) ∧ (∀ x, (20 * (4 * a1 + a2) ≤ x ∧ x < 20 * (4 * a1 + a2) + 20) ∨ (Sx.2 70) x = (S89.2 70) x), fun u4 u5 Sx => (21 - u5).toNat, ?_, fun v93_4 v93_5 S93h hI => ?_⟩
          · exact ⟨Ch.re, rfl, by omega, by omega, (by
                intro x
                exact Or.inr rfl)⟩
          obtain ⟨hS93h, rfl, i93_0, i93_1, i93_2⟩ := hI
          unfold wX11_text_93'
          intro q44
          have e45 : S93h.1 54 0 = S89.1 54 0 := hS93h.1 0 (by decide)
          have e46 : S89.1 54 0 = S.1 54 0 := hS89.1 0 (by decide)
          refine ⟨by omega, ?_⟩
          refine ⟨fun h99 => ?_, fun h99 => ?_⟩
          · intro S130 hS130e
            have hS130 : Ch [0] [] S93h S130 := Ch_I hS130e
            have hS130v : S130.1 54 0 = 0 := pI_at hS130e
            have HVV : tyV (S.2 67 0) (S.2 59 (4 * S.2 68 a1 + a2)) (S130.2 69 (4 * a1 + a2)) := by
              have q := hS89v (4 * a1 + a2)
              have q1 := congrFun (hS130.2 69 (by decide)) (4 * a1 + a2)
              have q2 := congrFun (hS93h.2 69 (by decide)) (4 * a1 + a2)
              unfold tyV
              omega
            have HVL : ∀ z : Int, S.2 59 (4 * S.2 68 a1 + a2) = 3 → 0 ≤ z → z < S130.2 69 (4 * a1 + a2) → 0 ≤ S130.2 70 (20 * (4 * a1 + a2) + z) ∧ S130.2 70 (20 * (4 * a1 + a2) + z) < S.2 67 0 := by
              intro z k3
              omega
            have e47 : S130.2 69 (4 * a1 + a2) = S93h.2 69 (4 * a1 + a2) := congrFun (hS130.2 69 (by decide)) _
            have e48 : S93h.2 69 (4 * a1 + a2) = S89.2 69 (4 * a1 + a2) := congrFun (hS93h.2 69 (by decide)) _
            have e49 : S89.2 69 (4 * a1 + a2) = (S.1 54 0) := by have q := hS89v (4 * a1 + a2); omega
            exact hK (1) S130 (Ch.wk (Ch.tr (Ch.tr hS89 hS93h) hS130) (by decide) (by decide)) (HV_slot (a := a1) (f := a2) p1 (((Ch.tr (Ch.tr hS89 hS93h) hS130)).2 59 (by decide)) (((Ch.tr (Ch.tr hS89 hS93h) hS130)).2 67 (by decide)) (((Ch.tr (Ch.tr hS89 hS93h) hS130)).2 68 (by decide)) (((Ch.tr (Ch.tr hS89 hS93h) hS130)).1 2 (by decide)) (by omega) (by omega) (by omega) (by omega) (by omega) (by
                  intro x
                  have e50 : S130.2 69 x = S93h.2 69 x := congrFun (hS130.2 69 (by decide)) _
                  have e51 : S93h.2 69 x = S89.2 69 x := congrFun (hS93h.2 69 (by decide)) _
                  have e52 := hS89v x
                  omega) (by
                  intro x
                  have e53 : S130.2 70 x = S93h.2 70 x := congrFun (hS130.2 70 (by decide)) _
                  have e54 := i93_2 x
                  have e55 : S89.2 70 x = S.2 70 x := congrFun (hS89.2 70 (by decide)) _
                  omega) HVV HVL) (by omega)
          · refine ⟨by omega, by omega, ?_⟩
            intro q56
            have e57 : S93h.2 55 (v93_5) = S89.2 55 (v93_5) := congrFun (hS93h.2 55 (by decide)) _
            have e58 : S89.2 55 (v93_5) = S.2 55 (v93_5) := congrFun (hS89.2 55 (by decide)) _
            refine ⟨by omega, by omega, ?_⟩
            intro S121 hS121e
            have hS121 : Ch [] [70] S93h S121 := Ch_A hS121e
            have hS121v : ∀ x, (x = ((20 * (((4 * a1) + a2))) + v93_5) ∧ S121.2 70 x = S93h.2 55 (v93_5)) ∨ (¬ x = ((20 * (((4 * a1) + a2))) + v93_5) ∧ S121.2 70 x = S93h.2 70 x) := pA_at hS121e
            exact ⟨⟨(Ch.wk (Ch.tr hS93h hS121) (by decide) (by decide)), rfl, by omega, by omega, (by
                  intro x
                  have e59 := hS121v x
                  have e60 := i93_2 x
                  have e61 : S89.2 70 x = S.2 70 x := congrFun (hS89.2 70 (by decide)) _
                  omega)⟩, show (21 - ((v93_5 + 1))).toNat < (21 - v93_5).toNat by omega⟩
        · exact hK (0) S (Ch.wk Ch.rf (by decide) (by decide)) (p1) (by omega)
      · refine ⟨by omega, ?_⟩
        refine ⟨fun h39 => ?_, fun h39 => ?_⟩
        · unfold wX11_text_66
          refine ⟨by omega, ?_⟩
          refine ⟨fun h67 => ?_, fun h67 => ?_⟩
          · have hg := i29_3.resolve_left (by omega)
            clear i29_3
            intro x77 hx77
            subst hx77
            intro q62
            refine ⟨by omega, by omega, ?_⟩
            refine ⟨by omega, ?_⟩
            intro S89 hS89e
            have hS89 : Ch [] [69] S S89 := Ch_A hS89e
            have hS89v : ∀ x, (x = (((4 * a1) + a2)) ∧ S89.2 69 x = S.1 54 0) ∨ (¬ x = (((4 * a1) + a2)) ∧ S89.2 69 x = S.2 69 x) := pA_at hS89e
            unfold wX11_text_93
            refine ⟨fun u4 u5 Sx => Ch [] [70] S89 Sx ∧ (((4 * a1) + a2)) = u4 ∧ (0 ≤ u5) ∧ (u5 ≤ (S.1 54 0)) ∧ (∀ x, (20 * (4 * a1 + a2) ≤ x ∧ x < 20 * (4 * a1 + a2) + 20) ∨ (Sx.2 70) x = (S89.2 70) x), fun u4 u5 Sx => (21 - u5).toNat, ?_, fun v93_4 v93_5 S93h hI => ?_⟩
            · exact ⟨Ch.re, rfl, by omega, by omega, (by
                  intro x
                  exact Or.inr rfl)⟩
            obtain ⟨hS93h, rfl, i93_0, i93_1, i93_2⟩ := hI
            unfold wX11_text_93'
            intro q63
            have e64 : S93h.1 54 0 = S89.1 54 0 := hS93h.1 0 (by decide)
            have e65 : S89.1 54 0 = S.1 54 0 := hS89.1 0 (by decide)
            refine ⟨by omega, ?_⟩
            refine ⟨fun h99 => ?_, fun h99 => ?_⟩
            · intro S130 hS130e
              have hS130 : Ch [0] [] S93h S130 := Ch_I hS130e
              have hS130v : S130.1 54 0 = 0 := pI_at hS130e
              have HVV : tyV (S.2 67 0) (S.2 59 (4 * S.2 68 a1 + a2)) (S130.2 69 (4 * a1 + a2)) := by
                have q := hS89v (4 * a1 + a2)
                have q1 := congrFun (hS130.2 69 (by decide)) (4 * a1 + a2)
                have q2 := congrFun (hS93h.2 69 (by decide)) (4 * a1 + a2)
                unfold tyV
                omega
              have HVL : ∀ z : Int, S.2 59 (4 * S.2 68 a1 + a2) = 3 → 0 ≤ z → z < S130.2 69 (4 * a1 + a2) → 0 ≤ S130.2 70 (20 * (4 * a1 + a2) + z) ∧ S130.2 70 (20 * (4 * a1 + a2) + z) < S.2 67 0 := by
                intro z k3
                omega
              have e66 : S130.2 69 (4 * a1 + a2) = S93h.2 69 (4 * a1 + a2) := congrFun (hS130.2 69 (by decide)) _
              have e67 : S93h.2 69 (4 * a1 + a2) = S89.2 69 (4 * a1 + a2) := congrFun (hS93h.2 69 (by decide)) _
              have e68 : S89.2 69 (4 * a1 + a2) = (S.1 54 0) := by have q := hS89v (4 * a1 + a2); omega
              exact hK (1) S130 (Ch.wk (Ch.tr (Ch.tr hS89 hS93h) hS130) (by decide) (by decide)) (HV_slot (a := a1) (f := a2) p1 (((Ch.tr (Ch.tr hS89 hS93h) hS130)).2 59 (by decide)) (((Ch.tr (Ch.tr hS89 hS93h) hS130)).2 67 (by decide)) (((Ch.tr (Ch.tr hS89 hS93h) hS130)).2 68 (by decide)) (((Ch.tr (Ch.tr hS89 hS93h) hS130)).1 2 (by decide)) (by omega) (by omega) (by omega) (by omega) (by omega) (by
                    intro x
                    have e69 : S130.2 69 x = S93h.2 69 x := congrFun (hS130.2 69 (by decide)) _
                    have e70 : S93h.2 69 x = S89.2 69 x := congrFun (hS93h.2 69 (by decide)) _
                    have e71 := hS89v x
                    omega) (by
                    intro x
                    have e72 : S130.2 70 x = S93h.2 70 x := congrFun (hS130.2 70 (by decide)) _
                    have e73 := i93_2 x
                    have e74 : S89.2 70 x = S.2 70 x := congrFun (hS89.2 70 (by decide)) _
                    omega) HVV HVL) (by omega)
            · refine ⟨by omega, by omega, ?_⟩
              intro q75
              have e76 : S93h.2 55 (v93_5) = S89.2 55 (v93_5) := congrFun (hS93h.2 55 (by decide)) _
              have e77 : S89.2 55 (v93_5) = S.2 55 (v93_5) := congrFun (hS89.2 55 (by decide)) _
              refine ⟨by omega, by omega, ?_⟩
              intro S121 hS121e
              have hS121 : Ch [] [70] S93h S121 := Ch_A hS121e
              have hS121v : ∀ x, (x = ((20 * (((4 * a1) + a2))) + v93_5) ∧ S121.2 70 x = S93h.2 55 (v93_5)) ∨ (¬ x = ((20 * (((4 * a1) + a2))) + v93_5) ∧ S121.2 70 x = S93h.2 70 x) := pA_at hS121e
              exact ⟨⟨(Ch.wk (Ch.tr hS93h hS121) (by decide) (by decide)), rfl, by omega, by omega, (by
                    intro x
                    have e78 := hS121v x
                    have e79 := i93_2 x
                    have e80 : S89.2 70 x = S.2 70 x := congrFun (hS89.2 70 (by decide)) _
                    omega)⟩, show (21 - ((v93_5 + 1))).toNat < (21 - v93_5).toNat by omega⟩
          · exact hK (0) S (Ch.wk Ch.rf (by decide) (by decide)) (p1) (by omega)
        · refine ⟨by omega, by omega, ?_⟩
          intro q81
          refine ⟨fun h51 => ?_, fun h51 => ?_⟩
          · unfold wX11_text_59
            exact ⟨⟨rfl, rfl, rfl, by omega, by omega, by omega, by omega⟩, show (3001 - ((v29_4 + 1))).toNat < (3001 - v29_4).toNat by omega⟩
          · unfold wX11_text_59
            exact ⟨⟨rfl, rfl, rfl, by omega, by omega, by omega, by omega⟩, show (3001 - ((v29_4 + 1))).toNat < (3001 - v29_4).toNat by omega⟩
    · unfold wX11_text_25
      unfold wX11_text_29
      refine ⟨fun u1 u2 u3 u4 Sx => S = Sx ∧ a1 = u1 ∧ a2 = u2 ∧ (iv 0 1 u3) ∧ (0 ≤ u4) ∧ (u4 ≤ (S.1 54 0)) ∧ (u3 = 0 ∨ (0 ≤ a1 ∧ a1 < (Sx.2 67) 0 ∧ 0 ≤ a2 ∧ a2 ≤ 3 ∧ (Sx.2 59) (4 * (Sx.2 68) a1 + a2) = 1 ∧ (Sx.1 54 0) ≤ 20)), fun u1 u2 u3 u4 Sx => (3001 - u4).toNat, ?_, fun v29_1 v29_2 v29_3 v29_4 S29h hI => ?_⟩
      · exact ⟨rfl, rfl, rfl, by omega, by omega, by omega, by omega⟩
      obtain ⟨rfl, rfl, rfl, i29_0, i29_1, i29_2, i29_3⟩ := hI
      unfold wX11_text_29'
      intro q82
      refine ⟨by omega, ?_⟩
      refine ⟨fun h35 => ?_, fun h35 => ?_⟩
      · unfold wX11_text_66
        refine ⟨by omega, ?_⟩
        refine ⟨fun h67 => ?_, fun h67 => ?_⟩
        · have hg := i29_3.resolve_left (by omega)
          clear i29_3
          intro x77 hx77
          subst hx77
          intro q83
          refine ⟨by omega, by omega, ?_⟩
          refine ⟨by omega, ?_⟩
          intro S89 hS89e
          have hS89 : Ch [] [69] S S89 := Ch_A hS89e
          have hS89v : ∀ x, (x = (((4 * a1) + a2)) ∧ S89.2 69 x = S.1 54 0) ∨ (¬ x = (((4 * a1) + a2)) ∧ S89.2 69 x = S.2 69 x) := pA_at hS89e
          unfold wX11_text_93
          refine ⟨fun u4 u5 Sx => Ch [] [70] S89 Sx ∧ (((4 * a1) + a2)) = u4 ∧ (0 ≤ u5) ∧ (u5 ≤ (S.1 54 0)) ∧ (∀ x, (20 * (4 * a1 + a2) ≤ x ∧ x < 20 * (4 * a1 + a2) + 20) ∨ (Sx.2 70) x = (S89.2 70) x), fun u4 u5 Sx => (21 - u5).toNat, ?_, fun v93_4 v93_5 S93h hI => ?_⟩
          · exact ⟨Ch.re, rfl, by omega, by omega, (by
                intro x
                exact Or.inr rfl)⟩
          obtain ⟨hS93h, rfl, i93_0, i93_1, i93_2⟩ := hI
          unfold wX11_text_93'
          intro q84
          have e85 : S93h.1 54 0 = S89.1 54 0 := hS93h.1 0 (by decide)
          have e86 : S89.1 54 0 = S.1 54 0 := hS89.1 0 (by decide)
          refine ⟨by omega, ?_⟩
          refine ⟨fun h99 => ?_, fun h99 => ?_⟩
          · intro S130 hS130e
            have hS130 : Ch [0] [] S93h S130 := Ch_I hS130e
            have hS130v : S130.1 54 0 = 0 := pI_at hS130e
            have HVV : tyV (S.2 67 0) (S.2 59 (4 * S.2 68 a1 + a2)) (S130.2 69 (4 * a1 + a2)) := by
              have q := hS89v (4 * a1 + a2)
              have q1 := congrFun (hS130.2 69 (by decide)) (4 * a1 + a2)
              have q2 := congrFun (hS93h.2 69 (by decide)) (4 * a1 + a2)
              unfold tyV
              omega
            have HVL : ∀ z : Int, S.2 59 (4 * S.2 68 a1 + a2) = 3 → 0 ≤ z → z < S130.2 69 (4 * a1 + a2) → 0 ≤ S130.2 70 (20 * (4 * a1 + a2) + z) ∧ S130.2 70 (20 * (4 * a1 + a2) + z) < S.2 67 0 := by
              intro z k3
              omega
            have e87 : S130.2 69 (4 * a1 + a2) = S93h.2 69 (4 * a1 + a2) := congrFun (hS130.2 69 (by decide)) _
            have e88 : S93h.2 69 (4 * a1 + a2) = S89.2 69 (4 * a1 + a2) := congrFun (hS93h.2 69 (by decide)) _
            have e89 : S89.2 69 (4 * a1 + a2) = (S.1 54 0) := by have q := hS89v (4 * a1 + a2); omega
            exact hK (1) S130 (Ch.wk (Ch.tr (Ch.tr hS89 hS93h) hS130) (by decide) (by decide)) (HV_slot (a := a1) (f := a2) p1 (((Ch.tr (Ch.tr hS89 hS93h) hS130)).2 59 (by decide)) (((Ch.tr (Ch.tr hS89 hS93h) hS130)).2 67 (by decide)) (((Ch.tr (Ch.tr hS89 hS93h) hS130)).2 68 (by decide)) (((Ch.tr (Ch.tr hS89 hS93h) hS130)).1 2 (by decide)) (by omega) (by omega) (by omega) (by omega) (by omega) (by
                  intro x
                  have e90 : S130.2 69 x = S93h.2 69 x := congrFun (hS130.2 69 (by decide)) _
                  have e91 : S93h.2 69 x = S89.2 69 x := congrFun (hS93h.2 69 (by decide)) _
                  have e92 := hS89v x
                  omega) (by
                  intro x
                  have e93 : S130.2 70 x = S93h.2 70 x := congrFun (hS130.2 70 (by decide)) _
                  have e94 := i93_2 x
                  have e95 : S89.2 70 x = S.2 70 x := congrFun (hS89.2 70 (by decide)) _
                  omega) HVV HVL) (by omega)
          · refine ⟨by omega, by omega, ?_⟩
            intro q96
            have e97 : S93h.2 55 (v93_5) = S89.2 55 (v93_5) := congrFun (hS93h.2 55 (by decide)) _
            have e98 : S89.2 55 (v93_5) = S.2 55 (v93_5) := congrFun (hS89.2 55 (by decide)) _
            refine ⟨by omega, by omega, ?_⟩
            intro S121 hS121e
            have hS121 : Ch [] [70] S93h S121 := Ch_A hS121e
            have hS121v : ∀ x, (x = ((20 * (((4 * a1) + a2))) + v93_5) ∧ S121.2 70 x = S93h.2 55 (v93_5)) ∨ (¬ x = ((20 * (((4 * a1) + a2))) + v93_5) ∧ S121.2 70 x = S93h.2 70 x) := pA_at hS121e
            exact ⟨⟨(Ch.wk (Ch.tr hS93h hS121) (by decide) (by decide)), rfl, by omega, by omega, (by
                  intro x
                  have e99 := hS121v x
                  have e100 := i93_2 x
                  have e101 : S89.2 70 x = S.2 70 x := congrFun (hS89.2 70 (by decide)) _
                  omega)⟩, show (21 - ((v93_5 + 1))).toNat < (21 - v93_5).toNat by omega⟩
        · exact hK (0) S (Ch.wk Ch.rf (by decide) (by decide)) (p1) (by omega)
      · refine ⟨by omega, ?_⟩
        refine ⟨fun h39 => ?_, fun h39 => ?_⟩
        · unfold wX11_text_66
          refine ⟨by omega, ?_⟩
          refine ⟨fun h67 => ?_, fun h67 => ?_⟩
          · have hg := i29_3.resolve_left (by omega)
            clear i29_3
            intro x77 hx77
            subst hx77
            intro q102
            refine ⟨by omega, by omega, ?_⟩
            refine ⟨by omega, ?_⟩
            intro S89 hS89e
            have hS89 : Ch [] [69] S S89 := Ch_A hS89e
            have hS89v : ∀ x, (x = (((4 * a1) + a2)) ∧ S89.2 69 x = S.1 54 0) ∨ (¬ x = (((4 * a1) + a2)) ∧ S89.2 69 x = S.2 69 x) := pA_at hS89e
            unfold wX11_text_93
            refine ⟨fun u4 u5 Sx => Ch [] [70] S89 Sx ∧ (((4 * a1) + a2)) = u4 ∧ (0 ≤ u5) ∧ (u5 ≤ (S.1 54 0)) ∧ (∀ x, (20 * (4 * a1 + a2) ≤ x ∧ x < 20 * (4 * a1 + a2) + 20) ∨ (Sx.2 70) x = (S89.2 70) x), fun u4 u5 Sx => (21 - u5).toNat, ?_, fun v93_4 v93_5 S93h hI => ?_⟩
            · exact ⟨Ch.re, rfl, by omega, by omega, (by
                  intro x
                  exact Or.inr rfl)⟩
            obtain ⟨hS93h, rfl, i93_0, i93_1, i93_2⟩ := hI
            unfold wX11_text_93'
            intro q103
            have e104 : S93h.1 54 0 = S89.1 54 0 := hS93h.1 0 (by decide)
            have e105 : S89.1 54 0 = S.1 54 0 := hS89.1 0 (by decide)
            refine ⟨by omega, ?_⟩
            refine ⟨fun h99 => ?_, fun h99 => ?_⟩
            · intro S130 hS130e
              have hS130 : Ch [0] [] S93h S130 := Ch_I hS130e
              have hS130v : S130.1 54 0 = 0 := pI_at hS130e
              have HVV : tyV (S.2 67 0) (S.2 59 (4 * S.2 68 a1 + a2)) (S130.2 69 (4 * a1 + a2)) := by
                have q := hS89v (4 * a1 + a2)
                have q1 := congrFun (hS130.2 69 (by decide)) (4 * a1 + a2)
                have q2 := congrFun (hS93h.2 69 (by decide)) (4 * a1 + a2)
                unfold tyV
                omega
              have HVL : ∀ z : Int, S.2 59 (4 * S.2 68 a1 + a2) = 3 → 0 ≤ z → z < S130.2 69 (4 * a1 + a2) → 0 ≤ S130.2 70 (20 * (4 * a1 + a2) + z) ∧ S130.2 70 (20 * (4 * a1 + a2) + z) < S.2 67 0 := by
                intro z k3
                omega
              have e106 : S130.2 69 (4 * a1 + a2) = S93h.2 69 (4 * a1 + a2) := congrFun (hS130.2 69 (by decide)) _
              have e107 : S93h.2 69 (4 * a1 + a2) = S89.2 69 (4 * a1 + a2) := congrFun (hS93h.2 69 (by decide)) _
              have e108 : S89.2 69 (4 * a1 + a2) = (S.1 54 0) := by have q := hS89v (4 * a1 + a2); omega
              exact hK (1) S130 (Ch.wk (Ch.tr (Ch.tr hS89 hS93h) hS130) (by decide) (by decide)) (HV_slot (a := a1) (f := a2) p1 (((Ch.tr (Ch.tr hS89 hS93h) hS130)).2 59 (by decide)) (((Ch.tr (Ch.tr hS89 hS93h) hS130)).2 67 (by decide)) (((Ch.tr (Ch.tr hS89 hS93h) hS130)).2 68 (by decide)) (((Ch.tr (Ch.tr hS89 hS93h) hS130)).1 2 (by decide)) (by omega) (by omega) (by omega) (by omega) (by omega) (by
                    intro x
                    have e109 : S130.2 69 x = S93h.2 69 x := congrFun (hS130.2 69 (by decide)) _
                    have e110 : S93h.2 69 x = S89.2 69 x := congrFun (hS93h.2 69 (by decide)) _
                    have e111 := hS89v x
                    omega) (by
                    intro x
                    have e112 : S130.2 70 x = S93h.2 70 x := congrFun (hS130.2 70 (by decide)) _
                    have e113 := i93_2 x
                    have e114 : S89.2 70 x = S.2 70 x := congrFun (hS89.2 70 (by decide)) _
                    omega) HVV HVL) (by omega)
            · refine ⟨by omega, by omega, ?_⟩
              intro q115
              have e116 : S93h.2 55 (v93_5) = S89.2 55 (v93_5) := congrFun (hS93h.2 55 (by decide)) _
              have e117 : S89.2 55 (v93_5) = S.2 55 (v93_5) := congrFun (hS89.2 55 (by decide)) _
              refine ⟨by omega, by omega, ?_⟩
              intro S121 hS121e
              have hS121 : Ch [] [70] S93h S121 := Ch_A hS121e
              have hS121v : ∀ x, (x = ((20 * (((4 * a1) + a2))) + v93_5) ∧ S121.2 70 x = S93h.2 55 (v93_5)) ∨ (¬ x = ((20 * (((4 * a1) + a2))) + v93_5) ∧ S121.2 70 x = S93h.2 70 x) := pA_at hS121e
              exact ⟨⟨(Ch.wk (Ch.tr hS93h hS121) (by decide) (by decide)), rfl, by omega, by omega, (by
                    intro x
                    have e118 := hS121v x
                    have e119 := i93_2 x
                    have e120 : S89.2 70 x = S.2 70 x := congrFun (hS89.2 70 (by decide)) _
                    omega)⟩, show (21 - ((v93_5 + 1))).toNat < (21 - v93_5).toNat by omega⟩
          · exact hK (0) S (Ch.wk Ch.rf (by decide) (by decide)) (p1) (by omega)
        · refine ⟨by omega, by omega, ?_⟩
          intro q121
          refine ⟨fun h51 => ?_, fun h51 => ?_⟩
          · unfold wX11_text_59
            exact ⟨⟨rfl, rfl, rfl, by omega, by omega, by omega, by omega⟩, show (3001 - ((v29_4 + 1))).toNat < (3001 - v29_4).toNat by omega⟩
          · unfold wX11_text_59
            exact ⟨⟨rfl, rfl, rfl, by omega, by omega, by omega, by omega⟩, show (3001 - ((v29_4 + 1))).toNat < (3001 - v29_4).toNat by omega⟩
