set_option maxRecDepth 100000 in
set_option maxHeartbeats 4000000 in
theorem tX11_isObjectElement_156 {a1 a2 l1 l2 l3 l4 l5 : Int} {S : St} {K : Int → St → Prop} (g1 : rng a1) (g2 : rng a2) (p1 : iv 0 199 a1) (p2 : a1 < (S.1 54 43)) (p3 : (S.1 54 43) ≤ 200) (p4 : PR S) (p5 : PA S) (p6 : OKg S 2 60) (p7 : iv 0 1 a2) (p8 : (S.1 54 51) ≤ 600) (p9 : iv 0 30 ((S.2 67) 2)) (p10 : (S.1 54 56) ≤ 3000)  (c1 : a1 = l1) (c2 : a2 = l2) (c3 : (S.2 90) a1 = l3) (c4 : (S.2 91) a1 = l4) (c5 : l5 = -2 ∨ iv 0 5 l5) (c6 : iv 0 600 ((S.2 90) a1)) (c7 : iv 0 600 ((S.2 91) a1)) (hK : ∀ (r : Int) (S' : St), Ch [67] [67, 68, 69, 70, 98, 99, 102, 103, 104] S S' → (iv 0 1 r) → (OE S S') → (OKg S' 2 60) → (∀ x, x = a1 ∨ (S'.2 98) x = (S.2 98) x) → (∀ x, x = a1 ∨ (S'.2 99) x = (S.2 99) x) → (r = 0 ∨ ((S'.2 98) a1 = 4 ∧ 0 ≤ (S'.2 99) a1 ∧ (S'.2 99) a1 < (S'.2 67) 2) ∨ ((S'.2 98) a1 = 5 ∧ (S.2 91) a1 = 1 ∧ ¬ (a1 + 1 < (S.1 54 43) ∧ (S.2 88) (a1 + 1) = a1))) → (iv 0 30 ((S'.2 67) 2)) → K r S') : wX11_isObjectElement_156 l1 l2 l3 l4 l5 S K := by
  unfold wX11_isObjectElement_156
  subst c1
  subst c2
  subst c3
  subst c4
  have hpr := p4.at (x := a1) (by omega) (by omega)
  refine ⟨by omega, ?_⟩
  refine ⟨fun h160 => ?_, fun h160 => ?_⟩
  · exact hK (0) S (Ch.wk Ch.rf (by decide) (by decide)) (by omega) (OE.rf rfl rfl rfl rfl) p6 (by
          intro x
          omega) (by
          intro x
          omega) (by omega) (by omega)
  · refine ⟨by omega, by omega, ?_⟩
    intro q1
    refine ⟨fun h171 => ?_, fun h171 => ?_⟩
    · exact hK (0) S (Ch.wk Ch.rf (by decide) (by decide)) (by omega) (OE.rf rfl rfl rfl rfl) p6 (by
            intro x
            omega) (by
            intro x
            omega) (by omega) (by omega)
    · refine ⟨by omega, ?_⟩
      refine tX11_isBlankWithin  (fun r176 n176_0 => ?_)
      refine ⟨by omega, ?_⟩
      refine ⟨fun h179 => ?_, fun h179 => ?_⟩
      · refine tX11_object (by omega) (by omega) (by omega) (fun r188 S188 hS188 n188_0 n188_1 n188_2 n188_3 n188_4 => ?_)
        have hr188 : r188 = 60 + S.2 67 2 := by omega
        rw [hr188] at n188_3 n188_4
        have hnO : nObj S S188 2 (60 + S.2 67 2) (l5) := ⟨n188_2, n188_3, n188_4⟩
        have hOE0 : OE S S188 := OE_obj hnO (hS188.2 70 (by decide))
        have hOK0 : OKg S188 2 60 := OKg_obj p6 hnO (hS188.2 59 (by decide)) rfl (by omega)
        have hkc : S188.2 68 (60 + S.2 67 2) = l5 := by have q := n188_3 (60 + S.2 67 2); omega
        have hc2 : S188.2 67 2 = S.2 67 2 + 1 := by have q := n188_2 2; omega
        intro x194 hx194
        subst hx194
        refine ⟨by omega, by omega, ?_⟩
        intro S202 hS202e
        have hS202 : Ch [] [98] S188 S202 := Ch_A hS202e
        have hS202v : ∀ x, (x = (a1) ∧ S202.2 98 x = 4) ∨ (¬ x = (a1) ∧ S202.2 98 x = S188.2 98 x) := pA_at hS202e
        refine ⟨by omega, by omega, ?_⟩
        refine ⟨by omega, ?_⟩
        intro S210 hS210e
        have hS210 : Ch [] [99] S202 S210 := Ch_A hS210e
        have hS210v : ∀ x, (x = (a1) ∧ S210.2 99 x = ((r188 - 60))) ∨ (¬ x = (a1) ∧ S210.2 99 x = S202.2 99 x) := pA_at hS210e
        unfold wX11_isObjectElement_214
        refine ⟨fun u1 u2 u3 u4 u5 u6 u7 Sx => Ch [] [103] S210 Sx ∧ (a1) = u1 ∧ (a2) = u2 ∧ ((S.2 90) a1) = u3 ∧ ((S.2 91) a1) = u4 ∧ l5 = u5 ∧ ((r188 - 60)) = u6 ∧ (iv 0 4 u7), fun u1 u2 u3 u4 u5 u6 u7 Sx => (5 - u7).toNat, ?_, fun v214_1 v214_2 v214_3 v214_4 v214_5 v214_6 v214_7 S214h hI => ?_⟩
        · exact ⟨Ch.re, rfl, rfl, rfl, rfl, rfl, rfl, by omega⟩
        obtain ⟨hS214h, rfl, rfl, rfl, rfl, rfl, rfl, i214_0⟩ := hI
        unfold wX11_isObjectElement_214'
        refine ⟨by omega, ?_⟩
        refine ⟨fun h217 => ?_, fun h217 => ?_⟩
        · unfold wX11_isObjectElement_245
          refine ⟨fun u1 u2 u3 u4 u5 u6 u7 u8 Sx => Ch [67] [69, 70, 102, 104] S214h Sx ∧ (a1) = u1 ∧ (a2) = u2 ∧ ((S.2 90) a1) = u3 ∧ ((S.2 91) a1) = u4 ∧ l5 = u5 ∧ ((r188 - 60)) = u6 ∧ (iv 0 1 u7) ∧ (u3 ≤ u8) ∧ (u8 ≤ 601) ∧ (OKg Sx 2 60) ∧ (∀ x, (4 * (60 + (S.2 67) 2) ≤ x ∧ x ≤ 4 * (60 + (S.2 67) 2) + 3) ∨ (Sx.2 69) x = (S214h.2 69) x) ∧ (∀ x, (80 * (60 + (S.2 67) 2) ≤ x ∧ x < 80 * (60 + (S.2 67) 2) + 80) ∨ (Sx.2 70) x = (S214h.2 70) x) ∧ (∀ y, y < 0 ∨ 3 < y ∨ ¬ (S.2 59) (4 * u5 + y) = 3 ∨ (Sx.2 69) (4 * (60 + (S.2 67) 2) + y) = (S214h.2 69) (4 * (60 + (S.2 67) 2) + y)), fun u1 u2 u3 u4 u5 u6 u7 u8 Sx => (u3 + u4 + 1 - u8).toNat, ?_, fun v245_1 v245_2 v245_3 v245_4 v245_5 v245_6 v245_7 v245_8 S245h hI => ?_⟩
          · exact ⟨Ch.re, rfl, rfl, rfl, rfl, rfl, rfl, by omega, by omega, by omega, (hOK0.mv (((Ch.tr (Ch.tr hS202 hS210) hS214h)).2 59 (by decide)) (((Ch.tr (Ch.tr hS202 hS210) hS214h)).2 67 (by decide)) (((Ch.tr (Ch.tr hS202 hS210) hS214h)).2 68 (by decide)) (((Ch.tr (Ch.tr hS202 hS210) hS214h)).2 69 (by decide))), (by
                intro x
                exact Or.inr rfl), (by
                intro x
                exact Or.inr rfl), (by
                intro y
                exact Or.inr (Or.inr (Or.inr rfl)))⟩
          obtain ⟨hS245h, rfl, rfl, rfl, rfl, rfl, rfl, i245_0, i245_1, i245_2, i245_3, i245_4, i245_5, i245_6⟩ := hI
          unfold wX11_isObjectElement_245'
          refine ⟨by omega, ?_⟩
          refine ⟨by omega, ?_⟩
          refine ⟨fun h251 => ?_, fun h251 => ?_⟩
          · refine ⟨by omega, ?_⟩
            have e2 : S245h.2 98 a1 = S214h.2 98 a1 := congrFun (hS245h.2 98 (by decide)) _
            have e3 : S214h.2 98 a1 = S210.2 98 a1 := congrFun (hS214h.2 98 (by decide)) _
            have e4 : S210.2 98 a1 = S202.2 98 a1 := congrFun (hS210.2 98 (by decide)) _
            have e5 : S202.2 98 a1 = (4) := by have q := hS202v a1; omega
            have e6 : S188.2 98 a1 = S.2 98 a1 := congrFun (hS188.2 98 (by decide)) _
            have e7 : S245h.2 99 a1 = S214h.2 99 a1 := congrFun (hS245h.2 99 (by decide)) _
            have e8 : S214h.2 99 a1 = S210.2 99 a1 := congrFun (hS214h.2 99 (by decide)) _
            have e9 : S210.2 99 a1 = (((r188 - 60))) := by have q := hS210v a1; omega
            have e10 : S202.2 99 a1 = S188.2 99 a1 := congrFun (hS202.2 99 (by decide)) _
            have e11 : S188.2 99 a1 = S.2 99 a1 := congrFun (hS188.2 99 (by decide)) _
            have e12 : S245h.2 67 2 = S214h.2 67 2 := congrFun (hS245h.2 67 (by decide)) _
            have e13 : S214h.2 67 2 = S210.2 67 2 := congrFun (hS214h.2 67 (by decide)) _
            have e14 : S210.2 67 2 = S202.2 67 2 := congrFun (hS210.2 67 (by decide)) _
            have e15 : S202.2 67 2 = S188.2 67 2 := congrFun (hS202.2 67 (by decide)) _
            first | have e16 : S188.2 67 2 = S.2 67 2 := by have q := n188_2 2; omega | have e16 := n188_2 2
            have e17 : S245h.2 67 2 = S214h.2 67 2 := congrFun (hS245h.2 67 (by decide)) _
            have e18 : S214h.2 67 2 = S210.2 67 2 := congrFun (hS214h.2 67 (by decide)) _
            have e19 : S210.2 67 2 = S202.2 67 2 := congrFun (hS210.2 67 (by decide)) _
            have e20 : S202.2 67 2 = S188.2 67 2 := congrFun (hS202.2 67 (by decide)) _
            first | have e21 : S188.2 67 2 = S.2 67 2 := by have q := n188_2 2; omega | have e21 := n188_2 2
            exact hK (v245_7) S245h (Ch.wk (Ch.tr (Ch.tr (Ch.tr (Ch.tr hS188 hS202) hS210) hS214h) hS245h) (by decide) (by decide)) (by omega) (OE_more hOE0 ((hS188).2 59 (by decide)) hc2 (((Ch.tr (Ch.tr (Ch.tr hS202 hS210) hS214h) hS245h)).2 67 (by decide)) (((Ch.tr (Ch.tr (Ch.tr hS202 hS210) hS214h) hS245h)).2 68 (by decide)) (by
                  intro x
                  have q := i245_4 x
                  have q1 : S214h.2 69 x = S188.2 69 x := congrFun (((Ch.tr (Ch.tr hS202 hS210) hS214h)).2 69 (by decide)) _
                  omega) (by
                  intro x
                  have q := i245_5 x
                  have q1 : S214h.2 70 x = S188.2 70 x := congrFun (((Ch.tr (Ch.tr hS202 hS210) hS214h)).2 70 (by decide)) _
                  omega) (by
                  intro y
                  have q := i245_6 y
                  have q1 : S214h.2 69 (4 * (60 + S.2 67 2) + y) = S188.2 69 (4 * (60 + S.2 67 2) + y) := congrFun (((Ch.tr (Ch.tr hS202 hS210) hS214h)).2 69 (by decide)) _
                  rw [hkc]
                  omega)) i245_3 (by
                  intro x
                  have e22 : S245h.2 98 x = S214h.2 98 x := congrFun (hS245h.2 98 (by decide)) _
                  have e23 : S214h.2 98 x = S210.2 98 x := congrFun (hS214h.2 98 (by decide)) _
                  have e24 : S210.2 98 x = S202.2 98 x := congrFun (hS210.2 98 (by decide)) _
                  have e25 := hS202v x
                  have e26 : S188.2 98 x = S.2 98 x := congrFun (hS188.2 98 (by decide)) _
                  omega) (by
                  intro x
                  have e27 : S245h.2 99 x = S214h.2 99 x := congrFun (hS245h.2 99 (by decide)) _
                  have e28 : S214h.2 99 x = S210.2 99 x := congrFun (hS214h.2 99 (by decide)) _
                  have e29 := hS210v x
                  have e30 : S202.2 99 x = S188.2 99 x := congrFun (hS202.2 99 (by decide)) _
                  have e31 : S188.2 99 x = S.2 99 x := congrFun (hS188.2 99 (by decide)) _
                  omega) (by omega) (by omega)
          · have hpa := p5.at (x := v245_8) (by omega) (by omega)
            refine ⟨by omega, ?_⟩
            refine ⟨fun h256 => ?_, fun h256 => ?_⟩
            · refine ⟨by omega, ?_⟩
              have e32 : S245h.2 98 a1 = S214h.2 98 a1 := congrFun (hS245h.2 98 (by decide)) _
              have e33 : S214h.2 98 a1 = S210.2 98 a1 := congrFun (hS214h.2 98 (by decide)) _
              have e34 : S210.2 98 a1 = S202.2 98 a1 := congrFun (hS210.2 98 (by decide)) _
              have e35 : S202.2 98 a1 = (4) := by have q := hS202v a1; omega
              have e36 : S188.2 98 a1 = S.2 98 a1 := congrFun (hS188.2 98 (by decide)) _
              have e37 : S245h.2 99 a1 = S214h.2 99 a1 := congrFun (hS245h.2 99 (by decide)) _
              have e38 : S214h.2 99 a1 = S210.2 99 a1 := congrFun (hS214h.2 99 (by decide)) _
              have e39 : S210.2 99 a1 = (((r188 - 60))) := by have q := hS210v a1; omega
              have e40 : S202.2 99 a1 = S188.2 99 a1 := congrFun (hS202.2 99 (by decide)) _
              have e41 : S188.2 99 a1 = S.2 99 a1 := congrFun (hS188.2 99 (by decide)) _
              have e42 : S245h.2 67 2 = S214h.2 67 2 := congrFun (hS245h.2 67 (by decide)) _
              have e43 : S214h.2 67 2 = S210.2 67 2 := congrFun (hS214h.2 67 (by decide)) _
              have e44 : S210.2 67 2 = S202.2 67 2 := congrFun (hS210.2 67 (by decide)) _
              have e45 : S202.2 67 2 = S188.2 67 2 := congrFun (hS202.2 67 (by decide)) _
              first | have e46 : S188.2 67 2 = S.2 67 2 := by have q := n188_2 2; omega | have e46 := n188_2 2
              have e47 : S245h.2 67 2 = S214h.2 67 2 := congrFun (hS245h.2 67 (by decide)) _
              have e48 : S214h.2 67 2 = S210.2 67 2 := congrFun (hS214h.2 67 (by decide)) _
              have e49 : S210.2 67 2 = S202.2 67 2 := congrFun (hS210.2 67 (by decide)) _
              have e50 : S202.2 67 2 = S188.2 67 2 := congrFun (hS202.2 67 (by decide)) _
              first | have e51 : S188.2 67 2 = S.2 67 2 := by have q := n188_2 2; omega | have e51 := n188_2 2
              exact hK (v245_7) S245h (Ch.wk (Ch.tr (Ch.tr (Ch.tr (Ch.tr hS188 hS202) hS210) hS214h) hS245h) (by decide) (by decide)) (by omega) (OE_more hOE0 ((hS188).2 59 (by decide)) hc2 (((Ch.tr (Ch.tr (Ch.tr hS202 hS210) hS214h) hS245h)).2 67 (by decide)) (((Ch.tr (Ch.tr (Ch.tr hS202 hS210) hS214h) hS245h)).2 68 (by decide)) (by
                    intro x
                    have q := i245_4 x
                    have q1 : S214h.2 69 x = S188.2 69 x := congrFun (((Ch.tr (Ch.tr hS202 hS210) hS214h)).2 69 (by decide)) _
                    omega) (by
                    intro x
                    have q := i245_5 x
                    have q1 : S214h.2 70 x = S188.2 70 x := congrFun (((Ch.tr (Ch.tr hS202 hS210) hS214h)).2 70 (by decide)) _
                    omega) (by
                    intro y
                    have q := i245_6 y
                    have q1 : S214h.2 69 (4 * (60 + S.2 67 2) + y) = S188.2 69 (4 * (60 + S.2 67 2) + y) := congrFun (((Ch.tr (Ch.tr hS202 hS210) hS214h)).2 69 (by decide)) _
                    rw [hkc]
                    omega)) i245_3 (by
                    intro x
                    have e52 : S245h.2 98 x = S214h.2 98 x := congrFun (hS245h.2 98 (by decide)) _
                    have e53 : S214h.2 98 x = S210.2 98 x := congrFun (hS214h.2 98 (by decide)) _
                    have e54 : S210.2 98 x = S202.2 98 x := congrFun (hS210.2 98 (by decide)) _
                    have e55 := hS202v x
                    have e56 : S188.2 98 x = S.2 98 x := congrFun (hS188.2 98 (by decide)) _
                    omega) (by
                    intro x
                    have e57 : S245h.2 99 x = S214h.2 99 x := congrFun (hS245h.2 99 (by decide)) _
                    have e58 : S214h.2 99 x = S210.2 99 x := congrFun (hS214h.2 99 (by decide)) _
                    have e59 := hS210v x
                    have e60 : S202.2 99 x = S188.2 99 x := congrFun (hS202.2 99 (by decide)) _
                    have e61 : S188.2 99 x = S.2 99 x := congrFun (hS188.2 99 (by decide)) _
                    omega) (by omega) (by omega)
            · refine ⟨by omega, by omega, ?_⟩
              intro q62
              have e63 : S245h.2 92 (v245_8) = S214h.2 92 (v245_8) := congrFun (hS245h.2 92 (by decide)) _
              have e64 : S214h.2 92 (v245_8) = S210.2 92 (v245_8) := congrFun (hS214h.2 92 (by decide)) _
              have e65 : S210.2 92 (v245_8) = S202.2 92 (v245_8) := congrFun (hS210.2 92 (by decide)) _
              have e66 : S202.2 92 (v245_8) = S188.2 92 (v245_8) := congrFun (hS202.2 92 (by decide)) _
              have e67 : S188.2 92 (v245_8) = S.2 92 (v245_8) := congrFun (hS188.2 92 (by decide)) _
              refine ⟨by omega, by omega, ?_⟩
              intro q68
              have e69 : S245h.2 93 (v245_8) = S214h.2 93 (v245_8) := congrFun (hS245h.2 93 (by decide)) _
              have e70 : S214h.2 93 (v245_8) = S210.2 93 (v245_8) := congrFun (hS214h.2 93 (by decide)) _
              have e71 : S210.2 93 (v245_8) = S202.2 93 (v245_8) := congrFun (hS210.2 93 (by decide)) _
              have e72 : S202.2 93 (v245_8) = S188.2 93 (v245_8) := congrFun (hS202.2 93 (by decide)) _
              have e73 : S188.2 93 (v245_8) = S.2 93 (v245_8) := congrFun (hS188.2 93 (by decide)) _
              refine ⟨by omega, ?_⟩
              refine tX11_fieldNamed (by omega) (by omega) (by omega) (by omega) (by omega) (fun r277 n277_0 n277_1 => ?_)
              refine ⟨by omega, ?_⟩
              refine ⟨fun h286 => ?_, fun h286 => ?_⟩
              · refine ⟨by omega, ?_⟩
                refine ⟨fun h309 => ?_, fun h309 => ?_⟩
                · unfold wX11_isObjectElement_322
                  refine ⟨by omega, ?_⟩
                  have e74 : S245h.2 92 (v245_8) = S214h.2 92 (v245_8) := congrFun (hS245h.2 92 (by decide)) _
                  have e75 : S214h.2 92 (v245_8) = S210.2 92 (v245_8) := congrFun (hS214h.2 92 (by decide)) _
                  have e76 : S210.2 92 (v245_8) = S202.2 92 (v245_8) := congrFun (hS210.2 92 (by decide)) _
                  have e77 : S202.2 92 (v245_8) = S188.2 92 (v245_8) := congrFun (hS202.2 92 (by decide)) _
                  have e78 : S188.2 92 (v245_8) = S.2 92 (v245_8) := congrFun (hS188.2 92 (by decide)) _
                  have e79 : S245h.2 93 (v245_8) = S214h.2 93 (v245_8) := congrFun (hS245h.2 93 (by decide)) _
                  have e80 : S214h.2 93 (v245_8) = S210.2 93 (v245_8) := congrFun (hS214h.2 93 (by decide)) _
                  have e81 : S210.2 93 (v245_8) = S202.2 93 (v245_8) := congrFun (hS210.2 93 (by decide)) _
                  have e82 : S202.2 93 (v245_8) = S188.2 93 (v245_8) := congrFun (hS202.2 93 (by decide)) _
                  have e83 : S188.2 93 (v245_8) = S.2 93 (v245_8) := congrFun (hS188.2 93 (by decide)) _
                  refine tX11_isKey (by omega) (by omega) (fun r326 n326_0 => ?_)
                  refine ⟨by omega, ?_⟩
                  refine ⟨fun h329 => ?_, fun h329 => ?_⟩
                  · unfold wX11_isObjectElement_346
                    unfold wX11_isObjectElement_347
                    unfold wX11_isObjectElement_349
                    exact ⟨⟨(Ch.wk hS245h (by decide) (by decide)), rfl, rfl, rfl, rfl, rfl, rfl, by omega, by omega, by omega, i245_3, (by
                          intro x
                          have e84 := i245_4 x
                          have e85 : S214h.2 69 x = S210.2 69 x := congrFun (hS214h.2 69 (by decide)) _
                          have e86 : S210.2 69 x = S202.2 69 x := congrFun (hS210.2 69 (by decide)) _
                          have e87 : S202.2 69 x = S188.2 69 x := congrFun (hS202.2 69 (by decide)) _
                          have e88 := n188_4 x
                          omega), (by
                          intro x
                          have e89 := i245_5 x
                          have e90 : S214h.2 70 x = S210.2 70 x := congrFun (hS214h.2 70 (by decide)) _
                          have e91 : S210.2 70 x = S202.2 70 x := congrFun (hS210.2 70 (by decide)) _
                          have e92 : S202.2 70 x = S188.2 70 x := congrFun (hS202.2 70 (by decide)) _
                          have e93 : S188.2 70 x = S.2 70 x := congrFun (hS188.2 70 (by decide)) _
                          omega), i245_6⟩, show ((((S.2 90) a1)) + (((S.2 91) a1)) + 1 - ((v245_8 + 1))).toNat < ((((S.2 90) a1)) + (((S.2 91) a1)) + 1 - v245_8).toNat by omega⟩
                  · refine ⟨by omega, ?_⟩
                    have e94 : S245h.2 94 (v245_8) = S214h.2 94 (v245_8) := congrFun (hS245h.2 94 (by decide)) _
                    have e95 : S214h.2 94 (v245_8) = S210.2 94 (v245_8) := congrFun (hS214h.2 94 (by decide)) _
                    have e96 : S210.2 94 (v245_8) = S202.2 94 (v245_8) := congrFun (hS210.2 94 (by decide)) _
                    have e97 : S202.2 94 (v245_8) = S188.2 94 (v245_8) := congrFun (hS202.2 94 (by decide)) _
                    have e98 : S188.2 94 (v245_8) = S.2 94 (v245_8) := congrFun (hS188.2 94 (by decide)) _
                    have e99 : S245h.2 95 (v245_8) = S214h.2 95 (v245_8) := congrFun (hS245h.2 95 (by decide)) _
                    have e100 : S214h.2 95 (v245_8) = S210.2 95 (v245_8) := congrFun (hS214h.2 95 (by decide)) _
                    have e101 : S210.2 95 (v245_8) = S202.2 95 (v245_8) := congrFun (hS210.2 95 (by decide)) _
                    have e102 : S202.2 95 (v245_8) = S188.2 95 (v245_8) := congrFun (hS202.2 95 (by decide)) _
                    have e103 : S188.2 95 (v245_8) = S.2 95 (v245_8) := congrFun (hS188.2 95 (by decide)) _
                    refine tX11_isId (by omega) (by omega) (by omega) (fun r336 S336 hS336 n336_0 => ?_)
                    refine ⟨by omega, ?_⟩
                    refine ⟨fun h339 => ?_, fun h339 => ?_⟩
                    · unfold wX11_isObjectElement_346
                      unfold wX11_isObjectElement_347
                      unfold wX11_isObjectElement_349
                      exact ⟨⟨(Ch.wk (Ch.tr hS245h hS336) (by decide) (by decide)), rfl, rfl, rfl, rfl, rfl, rfl, by omega, by omega, by omega, (i245_3.mv ((hS336).2 59 (by decide)) ((hS336).2 67 (by decide)) ((hS336).2 68 (by decide)) ((hS336).2 69 (by decide))), (by
                            intro x
                            have e104 : S336.2 69 x = S245h.2 69 x := congrFun (hS336.2 69 (by decide)) _
                            have e105 := i245_4 x
                            have e106 : S214h.2 69 x = S210.2 69 x := congrFun (hS214h.2 69 (by decide)) _
                            have e107 : S210.2 69 x = S202.2 69 x := congrFun (hS210.2 69 (by decide)) _
                            have e108 : S202.2 69 x = S188.2 69 x := congrFun (hS202.2 69 (by decide)) _
                            have e109 := n188_4 x
                            omega), (by
                            intro x
                            have e110 : S336.2 70 x = S245h.2 70 x := congrFun (hS336.2 70 (by decide)) _
                            have e111 := i245_5 x
                            have e112 : S214h.2 70 x = S210.2 70 x := congrFun (hS214h.2 70 (by decide)) _
                            have e113 : S210.2 70 x = S202.2 70 x := congrFun (hS210.2 70 (by decide)) _
                            have e114 : S202.2 70 x = S188.2 70 x := congrFun (hS202.2 70 (by decide)) _
                            have e115 : S188.2 70 x = S.2 70 x := congrFun (hS188.2 70 (by decide)) _
                            omega), (by rw [show S336.2 69 = S245h.2 69 from ((hS336).2 69 (by decide))]; exact i245_6)⟩, show ((((S.2 90) a1)) + (((S.2 91) a1)) + 1 - ((v245_8 + 1))).toNat < ((((S.2 90) a1)) + (((S.2 91) a1)) + 1 - v245_8).toNat by omega⟩
                    · unfold wX11_isObjectElement_342
                      unfold wX11_isObjectElement_347
                      unfold wX11_isObjectElement_349
                      exact ⟨⟨(Ch.wk (Ch.tr hS245h hS336) (by decide) (by decide)), rfl, rfl, rfl, rfl, rfl, rfl, by omega, by omega, by omega, (i245_3.mv ((hS336).2 59 (by decide)) ((hS336).2 67 (by decide)) ((hS336).2 68 (by decide)) ((hS336).2 69 (by decide))), (by
                            intro x
                            have e116 : S336.2 69 x = S245h.2 69 x := congrFun (hS336.2 69 (by decide)) _
                            have e117 := i245_4 x
                            have e118 : S214h.2 69 x = S210.2 69 x := congrFun (hS214h.2 69 (by decide)) _
                            have e119 : S210.2 69 x = S202.2 69 x := congrFun (hS210.2 69 (by decide)) _
                            have e120 : S202.2 69 x = S188.2 69 x := congrFun (hS202.2 69 (by decide)) _
                            have e121 := n188_4 x
                            omega), (by
                            intro x
                            have e122 : S336.2 70 x = S245h.2 70 x := congrFun (hS336.2 70 (by decide)) _
                            have e123 := i245_5 x
                            have e124 : S214h.2 70 x = S210.2 70 x := congrFun (hS214h.2 70 (by decide)) _
                            have e125 : S210.2 70 x = S202.2 70 x := congrFun (hS210.2 70 (by decide)) _
                            have e126 : S202.2 70 x = S188.2 70 x := congrFun (hS202.2 70 (by decide)) _
                            have e127 : S188.2 70 x = S.2 70 x := congrFun (hS188.2 70 (by decide)) _
                            omega), (by rw [show S336.2 69 = S245h.2 69 from ((hS336).2 69 (by decide))]; exact i245_6)⟩, show ((((S.2 90) a1)) + (((S.2 91) a1)) + 1 - ((v245_8 + 1))).toNat < ((((S.2 90) a1)) + (((S.2 91) a1)) + 1 - v245_8).toNat by omega⟩
                · have e128 : S245h.2 92 (v245_8) = S214h.2 92 (v245_8) := congrFun (hS245h.2 92 (by decide)) _
                  have e129 : S214h.2 92 (v245_8) = S210.2 92 (v245_8) := congrFun (hS214h.2 92 (by decide)) _
                  have e130 : S210.2 92 (v245_8) = S202.2 92 (v245_8) := congrFun (hS210.2 92 (by decide)) _
                  have e131 : S202.2 92 (v245_8) = S188.2 92 (v245_8) := congrFun (hS202.2 92 (by decide)) _
                  have e132 : S188.2 92 (v245_8) = S.2 92 (v245_8) := congrFun (hS188.2 92 (by decide)) _
                  have e133 : S245h.2 93 (v245_8) = S214h.2 93 (v245_8) := congrFun (hS245h.2 93 (by decide)) _
                  have e134 : S214h.2 93 (v245_8) = S210.2 93 (v245_8) := congrFun (hS214h.2 93 (by decide)) _
                  have e135 : S210.2 93 (v245_8) = S202.2 93 (v245_8) := congrFun (hS210.2 93 (by decide)) _
                  have e136 : S202.2 93 (v245_8) = S188.2 93 (v245_8) := congrFun (hS202.2 93 (by decide)) _
                  have e137 : S188.2 93 (v245_8) = S.2 93 (v245_8) := congrFun (hS188.2 93 (by decide)) _
                  refine tX11_isKey (by omega) (by omega) (fun r316 n316_0 => ?_)
                  refine ⟨by omega, ?_⟩
                  refine ⟨fun h319 => ?_, fun h319 => ?_⟩
                  · unfold wX11_isObjectElement_342
                    unfold wX11_isObjectElement_347
                    unfold wX11_isObjectElement_349
                    exact ⟨⟨(Ch.wk hS245h (by decide) (by decide)), rfl, rfl, rfl, rfl, rfl, rfl, by omega, by omega, by omega, i245_3, (by
                          intro x
                          have e138 := i245_4 x
                          have e139 : S214h.2 69 x = S210.2 69 x := congrFun (hS214h.2 69 (by decide)) _
                          have e140 : S210.2 69 x = S202.2 69 x := congrFun (hS210.2 69 (by decide)) _
                          have e141 : S202.2 69 x = S188.2 69 x := congrFun (hS202.2 69 (by decide)) _
                          have e142 := n188_4 x
                          omega), (by
                          intro x
                          have e143 := i245_5 x
                          have e144 : S214h.2 70 x = S210.2 70 x := congrFun (hS214h.2 70 (by decide)) _
                          have e145 : S210.2 70 x = S202.2 70 x := congrFun (hS210.2 70 (by decide)) _
                          have e146 : S202.2 70 x = S188.2 70 x := congrFun (hS202.2 70 (by decide)) _
                          have e147 : S188.2 70 x = S.2 70 x := congrFun (hS188.2 70 (by decide)) _
                          omega), i245_6⟩, show ((((S.2 90) a1)) + (((S.2 91) a1)) + 1 - ((v245_8 + 1))).toNat < ((((S.2 90) a1)) + (((S.2 91) a1)) + 1 - v245_8).toNat by omega⟩
                  · unfold wX11_isObjectElement_322
                    refine ⟨by omega, ?_⟩
                    have e148 : S245h.2 92 (v245_8) = S214h.2 92 (v245_8) := congrFun (hS245h.2 92 (by decide)) _
                    have e149 : S214h.2 92 (v245_8) = S210.2 92 (v245_8) := congrFun (hS214h.2 92 (by decide)) _
                    have e150 : S210.2 92 (v245_8) = S202.2 92 (v245_8) := congrFun (hS210.2 92 (by decide)) _
                    have e151 : S202.2 92 (v245_8) = S188.2 92 (v245_8) := congrFun (hS202.2 92 (by decide)) _
                    have e152 : S188.2 92 (v245_8) = S.2 92 (v245_8) := congrFun (hS188.2 92 (by decide)) _
                    have e153 : S245h.2 93 (v245_8) = S214h.2 93 (v245_8) := congrFun (hS245h.2 93 (by decide)) _
                    have e154 : S214h.2 93 (v245_8) = S210.2 93 (v245_8) := congrFun (hS214h.2 93 (by decide)) _
                    have e155 : S210.2 93 (v245_8) = S202.2 93 (v245_8) := congrFun (hS210.2 93 (by decide)) _
                    have e156 : S202.2 93 (v245_8) = S188.2 93 (v245_8) := congrFun (hS202.2 93 (by decide)) _
                    have e157 : S188.2 93 (v245_8) = S.2 93 (v245_8) := congrFun (hS188.2 93 (by decide)) _
                    refine tX11_isKey (by omega) (by omega) (fun r326 n326_0 => ?_)
                    refine ⟨by omega, ?_⟩
                    refine ⟨fun h329 => ?_, fun h329 => ?_⟩
                    · unfold wX11_isObjectElement_346
                      unfold wX11_isObjectElement_347
                      unfold wX11_isObjectElement_349
                      exact ⟨⟨(Ch.wk hS245h (by decide) (by decide)), rfl, rfl, rfl, rfl, rfl, rfl, by omega, by omega, by omega, i245_3, (by
                            intro x
                            have e158 := i245_4 x
                            have e159 : S214h.2 69 x = S210.2 69 x := congrFun (hS214h.2 69 (by decide)) _
                            have e160 : S210.2 69 x = S202.2 69 x := congrFun (hS210.2 69 (by decide)) _
                            have e161 : S202.2 69 x = S188.2 69 x := congrFun (hS202.2 69 (by decide)) _
                            have e162 := n188_4 x
                            omega), (by
                            intro x
                            have e163 := i245_5 x
                            have e164 : S214h.2 70 x = S210.2 70 x := congrFun (hS214h.2 70 (by decide)) _
                            have e165 : S210.2 70 x = S202.2 70 x := congrFun (hS210.2 70 (by decide)) _
                            have e166 : S202.2 70 x = S188.2 70 x := congrFun (hS202.2 70 (by decide)) _
                            have e167 : S188.2 70 x = S.2 70 x := congrFun (hS188.2 70 (by decide)) _
                            omega), i245_6⟩, show ((((S.2 90) a1)) + (((S.2 91) a1)) + 1 - ((v245_8 + 1))).toNat < ((((S.2 90) a1)) + (((S.2 91) a1)) + 1 - v245_8).toNat by omega⟩
                    · refine ⟨by omega, ?_⟩
                      have e168 : S245h.2 94 (v245_8) = S214h.2 94 (v245_8) := congrFun (hS245h.2 94 (by decide)) _
                      have e169 : S214h.2 94 (v245_8) = S210.2 94 (v245_8) := congrFun (hS214h.2 94 (by decide)) _
                      have e170 : S210.2 94 (v245_8) = S202.2 94 (v245_8) := congrFun (hS210.2 94 (by decide)) _
                      have e171 : S202.2 94 (v245_8) = S188.2 94 (v245_8) := congrFun (hS202.2 94 (by decide)) _
                      have e172 : S188.2 94 (v245_8) = S.2 94 (v245_8) := congrFun (hS188.2 94 (by decide)) _
                      have e173 : S245h.2 95 (v245_8) = S214h.2 95 (v245_8) := congrFun (hS245h.2 95 (by decide)) _
                      have e174 : S214h.2 95 (v245_8) = S210.2 95 (v245_8) := congrFun (hS214h.2 95 (by decide)) _
                      have e175 : S210.2 95 (v245_8) = S202.2 95 (v245_8) := congrFun (hS210.2 95 (by decide)) _
                      have e176 : S202.2 95 (v245_8) = S188.2 95 (v245_8) := congrFun (hS202.2 95 (by decide)) _
                      have e177 : S188.2 95 (v245_8) = S.2 95 (v245_8) := congrFun (hS188.2 95 (by decide)) _
                      refine tX11_isId (by omega) (by omega) (by omega) (fun r336 S336 hS336 n336_0 => ?_)
                      refine ⟨by omega, ?_⟩
                      refine ⟨fun h339 => ?_, fun h339 => ?_⟩
                      · unfold wX11_isObjectElement_346
                        unfold wX11_isObjectElement_347
                        unfold wX11_isObjectElement_349
                        exact ⟨⟨(Ch.wk (Ch.tr hS245h hS336) (by decide) (by decide)), rfl, rfl, rfl, rfl, rfl, rfl, by omega, by omega, by omega, (i245_3.mv ((hS336).2 59 (by decide)) ((hS336).2 67 (by decide)) ((hS336).2 68 (by decide)) ((hS336).2 69 (by decide))), (by
                              intro x
                              have e178 : S336.2 69 x = S245h.2 69 x := congrFun (hS336.2 69 (by decide)) _
                              have e179 := i245_4 x
                              have e180 : S214h.2 69 x = S210.2 69 x := congrFun (hS214h.2 69 (by decide)) _
                              have e181 : S210.2 69 x = S202.2 69 x := congrFun (hS210.2 69 (by decide)) _
                              have e182 : S202.2 69 x = S188.2 69 x := congrFun (hS202.2 69 (by decide)) _
                              have e183 := n188_4 x
                              omega), (by
                              intro x
                              have e184 : S336.2 70 x = S245h.2 70 x := congrFun (hS336.2 70 (by decide)) _
                              have e185 := i245_5 x
                              have e186 : S214h.2 70 x = S210.2 70 x := congrFun (hS214h.2 70 (by decide)) _
                              have e187 : S210.2 70 x = S202.2 70 x := congrFun (hS210.2 70 (by decide)) _
                              have e188 : S202.2 70 x = S188.2 70 x := congrFun (hS202.2 70 (by decide)) _
                              have e189 : S188.2 70 x = S.2 70 x := congrFun (hS188.2 70 (by decide)) _
                              omega), (by rw [show S336.2 69 = S245h.2 69 from ((hS336).2 69 (by decide))]; exact i245_6)⟩, show ((((S.2 90) a1)) + (((S.2 91) a1)) + 1 - ((v245_8 + 1))).toNat < ((((S.2 90) a1)) + (((S.2 91) a1)) + 1 - v245_8).toNat by omega⟩
                      · unfold wX11_isObjectElement_342
                        unfold wX11_isObjectElement_347
                        unfold wX11_isObjectElement_349
                        exact ⟨⟨(Ch.wk (Ch.tr hS245h hS336) (by decide) (by decide)), rfl, rfl, rfl, rfl, rfl, rfl, by omega, by omega, by omega, (i245_3.mv ((hS336).2 59 (by decide)) ((hS336).2 67 (by decide)) ((hS336).2 68 (by decide)) ((hS336).2 69 (by decide))), (by
                              intro x
                              have e190 : S336.2 69 x = S245h.2 69 x := congrFun (hS336.2 69 (by decide)) _
                              have e191 := i245_4 x
                              have e192 : S214h.2 69 x = S210.2 69 x := congrFun (hS214h.2 69 (by decide)) _
                              have e193 : S210.2 69 x = S202.2 69 x := congrFun (hS210.2 69 (by decide)) _
                              have e194 : S202.2 69 x = S188.2 69 x := congrFun (hS202.2 69 (by decide)) _
                              have e195 := n188_4 x
                              omega), (by
                              intro x
                              have e196 : S336.2 70 x = S245h.2 70 x := congrFun (hS336.2 70 (by decide)) _
                              have e197 := i245_5 x
                              have e198 : S214h.2 70 x = S210.2 70 x := congrFun (hS214h.2 70 (by decide)) _
                              have e199 : S210.2 70 x = S202.2 70 x := congrFun (hS210.2 70 (by decide)) _
                              have e200 : S202.2 70 x = S188.2 70 x := congrFun (hS202.2 70 (by decide)) _
                              have e201 : S188.2 70 x = S.2 70 x := congrFun (hS188.2 70 (by decide)) _
                              omega), (by rw [show S336.2 69 = S245h.2 69 from ((hS336).2 69 (by decide))]; exact i245_6)⟩, show ((((S.2 90) a1)) + (((S.2 91) a1)) + 1 - ((v245_8 + 1))).toNat < ((((S.2 90) a1)) + (((S.2 91) a1)) + 1 - v245_8).toNat by omega⟩
              · have e202 : S245h.2 94 (v245_8) = S214h.2 94 (v245_8) := congrFun (hS245h.2 94 (by decide)) _
                have e203 : S214h.2 94 (v245_8) = S210.2 94 (v245_8) := congrFun (hS214h.2 94 (by decide)) _
                have e204 : S210.2 94 (v245_8) = S202.2 94 (v245_8) := congrFun (hS210.2 94 (by decide)) _
                have e205 : S202.2 94 (v245_8) = S188.2 94 (v245_8) := congrFun (hS202.2 94 (by decide)) _
                have e206 : S188.2 94 (v245_8) = S.2 94 (v245_8) := congrFun (hS188.2 94 (by decide)) _
                have e207 : S245h.2 95 (v245_8) = S214h.2 95 (v245_8) := congrFun (hS245h.2 95 (by decide)) _
                have e208 : S214h.2 95 (v245_8) = S210.2 95 (v245_8) := congrFun (hS214h.2 95 (by decide)) _
                have e209 : S210.2 95 (v245_8) = S202.2 95 (v245_8) := congrFun (hS210.2 95 (by decide)) _
                have e210 : S202.2 95 (v245_8) = S188.2 95 (v245_8) := congrFun (hS202.2 95 (by decide)) _
                have e211 : S188.2 95 (v245_8) = S.2 95 (v245_8) := congrFun (hS188.2 95 (by decide)) _
                refine tX11_pieceOfValue (by omega) (by omega) (fun r292 S292 hS292 n292_0 => ?_)
                refine ⟨by omega, ?_⟩
                have e212 : S292.2 69 (4 * (60 + (((r188 - 60)))) + (r277)) = S245h.2 69 (4 * (60 + (((r188 - 60)))) + (r277)) := congrFun (hS292.2 69 (by decide)) _
                first | have e213 : S245h.2 69 (4 * (60 + (((r188 - 60)))) + (r277)) = S214h.2 69 (4 * (60 + (((r188 - 60)))) + (r277)) := by have q := i245_4 (4 * (60 + (((r188 - 60)))) + (r277)); omega | have e213 := i245_4 (4 * (60 + (((r188 - 60)))) + (r277))
                have e214 : S214h.2 69 (4 * (60 + (((r188 - 60)))) + (r277)) = S210.2 69 (4 * (60 + (((r188 - 60)))) + (r277)) := congrFun (hS214h.2 69 (by decide)) _
                have e215 : S210.2 69 (4 * (60 + (((r188 - 60)))) + (r277)) = S202.2 69 (4 * (60 + (((r188 - 60)))) + (r277)) := congrFun (hS210.2 69 (by decide)) _
                have e216 : S202.2 69 (4 * (60 + (((r188 - 60)))) + (r277)) = S188.2 69 (4 * (60 + (((r188 - 60)))) + (r277)) := congrFun (hS202.2 69 (by decide)) _
                first | have e217 : S188.2 69 (4 * (60 + (((r188 - 60)))) + (r277)) = S.2 69 (4 * (60 + (((r188 - 60)))) + (r277)) := by have q := n188_4 (4 * (60 + (((r188 - 60)))) + (r277)); omega | have e217 := n188_4 (4 * (60 + (((r188 - 60)))) + (r277))
                have e218 : S292.2 59 (4 * (S292.2 68) (60 + (((r188 - 60)))) + (r277)) = S245h.2 59 (4 * (S292.2 68) (60 + (((r188 - 60)))) + (r277)) := congrFun (hS292.2 59 (by decide)) _
                have e219 : S245h.2 59 (4 * (S292.2 68) (60 + (((r188 - 60)))) + (r277)) = S214h.2 59 (4 * (S292.2 68) (60 + (((r188 - 60)))) + (r277)) := congrFun (hS245h.2 59 (by decide)) _
                have e220 : S214h.2 59 (4 * (S292.2 68) (60 + (((r188 - 60)))) + (r277)) = S210.2 59 (4 * (S292.2 68) (60 + (((r188 - 60)))) + (r277)) := congrFun (hS214h.2 59 (by decide)) _
                have e221 : S210.2 59 (4 * (S292.2 68) (60 + (((r188 - 60)))) + (r277)) = S202.2 59 (4 * (S292.2 68) (60 + (((r188 - 60)))) + (r277)) := congrFun (hS210.2 59 (by decide)) _
                have e222 : S202.2 59 (4 * (S292.2 68) (60 + (((r188 - 60)))) + (r277)) = S188.2 59 (4 * (S292.2 68) (60 + (((r188 - 60)))) + (r277)) := congrFun (hS202.2 59 (by decide)) _
                have e223 : S188.2 59 (4 * (S292.2 68) (60 + (((r188 - 60)))) + (r277)) = S.2 59 (4 * (S292.2 68) (60 + (((r188 - 60)))) + (r277)) := congrFun (hS188.2 59 (by decide)) _
                have e224 : S292.2 68 (60 + (((r188 - 60)))) = S245h.2 68 (60 + (((r188 - 60)))) := congrFun (hS292.2 68 (by decide)) _
                have e225 : S245h.2 68 (60 + (((r188 - 60)))) = S214h.2 68 (60 + (((r188 - 60)))) := congrFun (hS245h.2 68 (by decide)) _
                have e226 : S214h.2 68 (60 + (((r188 - 60)))) = S210.2 68 (60 + (((r188 - 60)))) := congrFun (hS214h.2 68 (by decide)) _
                have e227 : S210.2 68 (60 + (((r188 - 60)))) = S202.2 68 (60 + (((r188 - 60)))) := congrFun (hS210.2 68 (by decide)) _
                have e228 : S202.2 68 (60 + (((r188 - 60)))) = S188.2 68 (60 + (((r188 - 60)))) := congrFun (hS202.2 68 (by decide)) _
                first | have e229 : S188.2 68 (60 + (((r188 - 60)))) = S.2 68 (60 + (((r188 - 60)))) := by have q := n188_3 (60 + (((r188 - 60)))); omega | have e229 := n188_3 (60 + (((r188 - 60))))
                refine tX11_becomes (by omega) (by omega) (fun r300 S300 hS300 n300_0 n300_1 n300_2 n300_3 => ?_)
                have hl6 : ((r188 - 60)) = S.2 67 2 := by omega
                have e68 : S292.2 68 (60 + S.2 67 2) = l5 := by rw [show S292.2 68 = S188.2 68 from (((Ch.tr (Ch.tr (Ch.tr (Ch.tr hS202 hS210) hS214h) hS245h) hS292)).2 68 (by decide))]; exact hkc
                rw [hl6] at n300_1 n300_2 n300_3
                rw [e68, show S292.2 59 = S.2 59 from (((Ch.tr (Ch.tr (Ch.tr (Ch.tr (Ch.tr hS188 hS202) hS210) hS214h) hS245h) hS292)).2 59 (by decide))] at n300_3
                have hkf : S.2 59 (4 * l5 + r277) ≤ 1 := by
                  have q := n277_1
                  rw [show S245h.2 59 = S.2 59 from (((Ch.tr (Ch.tr (Ch.tr (Ch.tr hS188 hS202) hS210) hS214h) hS245h)).2 59 (by decide))] at q
                  omega
                have hOKb : OKg S300 2 60 := OKg_bec (o := S.2 67 2) (f := r277) (i245_3.mv ((hS292).2 59 (by decide)) ((hS292).2 67 (by decide)) ((hS292).2 68 (by decide)) ((hS292).2 69 (by decide))) ((hS300).2 59 (by decide)) ((hS300).2 67 (by decide)) ((hS300).2 68 (by decide)) n300_1 (by omega) (by omega) (by rw [e68, show S292.2 59 = S.2 59 from (((Ch.tr (Ch.tr (Ch.tr (Ch.tr (Ch.tr hS188 hS202) hS210) hS214h) hS245h) hS292)).2 59 (by decide))]; exact hkf) (by rw [e68, show S292.2 59 = S.2 59 from (((Ch.tr (Ch.tr (Ch.tr (Ch.tr (Ch.tr hS188 hS202) hS210) hS214h) hS245h) hS292)).2 59 (by decide))]; exact n300_3)
                unfold wX11_isObjectElement_349
                exact ⟨⟨(Ch.wk (Ch.tr (Ch.tr hS245h hS292) hS300) (by decide) (by decide)), rfl, rfl, rfl, rfl, rfl, rfl, by omega, by omega, by omega, hOKb, (by
                      intro x
                      have e230 := n300_1 x
                      have e231 : S292.2 69 x = S245h.2 69 x := congrFun (hS292.2 69 (by decide)) _
                      have e232 := i245_4 x
                      have e233 : S214h.2 69 x = S210.2 69 x := congrFun (hS214h.2 69 (by decide)) _
                      have e234 : S210.2 69 x = S202.2 69 x := congrFun (hS210.2 69 (by decide)) _
                      have e235 : S202.2 69 x = S188.2 69 x := congrFun (hS202.2 69 (by decide)) _
                      have e236 := n188_4 x
                      omega), (by
                      intro x
                      have e237 := n300_2 x
                      have e238 : S292.2 70 x = S245h.2 70 x := congrFun (hS292.2 70 (by decide)) _
                      have e239 := i245_5 x
                      have e240 : S214h.2 70 x = S210.2 70 x := congrFun (hS214h.2 70 (by decide)) _
                      have e241 : S210.2 70 x = S202.2 70 x := congrFun (hS210.2 70 (by decide)) _
                      have e242 : S202.2 70 x = S188.2 70 x := congrFun (hS202.2 70 (by decide)) _
                      have e243 : S188.2 70 x = S.2 70 x := congrFun (hS188.2 70 (by decide)) _
                      omega), (by
                      intro y
                      have q := i245_6 y
                      have q1 := n300_1 (4 * (60 + S.2 67 2) + y)
                      have q2 : S292.2 69 (4 * (60 + S.2 67 2) + y) = S245h.2 69 (4 * (60 + S.2 67 2) + y) := congrFun ((hS292).2 69 (by decide)) _
                      by_cases hy : y = r277
                      · subst hy
                        omega
                      · omega)⟩, show ((((S.2 90) a1)) + (((S.2 91) a1)) + 1 - ((v245_8 + 1))).toNat < ((((S.2 90) a1)) + (((S.2 91) a1)) + 1 - v245_8).toNat by omega⟩
        · refine ⟨by omega, by omega, ?_⟩
          intro S232 hS232e
          have hS232 : Ch [] [103] S214h S232 := Ch_A hS232e
          have hS232v : ∀ x, (x = ((4 * ((r188 - 60))) + v214_7) ∧ S232.2 103 x = 0) ∨ (¬ x = ((4 * ((r188 - 60))) + v214_7) ∧ S232.2 103 x = S214h.2 103 x) := pA_at hS232e
          exact ⟨⟨(Ch.wk (Ch.tr hS214h hS232) (by decide) (by decide)), rfl, rfl, rfl, rfl, rfl, rfl, by omega⟩, show (5 - ((v214_7 + 1))).toNat < (5 - v214_7).toNat by omega⟩
      · exact hK (0) S (Ch.wk Ch.rf (by decide) (by decide)) (by omega) (OE.rf rfl rfl rfl rfl) p6 (by
              intro x
              omega) (by
              intro x
              omega) (by omega) (by omega)
set_option maxRecDepth 100000 in
set_option maxHeartbeats 4000000 in
theorem tX11_isObjectElement_84 {a1 a2 l1 l2 l3 l4 : Int} {S : St} {K : Int → St → Prop} (g1 : rng a1) (g2 : rng a2) (p1 : iv 0 199 a1) (p2 : a1 < (S.1 54 43)) (p3 : (S.1 54 43) ≤ 200) (p4 : PR S) (p5 : PA S) (p6 : OKg S 2 60) (p7 : iv 0 1 a2) (p8 : (S.1 54 51) ≤ 600) (p9 : iv 0 30 ((S.2 67) 2)) (p10 : (S.1 54 56) ≤ 3000)  (c1 : a1 = l1) (c2 : a2 = l2) (c3 : (S.2 90) a1 = l3) (c4 : (S.2 91) a1 = l4) (c5 : iv 0 600 ((S.2 90) a1)) (c6 : iv 0 600 ((S.2 91) a1)) (hK : ∀ (r : Int) (S' : St), Ch [67] [67, 68, 69, 70, 98, 99, 102, 103, 104] S S' → (iv 0 1 r) → (OE S S') → (OKg S' 2 60) → (∀ x, x = a1 ∨ (S'.2 98) x = (S.2 98) x) → (∀ x, x = a1 ∨ (S'.2 99) x = (S.2 99) x) → (r = 0 ∨ ((S'.2 98) a1 = 4 ∧ 0 ≤ (S'.2 99) a1 ∧ (S'.2 99) a1 < (S'.2 67) 2) ∨ ((S'.2 98) a1 = 5 ∧ (S.2 91) a1 = 1 ∧ ¬ (a1 + 1 < (S.1 54 43) ∧ (S.2 88) (a1 + 1) = a1))) → (iv 0 30 ((S'.2 67) 2)) → K r S') : wX11_isObjectElement_84 l1 l2 l3 l4 S K := by
  unfold wX11_isObjectElement_84
  subst c1
  subst c2
  subst c3
  subst c4
  have hpr := p4.at (x := a1) (by omega) (by omega)
  refine ⟨by omega, ?_⟩
  refine ⟨fun h85 => ?_, fun h85 => ?_⟩
  · refine ⟨by omega, by omega, ?_⟩
    intro q1
    refine ⟨by omega, by omega, ?_⟩
    intro q2
    refine tX11_classNamed (by omega) (by omega) (by omega) (fun r106 n106_0 n106_1 => ?_)
    unfold wX11_isObjectElement_109
    unfold wX11_isObjectElement_114
    refine ⟨fun u1 u2 u3 u4 u5 u6 Sx => S = Sx ∧ (a1) = u1 ∧ (a2) = u2 ∧ ((S.2 90) a1) = u3 ∧ ((S.2 91) a1) = u4 ∧ (u3 ≤ u6) ∧ (u6 ≤ 601) ∧ (u5 = -2 ∨ iv 0 5 u5), fun u1 u2 u3 u4 u5 u6 Sx => (u3 + u4 + 1 - u6).toNat, ?_, fun v114_1 v114_2 v114_3 v114_4 v114_5 v114_6 S114h hI => ?_⟩
    · exact ⟨rfl, rfl, rfl, rfl, rfl, by omega, by omega, by omega⟩
    obtain ⟨rfl, rfl, rfl, rfl, rfl, i114_0, i114_1, i114_2⟩ := hI
    unfold wX11_isObjectElement_114'
    refine ⟨by omega, ?_⟩
    refine ⟨by omega, ?_⟩
    refine ⟨fun h120 => ?_, fun h120 => ?_⟩
    · exact tX11_isObjectElement_156 g1 g2 p1 p2 p3 p4 p5 p6 p7 p8 p9 p10 (by omega) (by omega) (by omega) (by omega) (by omega) (by omega) (by omega) hK
    · refine ⟨by omega, ?_⟩
      refine ⟨fun h124 => ?_, fun h124 => ?_⟩
      · exact tX11_isObjectElement_156 g1 g2 p1 p2 p3 p4 p5 p6 p7 p8 p9 p10 (by omega) (by omega) (by omega) (by omega) (by omega) (by omega) (by omega) hK
      · have hpa := p5.at (x := v114_6) (by omega) (by omega)
        refine tX11_isKey (by omega) (by omega) (fun r131 n131_0 => ?_)
        refine ⟨by omega, ?_⟩
        refine ⟨fun h134 => ?_, fun h134 => ?_⟩
        · unfold wX11_isObjectElement_148
          exact ⟨⟨rfl, rfl, rfl, rfl, rfl, by omega, by omega, by omega⟩, show ((((S.2 90) a1)) + (((S.2 91) a1)) + 1 - ((v114_6 + 1))).toNat < ((((S.2 90) a1)) + (((S.2 91) a1)) + 1 - v114_6).toNat by omega⟩
        · refine tX11_classOfValue (by omega) (by omega) (fun r140 n140_0 n140_1 => ?_)
          unfold wX11_isObjectElement_148
          exact ⟨⟨rfl, rfl, rfl, rfl, rfl, by omega, by omega, by omega⟩, show ((((S.2 90) a1)) + (((S.2 91) a1)) + 1 - ((v114_6 + 1))).toNat < ((((S.2 90) a1)) + (((S.2 91) a1)) + 1 - v114_6).toNat by omega⟩
  · unfold wX11_isObjectElement_109
    unfold wX11_isObjectElement_114
    refine ⟨fun u1 u2 u3 u4 u5 u6 Sx => S = Sx ∧ (a1) = u1 ∧ (a2) = u2 ∧ ((S.2 90) a1) = u3 ∧ ((S.2 91) a1) = u4 ∧ (u3 ≤ u6) ∧ (u6 ≤ 601) ∧ (u5 = -2 ∨ iv 0 5 u5), fun u1 u2 u3 u4 u5 u6 Sx => (u3 + u4 + 1 - u6).toNat, ?_, fun v114_1 v114_2 v114_3 v114_4 v114_5 v114_6 S114h hI => ?_⟩
    · exact ⟨rfl, rfl, rfl, rfl, rfl, by omega, by omega, by omega⟩
    obtain ⟨rfl, rfl, rfl, rfl, rfl, i114_0, i114_1, i114_2⟩ := hI
    unfold wX11_isObjectElement_114'
    refine ⟨by omega, ?_⟩
    refine ⟨by omega, ?_⟩
    refine ⟨fun h120 => ?_, fun h120 => ?_⟩
    · exact tX11_isObjectElement_156 g1 g2 p1 p2 p3 p4 p5 p6 p7 p8 p9 p10 (by omega) (by omega) (by omega) (by omega) (by omega) (by omega) (by omega) hK
    · refine ⟨by omega, ?_⟩
      refine ⟨fun h124 => ?_, fun h124 => ?_⟩
      · exact tX11_isObjectElement_156 g1 g2 p1 p2 p3 p4 p5 p6 p7 p8 p9 p10 (by omega) (by omega) (by omega) (by omega) (by omega) (by omega) (by omega) hK
      · have hpa := p5.at (x := v114_6) (by omega) (by omega)
        refine tX11_isKey (by omega) (by omega) (fun r131 n131_0 => ?_)
        refine ⟨by omega, ?_⟩
        refine ⟨fun h134 => ?_, fun h134 => ?_⟩
        · unfold wX11_isObjectElement_148
          exact ⟨⟨rfl, rfl, rfl, rfl, rfl, by omega, by omega, by omega⟩, show ((((S.2 90) a1)) + (((S.2 91) a1)) + 1 - ((v114_6 + 1))).toNat < ((((S.2 90) a1)) + (((S.2 91) a1)) + 1 - v114_6).toNat by omega⟩
        · refine tX11_classOfValue (by omega) (by omega) (fun r140 n140_0 n140_1 => ?_)
          unfold wX11_isObjectElement_148
          exact ⟨⟨rfl, rfl, rfl, rfl, rfl, by omega, by omega, by omega⟩, show ((((S.2 90) a1)) + (((S.2 91) a1)) + 1 - ((v114_6 + 1))).toNat < ((((S.2 90) a1)) + (((S.2 91) a1)) + 1 - v114_6).toNat by omega⟩
set_option maxRecDepth 100000 in
set_option maxHeartbeats 4000000 in
theorem tX11_isObjectElement {a1 a2 : Int} {S : St} {K : Int → St → Prop} (p1 : iv 0 199 a1) (p2 : a1 < (S.1 54 43)) (p3 : (S.1 54 43) ≤ 200) (p4 : PR S) (p5 : PA S) (p6 : OKg S 2 60) (p7 : iv 0 1 a2) (p8 : (S.1 54 51) ≤ 600) (p9 : iv 0 30 ((S.2 67) 2)) (p10 : (S.1 54 56) ≤ 3000) (hK : ∀ (r : Int) (S' : St), Ch [67] [67, 68, 69, 70, 98, 99, 102, 103, 104] S S' → (iv 0 1 r) → (OE S S') → (OKg S' 2 60) → (∀ x, x = a1 ∨ (S'.2 98) x = (S.2 98) x) → (∀ x, x = a1 ∨ (S'.2 99) x = (S.2 99) x) → (r = 0 ∨ ((S'.2 98) a1 = 4 ∧ 0 ≤ (S'.2 99) a1 ∧ (S'.2 99) a1 < (S'.2 67) 2) ∨ ((S'.2 98) a1 = 5 ∧ (S.2 91) a1 = 1 ∧ ¬ (a1 + 1 < (S.1 54 43) ∧ (S.2 88) (a1 + 1) = a1))) → (iv 0 30 ((S'.2 67) 2)) → K r S') : wX11_isObjectElement a1 a2 S K := by
  unfold wX11_isObjectElement
  intro g1 g2
  refine ⟨by omega, by omega, ?_⟩
  intro q1
  intro x6 hx6
  subst hx6
  refine ⟨by omega, by omega, ?_⟩
  intro q2
  intro x13 hx13
  subst hx13
  have hpr := p4.at (x := a1) (by omega) (by omega)
  refine ⟨fun h18 => ?_, fun h18 => ?_⟩
  · exact tX11_isObjectElement_84 g1 g2 p1 p2 p3 p4 p5 p6 p7 p8 p9 p10 (by omega) (by omega) (by omega) (by omega) (by omega) (by omega) hK
  · have hpa := p5.at (x := ((S.2 90 (a1)))) (by omega) (by omega)
    refine tX11_isKey (by omega) (by omega) (fun r24 n24_0 => ?_)
    refine ⟨by omega, ?_⟩
    refine ⟨fun h27 => ?_, fun h27 => ?_⟩
    · exact tX11_isObjectElement_84 g1 g2 p1 p2 p3 p4 p5 p6 p7 p8 p9 p10 (by omega) (by omega) (by omega) (by omega) (by omega) (by omega) hK
    · refine ⟨by omega, by omega, ?_⟩
      intro S36 hS36e
      have hS36 : Ch [] [98] S S36 := Ch_A hS36e
      have hS36v : ∀ x, (x = a1 ∧ S36.2 98 x = 5) ∨ (¬ x = a1 ∧ S36.2 98 x = S.2 98 x) := pA_at hS36e
      have e3 : S36.1 54 43 = S.1 54 43 := hS36.1 43 (by decide)
      have e4 : S36.1 54 43 = S.1 54 43 := hS36.1 43 (by decide)
      have e5 : S36.1 54 43 = S.1 54 43 := hS36.1 43 (by decide)
      have e6 : S36.2 88 ((a1) + 1) = S.2 88 ((a1) + 1) := congrFun (hS36.2 88 (by decide)) _
      refine tX11_hasChild (by omega) (by omega) (by omega) (fun r39 n39_0 => ?_)
      refine ⟨by omega, ?_⟩
      refine ⟨fun h42 => ?_, fun h42 => ?_⟩
      · have e7 : S36.2 98 a1 = (5) := by have q := hS36v a1; omega
        have e8 : S36.2 99 a1 = S.2 99 a1 := congrFun (hS36.2 99 (by decide)) _
        have e9 : S36.2 67 2 = S.2 67 2 := congrFun (hS36.2 67 (by decide)) _
        have e10 : S36.2 67 2 = S.2 67 2 := congrFun (hS36.2 67 (by decide)) _
        exact hK (0) S36 (Ch.wk hS36 (by decide) (by decide)) (by omega) (OE.rf ((hS36).2 67 (by decide)) ((hS36).2 68 (by decide)) ((hS36).2 69 (by decide)) ((hS36).2 70 (by decide))) (p6.mv ((hS36).2 59 (by decide)) ((hS36).2 67 (by decide)) ((hS36).2 68 (by decide)) ((hS36).2 69 (by decide))) (by
              intro x
              have e11 := hS36v x
              omega) (by
              intro x
              have e12 : S36.2 99 x = S.2 99 x := congrFun (hS36.2 99 (by decide)) _
              omega) (by omega) (by omega)
      · refine tX11_textSize  (fun r47 n47_0 => ?_)
        refine ⟨by omega, ?_⟩
        refine ⟨fun h50 => ?_, fun h50 => ?_⟩
        · have e13 : S36.2 98 a1 = (5) := by have q := hS36v a1; omega
          have e14 : S36.2 99 a1 = S.2 99 a1 := congrFun (hS36.2 99 (by decide)) _
          have e15 : S36.2 67 2 = S.2 67 2 := congrFun (hS36.2 67 (by decide)) _
          have e16 : S36.2 67 2 = S.2 67 2 := congrFun (hS36.2 67 (by decide)) _
          exact hK (0) S36 (Ch.wk hS36 (by decide) (by decide)) (by omega) (OE.rf ((hS36).2 67 (by decide)) ((hS36).2 68 (by decide)) ((hS36).2 69 (by decide)) ((hS36).2 70 (by decide))) (p6.mv ((hS36).2 59 (by decide)) ((hS36).2 67 (by decide)) ((hS36).2 68 (by decide)) ((hS36).2 69 (by decide))) (by
                intro x
                have e17 := hS36v x
                omega) (by
                intro x
                have e18 : S36.2 99 x = S.2 99 x := congrFun (hS36.2 99 (by decide)) _
                omega) (by omega) (by omega)
        · refine ⟨fun h54 => ?_, fun h54 => ?_⟩
          · have e19 : S36.2 98 a1 = (5) := by have q := hS36v a1; omega
            have e20 : S36.2 99 a1 = S.2 99 a1 := congrFun (hS36.2 99 (by decide)) _
            have e21 : S36.2 67 2 = S.2 67 2 := congrFun (hS36.2 67 (by decide)) _
            have e22 : S36.2 67 2 = S.2 67 2 := congrFun (hS36.2 67 (by decide)) _
            exact hK (1) S36 (Ch.wk hS36 (by decide) (by decide)) (by omega) (OE.rf ((hS36).2 67 (by decide)) ((hS36).2 68 (by decide)) ((hS36).2 69 (by decide)) ((hS36).2 70 (by decide))) (p6.mv ((hS36).2 59 (by decide)) ((hS36).2 67 (by decide)) ((hS36).2 68 (by decide)) ((hS36).2 69 (by decide))) (by
                  intro x
                  have e23 := hS36v x
                  omega) (by
                  intro x
                  have e24 : S36.2 99 x = S.2 99 x := congrFun (hS36.2 99 (by decide)) _
                  omega) (by omega) (by omega)
          · refine ⟨by omega, by omega, ?_⟩
            intro q25
            have e26 : S36.2 86 (a1) = S.2 86 (a1) := congrFun (hS36.2 86 (by decide)) _
            refine ⟨by omega, by omega, ?_⟩
            intro q27
            have e28 : S36.2 87 (a1) = S.2 87 (a1) := congrFun (hS36.2 87 (by decide)) _
            have e29 : S36.1 54 2 = S.1 54 2 := hS36.1 2 (by decide)
            have e30 : S36.1 54 2 = S.1 54 2 := hS36.1 2 (by decide)
            refine tX11_classNamed (by omega) (by omega) (by omega) (fun r70 n70_0 n70_1 => ?_)
            refine ⟨by omega, ?_⟩
            refine ⟨fun h75 => ?_, fun h75 => ?_⟩
            · have e31 : S36.2 98 a1 = (5) := by have q := hS36v a1; omega
              have e32 : S36.2 99 a1 = S.2 99 a1 := congrFun (hS36.2 99 (by decide)) _
              have e33 : S36.2 67 2 = S.2 67 2 := congrFun (hS36.2 67 (by decide)) _
              have e34 : S36.2 67 2 = S.2 67 2 := congrFun (hS36.2 67 (by decide)) _
              exact hK (0) S36 (Ch.wk hS36 (by decide) (by decide)) (by omega) (OE.rf ((hS36).2 67 (by decide)) ((hS36).2 68 (by decide)) ((hS36).2 69 (by decide)) ((hS36).2 70 (by decide))) (p6.mv ((hS36).2 59 (by decide)) ((hS36).2 67 (by decide)) ((hS36).2 68 (by decide)) ((hS36).2 69 (by decide))) (by
                    intro x
                    have e35 := hS36v x
                    omega) (by
                    intro x
                    have e36 : S36.2 99 x = S.2 99 x := congrFun (hS36.2 99 (by decide)) _
                    omega) (by omega) (by omega)
            · have e37 : S36.2 98 a1 = (5) := by have q := hS36v a1; omega
              have e38 : S36.2 99 a1 = S.2 99 a1 := congrFun (hS36.2 99 (by decide)) _
              have e39 : S36.2 67 2 = S.2 67 2 := congrFun (hS36.2 67 (by decide)) _
              have e40 : S36.2 67 2 = S.2 67 2 := congrFun (hS36.2 67 (by decide)) _
              exact hK (1) S36 (Ch.wk hS36 (by decide) (by decide)) (by omega) (OE.rf ((hS36).2 67 (by decide)) ((hS36).2 68 (by decide)) ((hS36).2 69 (by decide)) ((hS36).2 70 (by decide))) (p6.mv ((hS36).2 59 (by decide)) ((hS36).2 67 (by decide)) ((hS36).2 68 (by decide)) ((hS36).2 69 (by decide))) (by
                    intro x
                    have e41 := hS36v x
                    omega) (by
                    intro x
                    have e42 : S36.2 99 x = S.2 99 x := congrFun (hS36.2 99 (by decide)) _
                    omega) (by omega) (by omega)

