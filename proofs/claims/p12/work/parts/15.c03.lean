set_option maxRecDepth 100000 in
set_option maxHeartbeats 4000000 in
theorem tX11_hasMeaning {a1 : Int} {S : St} {K : Int → St → Prop} (p1 : iv 0 199 a1) (p2 : a1 < (S.1 54 43)) (p3 : (S.1 54 43) ≤ 200) (p4 : PR S) (p5 : PA S) (p6 : OKg S 2 60) (p7 : OLg S 2 60) (p8 : (S.1 54 51) ≤ 600) (p9 : iv 0 30 ((S.2 67) 2)) (p10 : (S.1 54 56) ≤ 3000) (p11 : PO S) (p12 : EA S a1) (hK : ∀ (r : Int) (S' : St), Ch [67] [67, 68, 69, 70, 98, 99, 100, 101, 102, 103, 104] S S' → (iv 0 1 r) → (r = 0 ∨ (OKg S' 2 60 ∧ OLg S' 2 60 ∧ EA S' (a1 + 1))) → (FR S S') → (∀ x, x = a1 ∨ (S'.2 98) x = (S.2 98) x) → (r = 0 ∨ ¬ (S.2 88) a1 = -2 ∨ (S'.2 98) a1 = 4 ∨ (S'.2 98) a1 = 5) → (iv 0 30 ((S'.2 67) 2)) → K r S') : wX11_hasMeaning a1 S K := by
  unfold wX11_hasMeaning
  intro g1
  have hpr := p4.at (x := a1) (by omega) (by omega)
  have p9x := p12
  refine ⟨by omega, by omega, ?_⟩
  intro q1
  intro x6 hx6
  subst hx6
  refine ⟨by omega, by omega, ?_⟩
  intro S14 hS14e
  have hS14 : Ch [] [98] S S14 := Ch_A hS14e
  have hS14v : ∀ x, (x = a1 ∧ S14.2 98 x = (-2)) ∨ (¬ x = a1 ∧ S14.2 98 x = S.2 98 x) := pA_at hS14e
  refine ⟨by omega, by omega, ?_⟩
  intro S21 hS21e
  have hS21 : Ch [] [102] S14 S21 := Ch_A hS21e
  have hS21v : ∀ x, (x = a1 ∧ S21.2 102 x = 0) ∨ (¬ x = a1 ∧ S21.2 102 x = S14.2 102 x) := pA_at hS21e
  refine ⟨fun h25 => ?_, fun h25 => ?_⟩
  · have hEp := ((p12 (S.2 88 a1)).resolve_left (by omega)).resolve_left (by omega)
    have hpo := (((p11 a1).resolve_left (by omega)).resolve_left (by omega)).resolve_left (by omega)
    unfold EI at hEp
    have hp0 : 0 ≤ S.2 88 a1 := by omega
    have hpq := (p4.at (x := S.2 88 a1) (by omega) (by omega)).2
    replace hpr := hpr.2
    have hro : S.2 98 (S.2 88 a1) = 3 ∨ S.2 98 (S.2 88 a1) = 4 := by
      rcases hEp.2.2.2 with h | h | h
      · exact Or.inl h
      · exact Or.inr h
      · exact absurd ⟨by omega, hpo⟩ h
    have hob : 0 ≤ S.2 99 (S.2 88 a1) ∧ S.2 99 (S.2 88 a1) < S.2 67 2 := by
      rcases hro with h | h
      · have q := hEp.1.resolve_left (fun k => k h)
        exact ⟨q.1, q.2.1⟩
      · exact hEp.2.1.resolve_left (fun k => k h)
    have hE1 := hEp.1
    clear hEp h25
    refine ⟨by omega, by omega, ?_⟩
    intro q2
    have e3 : S21.2 99 ((S.2 88 (a1))) = S14.2 99 ((S.2 88 (a1))) := congrFun (hS21.2 99 (by decide)) _
    have e4 : S14.2 99 ((S.2 88 (a1))) = S.2 99 ((S.2 88 (a1))) := congrFun (hS14.2 99 (by decide)) _
    intro x49 hx49
    subst hx49
    have e99z : S21.2 99 (S.2 88 a1) = S.2 99 (S.2 88 a1) := congrFun ((Ch.tr hS14 hS21).2 99 (by decide)) _
    refine ⟨by omega, by omega, ?_⟩
    intro q5
    have e6 : S21.2 98 ((S.2 88 (a1))) = S14.2 98 ((S.2 88 (a1))) := congrFun (hS21.2 98 (by decide)) _
    first | have e7 : S14.2 98 ((S.2 88 (a1))) = S.2 98 ((S.2 88 (a1))) := by have q := hS14v ((S.2 88 (a1))); omega | have e7 : S14.2 98 ((S.2 88 (a1))) = ((-2)) := by have q := hS14v ((S.2 88 (a1))); omega | have e7 := hS14v ((S.2 88 (a1)))
    refine ⟨fun h57 => ?_, fun h57 => ?_⟩
    · have hro4 : S.2 98 (S.2 88 a1) = 4 := by omega
      clear hro hE1 h57
      refine ⟨by omega, by omega, ?_⟩
      intro q8
      have e9 : S21.2 68 ((60 + (S21.2 99 ((S.2 88 (a1)))))) = S14.2 68 ((60 + (S21.2 99 ((S.2 88 (a1)))))) := congrFun (hS21.2 68 (by decide)) _
      have e10 : S14.2 68 ((60 + (S21.2 99 ((S.2 88 (a1)))))) = S.2 68 ((60 + (S21.2 99 ((S.2 88 (a1)))))) := congrFun (hS14.2 68 (by decide)) _
      intro x84 hx84
      subst hx84
      have e68z : S21.2 68 (60 + S21.2 99 (S.2 88 a1)) = S.2 68 (60 + S.2 99 (S.2 88 a1)) := by
        rw [e99z]
        exact congrFun ((Ch.tr hS14 hS21).2 68 (by decide)) _
      refine ⟨by omega, by omega, ?_⟩
      intro q11
      have e12 : S21.2 86 (a1) = S14.2 86 (a1) := congrFun (hS21.2 86 (by decide)) _
      have e13 : S14.2 86 (a1) = S.2 86 (a1) := congrFun (hS14.2 86 (by decide)) _
      refine ⟨by omega, by omega, ?_⟩
      intro q14
      have e15 : S21.2 87 (a1) = S14.2 87 (a1) := congrFun (hS21.2 87 (by decide)) _
      have e16 : S14.2 87 (a1) = S.2 87 (a1) := congrFun (hS14.2 87 (by decide)) _
      refine tX11_fieldNamed (by omega) (by omega) (by omega) (by omega) (by omega) (fun r102 n102_0 n102_1 => ?_)
      refine ⟨by omega, ?_⟩
      refine ⟨fun h111 => ?_, fun h111 => ?_⟩
      · have hr3 : 0 ≤ r102 ∧ r102 ≤ 3 := n102_0.resolve_left (by omega)
        clear n102_0 n102_1 h111
        refine ⟨by omega, by omega, ?_⟩
        intro q17
        have e18 : S21.2 103 (((4 * (S21.2 99 ((S.2 88 (a1))))) + r102)) = S14.2 103 (((4 * (S21.2 99 ((S.2 88 (a1))))) + r102)) := congrFun (hS21.2 103 (by decide)) _
        have e19 : S14.2 103 (((4 * (S21.2 99 ((S.2 88 (a1))))) + r102)) = S.2 103 (((4 * (S21.2 99 ((S.2 88 (a1))))) + r102)) := congrFun (hS14.2 103 (by decide)) _
        refine ⟨fun h158 => ?_, fun h158 => ?_⟩
        · clear h158
          refine ⟨by omega, by omega, ?_⟩
          intro S174 hS174e
          have hS174 : Ch [] [103] S21 S174 := Ch_A hS174e
          have hS174v : ∀ x, (x = ((4 * (S21.2 99 ((S.2 88 (a1))))) + r102) ∧ S174.2 103 x = 1) ∨ (¬ x = ((4 * (S21.2 99 ((S.2 88 (a1))))) + r102) ∧ S174.2 103 x = S21.2 103 x) := pA_at hS174e
          refine ⟨by omega, by omega, ?_⟩
          intro q20
          have e21 : S174.2 59 (((4 * (S21.2 68 ((60 + (S21.2 99 ((S.2 88 (a1)))))))) + r102)) = S21.2 59 (((4 * (S21.2 68 ((60 + (S21.2 99 ((S.2 88 (a1)))))))) + r102)) := congrFun (hS174.2 59 (by decide)) _
          have e22 : S21.2 59 (((4 * (S21.2 68 ((60 + (S21.2 99 ((S.2 88 (a1)))))))) + r102)) = S14.2 59 (((4 * (S21.2 68 ((60 + (S21.2 99 ((S.2 88 (a1)))))))) + r102)) := congrFun (hS21.2 59 (by decide)) _
          have e23 : S14.2 59 (((4 * (S21.2 68 ((60 + (S21.2 99 ((S.2 88 (a1)))))))) + r102)) = S.2 59 (((4 * (S21.2 68 ((60 + (S21.2 99 ((S.2 88 (a1)))))))) + r102)) := congrFun (hS14.2 59 (by decide)) _
          intro x187 hx187
          subst hx187
          have e59z : S174.2 59 (4 * S21.2 68 (60 + S21.2 99 (S.2 88 a1)) + r102) = S.2 59 (4 * S.2 68 (60 + S.2 99 (S.2 88 a1)) + r102) := by
            rw [e68z]
            exact congrFun ((Ch.tr (Ch.tr hS14 hS21) hS174).2 59 (by decide)) _
          refine ⟨by omega, by omega, ?_⟩
          refine ⟨by omega, ?_⟩
          intro S203 hS203e
          have hS203 : Ch [] [100] S174 S203 := Ch_A hS203e
          have hS203v : ∀ x, (x = a1 ∧ S203.2 100 x = ((4 * (60 + (S21.2 99 ((S.2 88 (a1)))))) + r102)) ∨ (¬ x = a1 ∧ S203.2 100 x = S174.2 100 x) := pA_at hS203e
          refine ⟨by omega, by omega, ?_⟩
          intro S211 hS211e
          have hS211 : Ch [] [101] S203 S211 := Ch_A hS211e
          have hS211v : ∀ x, (x = a1 ∧ S211.2 101 x = (-2)) ∨ (¬ x = a1 ∧ S211.2 101 x = S203.2 101 x) := pA_at hS211e
          refine ⟨fun h215 => ?_, fun h215 => ?_⟩
          · have hkd : S.2 59 (4 * S.2 68 (60 + S.2 99 (S.2 88 a1)) + r102) ≤ 1 ∨ S.2 59 (4 * S.2 68 (60 + S.2 99 (S.2 88 a1)) + r102) = 3 := by omega
            clear h215
            refine ⟨by omega, by omega, ?_⟩
            refine ⟨by omega, ?_⟩
            intro S268 hS268e
            have hS268 : Ch [] [98] S211 S268 := Ch_A hS268e
            have hS268v : ∀ x, (x = a1 ∧ S268.2 98 x = (S174.2 59 (((4 * (S21.2 68 ((60 + (S21.2 99 ((S.2 88 (a1)))))))) + r102)))) ∨ (¬ x = a1 ∧ S268.2 98 x = S211.2 98 x) := pA_at hS268e
            refine ⟨by omega, by omega, ?_⟩
            intro S275 hS275e
            have hS275 : Ch [] [99] S268 S275 := Ch_A hS275e
            have hS275v : ∀ x, (x = a1 ∧ S275.2 99 x = (S21.2 99 ((S.2 88 (a1))))) ∨ (¬ x = a1 ∧ S275.2 99 x = S268.2 99 x) := pA_at hS275e
            refine ⟨fun h279 => ?_, fun h279 => ?_⟩
            · replace hkd : S.2 59 (4 * S.2 68 (60 + S.2 99 (S.2 88 a1)) + r102) ≤ 1 := by omega
              clear h279
              refine ⟨by omega, by omega, ?_⟩
              intro q24
              have e25 : S275.2 91 (a1) = S268.2 91 (a1) := congrFun (hS275.2 91 (by decide)) _
              have e26 : S268.2 91 (a1) = S211.2 91 (a1) := congrFun (hS268.2 91 (by decide)) _
              have e27 : S211.2 91 (a1) = S203.2 91 (a1) := congrFun (hS211.2 91 (by decide)) _
              have e28 : S203.2 91 (a1) = S174.2 91 (a1) := congrFun (hS203.2 91 (by decide)) _
              have e29 : S174.2 91 (a1) = S21.2 91 (a1) := congrFun (hS174.2 91 (by decide)) _
              have e30 : S21.2 91 (a1) = S14.2 91 (a1) := congrFun (hS21.2 91 (by decide)) _
              have e31 : S14.2 91 (a1) = S.2 91 (a1) := congrFun (hS14.2 91 (by decide)) _
              refine ⟨fun h311 => ?_, fun h311 => ?_⟩
              · have e32 : S275.2 98 a1 = S268.2 98 a1 := congrFun (hS275.2 98 (by decide)) _
                have e33 : S268.2 98 a1 = ((S174.2 59 (((4 * (S21.2 68 ((60 + (S21.2 99 ((S.2 88 (a1)))))))) + r102)))) := by have q := hS268v a1; omega
                have e34 : S211.2 98 a1 = S203.2 98 a1 := congrFun (hS211.2 98 (by decide)) _
                have e35 : S203.2 98 a1 = S174.2 98 a1 := congrFun (hS203.2 98 (by decide)) _
                have e36 : S174.2 98 a1 = S21.2 98 a1 := congrFun (hS174.2 98 (by decide)) _
                have e37 : S21.2 98 a1 = S14.2 98 a1 := congrFun (hS21.2 98 (by decide)) _
                have e38 : S14.2 98 a1 = ((-2)) := by have q := hS14v a1; omega
                have e39 : S275.2 67 2 = S268.2 67 2 := congrFun (hS275.2 67 (by decide)) _
                have e40 : S268.2 67 2 = S211.2 67 2 := congrFun (hS268.2 67 (by decide)) _
                have e41 : S211.2 67 2 = S203.2 67 2 := congrFun (hS211.2 67 (by decide)) _
                have e42 : S203.2 67 2 = S174.2 67 2 := congrFun (hS203.2 67 (by decide)) _
                have e43 : S174.2 67 2 = S21.2 67 2 := congrFun (hS174.2 67 (by decide)) _
                have e44 : S21.2 67 2 = S14.2 67 2 := congrFun (hS21.2 67 (by decide)) _
                have e45 : S14.2 67 2 = S.2 67 2 := congrFun (hS14.2 67 (by decide)) _
                exact hK (0) S275 (Ch.wk (Ch.tr (Ch.tr (Ch.tr (Ch.tr (Ch.tr (Ch.tr hS14 hS21) hS174) hS203) hS211) hS268) hS275) (by decide) (by decide)) (by omega) (Or.inl rfl) (FR.re (((Ch.tr (Ch.tr (Ch.tr (Ch.tr (Ch.tr (Ch.tr hS14 hS21) hS174) hS203) hS211) hS268) hS275)).2 67 (by decide)) (((Ch.tr (Ch.tr (Ch.tr (Ch.tr (Ch.tr (Ch.tr hS14 hS21) hS174) hS203) hS211) hS268) hS275)).2 68 (by decide)) (((Ch.tr (Ch.tr (Ch.tr (Ch.tr (Ch.tr (Ch.tr hS14 hS21) hS174) hS203) hS211) hS268) hS275)).2 69 (by decide)) (((Ch.tr (Ch.tr (Ch.tr (Ch.tr (Ch.tr (Ch.tr hS14 hS21) hS174) hS203) hS211) hS268) hS275)).2 70 (by decide))) (by
                      intro x
                      have e46 : S275.2 98 x = S268.2 98 x := congrFun (hS275.2 98 (by decide)) _
                      have e47 := hS268v x
                      have e48 : S211.2 98 x = S203.2 98 x := congrFun (hS211.2 98 (by decide)) _
                      have e49 : S203.2 98 x = S174.2 98 x := congrFun (hS203.2 98 (by decide)) _
                      have e50 : S174.2 98 x = S21.2 98 x := congrFun (hS174.2 98 (by decide)) _
                      have e51 : S21.2 98 x = S14.2 98 x := congrFun (hS21.2 98 (by decide)) _
                      have e52 := hS14v x
                      omega) (by omega) (by omega)
              · have e53 : S275.1 54 43 = S268.1 54 43 := hS275.1 43 (by decide)
                have e54 : S268.1 54 43 = S211.1 54 43 := hS268.1 43 (by decide)
                have e55 : S211.1 54 43 = S203.1 54 43 := hS211.1 43 (by decide)
                have e56 : S203.1 54 43 = S174.1 54 43 := hS203.1 43 (by decide)
                have e57 : S174.1 54 43 = S21.1 54 43 := hS174.1 43 (by decide)
                have e58 : S21.1 54 43 = S14.1 54 43 := hS21.1 43 (by decide)
                have e59 : S14.1 54 43 = S.1 54 43 := hS14.1 43 (by decide)
                have e60 : S275.1 54 43 = S268.1 54 43 := hS275.1 43 (by decide)
                have e61 : S268.1 54 43 = S211.1 54 43 := hS268.1 43 (by decide)
                have e62 : S211.1 54 43 = S203.1 54 43 := hS211.1 43 (by decide)
                have e63 : S203.1 54 43 = S174.1 54 43 := hS203.1 43 (by decide)
                have e64 : S174.1 54 43 = S21.1 54 43 := hS174.1 43 (by decide)
                have e65 : S21.1 54 43 = S14.1 54 43 := hS21.1 43 (by decide)
                have e66 : S14.1 54 43 = S.1 54 43 := hS14.1 43 (by decide)
                have e67 : S275.1 54 43 = S268.1 54 43 := hS275.1 43 (by decide)
                have e68 : S268.1 54 43 = S211.1 54 43 := hS268.1 43 (by decide)
                have e69 : S211.1 54 43 = S203.1 54 43 := hS211.1 43 (by decide)
                have e70 : S203.1 54 43 = S174.1 54 43 := hS203.1 43 (by decide)
                have e71 : S174.1 54 43 = S21.1 54 43 := hS174.1 43 (by decide)
                have e72 : S21.1 54 43 = S14.1 54 43 := hS21.1 43 (by decide)
                have e73 : S14.1 54 43 = S.1 54 43 := hS14.1 43 (by decide)
                have e74 : S275.2 88 ((a1) + 1) = S268.2 88 ((a1) + 1) := congrFun (hS275.2 88 (by decide)) _
                have e75 : S268.2 88 ((a1) + 1) = S211.2 88 ((a1) + 1) := congrFun (hS268.2 88 (by decide)) _
                have e76 : S211.2 88 ((a1) + 1) = S203.2 88 ((a1) + 1) := congrFun (hS211.2 88 (by decide)) _
                have e77 : S203.2 88 ((a1) + 1) = S174.2 88 ((a1) + 1) := congrFun (hS203.2 88 (by decide)) _
                have e78 : S174.2 88 ((a1) + 1) = S21.2 88 ((a1) + 1) := congrFun (hS174.2 88 (by decide)) _
                have e79 : S21.2 88 ((a1) + 1) = S14.2 88 ((a1) + 1) := congrFun (hS21.2 88 (by decide)) _
                have e80 : S14.2 88 ((a1) + 1) = S.2 88 ((a1) + 1) := congrFun (hS14.2 88 (by decide)) _
                refine tX11_hasChild (by omega) (by omega) (by omega) (fun r316 n316_0 => ?_)
                refine ⟨by omega, ?_⟩
                refine ⟨fun h319 => ?_, fun h319 => ?_⟩
                · refine tX11_pieceOfText  (fun r326 S326 hS326 n326_0 => ?_)
                  have e81 : S326.2 69 (4 * (60 + ((S21.2 99 ((S.2 88 (a1)))))) + (r102)) = S275.2 69 (4 * (60 + ((S21.2 99 ((S.2 88 (a1)))))) + (r102)) := congrFun (hS326.2 69 (by decide)) _
                  have e82 : S275.2 69 (4 * (60 + ((S21.2 99 ((S.2 88 (a1)))))) + (r102)) = S268.2 69 (4 * (60 + ((S21.2 99 ((S.2 88 (a1)))))) + (r102)) := congrFun (hS275.2 69 (by decide)) _
                  have e83 : S268.2 69 (4 * (60 + ((S21.2 99 ((S.2 88 (a1)))))) + (r102)) = S211.2 69 (4 * (60 + ((S21.2 99 ((S.2 88 (a1)))))) + (r102)) := congrFun (hS268.2 69 (by decide)) _
                  have e84 : S211.2 69 (4 * (60 + ((S21.2 99 ((S.2 88 (a1)))))) + (r102)) = S203.2 69 (4 * (60 + ((S21.2 99 ((S.2 88 (a1)))))) + (r102)) := congrFun (hS211.2 69 (by decide)) _
                  have e85 : S203.2 69 (4 * (60 + ((S21.2 99 ((S.2 88 (a1)))))) + (r102)) = S174.2 69 (4 * (60 + ((S21.2 99 ((S.2 88 (a1)))))) + (r102)) := congrFun (hS203.2 69 (by decide)) _
                  have e86 : S174.2 69 (4 * (60 + ((S21.2 99 ((S.2 88 (a1)))))) + (r102)) = S21.2 69 (4 * (60 + ((S21.2 99 ((S.2 88 (a1)))))) + (r102)) := congrFun (hS174.2 69 (by decide)) _
                  have e87 : S21.2 69 (4 * (60 + ((S21.2 99 ((S.2 88 (a1)))))) + (r102)) = S14.2 69 (4 * (60 + ((S21.2 99 ((S.2 88 (a1)))))) + (r102)) := congrFun (hS21.2 69 (by decide)) _
                  have e88 : S14.2 69 (4 * (60 + ((S21.2 99 ((S.2 88 (a1)))))) + (r102)) = S.2 69 (4 * (60 + ((S21.2 99 ((S.2 88 (a1)))))) + (r102)) := congrFun (hS14.2 69 (by decide)) _
                  have e89 : S326.2 59 (4 * (S326.2 68) (60 + ((S21.2 99 ((S.2 88 (a1)))))) + (r102)) = S275.2 59 (4 * (S326.2 68) (60 + ((S21.2 99 ((S.2 88 (a1)))))) + (r102)) := congrFun (hS326.2 59 (by decide)) _
                  have e90 : S275.2 59 (4 * (S326.2 68) (60 + ((S21.2 99 ((S.2 88 (a1)))))) + (r102)) = S268.2 59 (4 * (S326.2 68) (60 + ((S21.2 99 ((S.2 88 (a1)))))) + (r102)) := congrFun (hS275.2 59 (by decide)) _
                  have e91 : S268.2 59 (4 * (S326.2 68) (60 + ((S21.2 99 ((S.2 88 (a1)))))) + (r102)) = S211.2 59 (4 * (S326.2 68) (60 + ((S21.2 99 ((S.2 88 (a1)))))) + (r102)) := congrFun (hS268.2 59 (by decide)) _
                  have e92 : S211.2 59 (4 * (S326.2 68) (60 + ((S21.2 99 ((S.2 88 (a1)))))) + (r102)) = S203.2 59 (4 * (S326.2 68) (60 + ((S21.2 99 ((S.2 88 (a1)))))) + (r102)) := congrFun (hS211.2 59 (by decide)) _
                  have e93 : S203.2 59 (4 * (S326.2 68) (60 + ((S21.2 99 ((S.2 88 (a1)))))) + (r102)) = S174.2 59 (4 * (S326.2 68) (60 + ((S21.2 99 ((S.2 88 (a1)))))) + (r102)) := congrFun (hS203.2 59 (by decide)) _
                  have e94 : S174.2 59 (4 * (S326.2 68) (60 + ((S21.2 99 ((S.2 88 (a1)))))) + (r102)) = S21.2 59 (4 * (S326.2 68) (60 + ((S21.2 99 ((S.2 88 (a1)))))) + (r102)) := congrFun (hS174.2 59 (by decide)) _
                  have e95 : S21.2 59 (4 * (S326.2 68) (60 + ((S21.2 99 ((S.2 88 (a1)))))) + (r102)) = S14.2 59 (4 * (S326.2 68) (60 + ((S21.2 99 ((S.2 88 (a1)))))) + (r102)) := congrFun (hS21.2 59 (by decide)) _
                  have e96 : S14.2 59 (4 * (S326.2 68) (60 + ((S21.2 99 ((S.2 88 (a1)))))) + (r102)) = S.2 59 (4 * (S326.2 68) (60 + ((S21.2 99 ((S.2 88 (a1)))))) + (r102)) := congrFun (hS14.2 59 (by decide)) _
                  have e97 : S326.2 68 (60 + ((S21.2 99 ((S.2 88 (a1)))))) = S275.2 68 (60 + ((S21.2 99 ((S.2 88 (a1)))))) := congrFun (hS326.2 68 (by decide)) _
                  have e98 : S275.2 68 (60 + ((S21.2 99 ((S.2 88 (a1)))))) = S268.2 68 (60 + ((S21.2 99 ((S.2 88 (a1)))))) := congrFun (hS275.2 68 (by decide)) _
                  have e99 : S268.2 68 (60 + ((S21.2 99 ((S.2 88 (a1)))))) = S211.2 68 (60 + ((S21.2 99 ((S.2 88 (a1)))))) := congrFun (hS268.2 68 (by decide)) _
                  have e100 : S211.2 68 (60 + ((S21.2 99 ((S.2 88 (a1)))))) = S203.2 68 (60 + ((S21.2 99 ((S.2 88 (a1)))))) := congrFun (hS211.2 68 (by decide)) _
                  have e101 : S203.2 68 (60 + ((S21.2 99 ((S.2 88 (a1)))))) = S174.2 68 (60 + ((S21.2 99 ((S.2 88 (a1)))))) := congrFun (hS203.2 68 (by decide)) _
                  have e102 : S174.2 68 (60 + ((S21.2 99 ((S.2 88 (a1)))))) = S21.2 68 (60 + ((S21.2 99 ((S.2 88 (a1)))))) := congrFun (hS174.2 68 (by decide)) _
                  have e103 : S21.2 68 (60 + ((S21.2 99 ((S.2 88 (a1)))))) = S14.2 68 (60 + ((S21.2 99 ((S.2 88 (a1)))))) := congrFun (hS21.2 68 (by decide)) _
                  have e104 : S14.2 68 (60 + ((S21.2 99 ((S.2 88 (a1)))))) = S.2 68 (60 + ((S21.2 99 ((S.2 88 (a1)))))) := congrFun (hS14.2 68 (by decide)) _
                  refine tX11_becomes (by omega) (by omega) (fun r333 S333 hS333 n333_0 n333_1 n333_2 n333_3 => ?_)
                  refine ⟨by omega, ?_⟩
                  have e105 : S333.2 98 a1 = S326.2 98 a1 := congrFun (hS333.2 98 (by decide)) _
                  have e106 : S326.2 98 a1 = S275.2 98 a1 := congrFun (hS326.2 98 (by decide)) _
                  have e107 : S275.2 98 a1 = S268.2 98 a1 := congrFun (hS275.2 98 (by decide)) _
                  have e108 : S268.2 98 a1 = ((S174.2 59 (((4 * (S21.2 68 ((60 + (S21.2 99 ((S.2 88 (a1)))))))) + r102)))) := by have q := hS268v a1; omega
                  have e109 : S211.2 98 a1 = S203.2 98 a1 := congrFun (hS211.2 98 (by decide)) _
                  have e110 : S203.2 98 a1 = S174.2 98 a1 := congrFun (hS203.2 98 (by decide)) _
                  have e111 : S174.2 98 a1 = S21.2 98 a1 := congrFun (hS174.2 98 (by decide)) _
                  have e112 : S21.2 98 a1 = S14.2 98 a1 := congrFun (hS21.2 98 (by decide)) _
                  have e113 : S14.2 98 a1 = ((-2)) := by have q := hS14v a1; omega
                  have e114 : S333.2 67 2 = S326.2 67 2 := congrFun (hS333.2 67 (by decide)) _
                  have e115 : S326.2 67 2 = S275.2 67 2 := congrFun (hS326.2 67 (by decide)) _
                  have e116 : S275.2 67 2 = S268.2 67 2 := congrFun (hS275.2 67 (by decide)) _
                  have e117 : S268.2 67 2 = S211.2 67 2 := congrFun (hS268.2 67 (by decide)) _
                  have e118 : S211.2 67 2 = S203.2 67 2 := congrFun (hS211.2 67 (by decide)) _
                  have e119 : S203.2 67 2 = S174.2 67 2 := congrFun (hS203.2 67 (by decide)) _
                  have e120 : S174.2 67 2 = S21.2 67 2 := congrFun (hS174.2 67 (by decide)) _
                  have e121 : S21.2 67 2 = S14.2 67 2 := congrFun (hS21.2 67 (by decide)) _
                  have e122 : S14.2 67 2 = S.2 67 2 := congrFun (hS14.2 67 (by decide)) _
                  have e123 : S333.2 98 a1 = S326.2 98 a1 := congrFun (hS333.2 98 (by decide)) _
                  have e124 : S326.2 98 a1 = S275.2 98 a1 := congrFun (hS326.2 98 (by decide)) _
                  have e125 : S275.2 98 a1 = S268.2 98 a1 := congrFun (hS275.2 98 (by decide)) _
                  have e126 : S268.2 98 a1 = ((S174.2 59 (((4 * (S21.2 68 ((60 + (S21.2 99 ((S.2 88 (a1)))))))) + r102)))) := by have q := hS268v a1; omega
                  have e127 : S211.2 98 a1 = S203.2 98 a1 := congrFun (hS211.2 98 (by decide)) _
                  have e128 : S203.2 98 a1 = S174.2 98 a1 := congrFun (hS203.2 98 (by decide)) _
                  have e129 : S174.2 98 a1 = S21.2 98 a1 := congrFun (hS174.2 98 (by decide)) _
                  have e130 : S21.2 98 a1 = S14.2 98 a1 := congrFun (hS21.2 98 (by decide)) _
                  have e131 : S14.2 98 a1 = ((-2)) := by have q := hS14v a1; omega
                  have e132 : S333.2 99 a1 = S326.2 99 a1 := congrFun (hS333.2 99 (by decide)) _
                  have e133 : S326.2 99 a1 = S275.2 99 a1 := congrFun (hS326.2 99 (by decide)) _
                  have e134 : S275.2 99 a1 = ((S21.2 99 ((S.2 88 (a1))))) := by have q := hS275v a1; omega
                  have e135 : S268.2 99 a1 = S211.2 99 a1 := congrFun (hS268.2 99 (by decide)) _
                  have e136 : S211.2 99 a1 = S203.2 99 a1 := congrFun (hS211.2 99 (by decide)) _
                  have e137 : S203.2 99 a1 = S174.2 99 a1 := congrFun (hS203.2 99 (by decide)) _
                  have e138 : S174.2 99 a1 = S21.2 99 a1 := congrFun (hS174.2 99 (by decide)) _
                  have e139 : S21.2 99 a1 = S14.2 99 a1 := congrFun (hS21.2 99 (by decide)) _
                  have e140 : S14.2 99 a1 = S.2 99 a1 := congrFun (hS14.2 99 (by decide)) _
                  have e141 : S333.2 100 a1 = S326.2 100 a1 := congrFun (hS333.2 100 (by decide)) _
                  have e142 : S326.2 100 a1 = S275.2 100 a1 := congrFun (hS326.2 100 (by decide)) _
                  have e143 : S275.2 100 a1 = S268.2 100 a1 := congrFun (hS275.2 100 (by decide)) _
                  have e144 : S268.2 100 a1 = S211.2 100 a1 := congrFun (hS268.2 100 (by decide)) _
                  have e145 : S211.2 100 a1 = S203.2 100 a1 := congrFun (hS211.2 100 (by decide)) _
                  have e146 : S203.2 100 a1 = (((4 * (60 + (S21.2 99 ((S.2 88 (a1)))))) + r102)) := by have q := hS203v a1; omega
                  have e147 : S174.2 100 a1 = S21.2 100 a1 := congrFun (hS174.2 100 (by decide)) _
                  have e148 : S21.2 100 a1 = S14.2 100 a1 := congrFun (hS21.2 100 (by decide)) _
                  have e149 : S14.2 100 a1 = S.2 100 a1 := congrFun (hS14.2 100 (by decide)) _
                  have e150 : S333.2 101 a1 = S326.2 101 a1 := congrFun (hS333.2 101 (by decide)) _
                  have e151 : S326.2 101 a1 = S275.2 101 a1 := congrFun (hS326.2 101 (by decide)) _
                  have e152 : S275.2 101 a1 = S268.2 101 a1 := congrFun (hS275.2 101 (by decide)) _
                  have e153 : S268.2 101 a1 = S211.2 101 a1 := congrFun (hS268.2 101 (by decide)) _
                  have e154 : S211.2 101 a1 = ((-2)) := by have q := hS211v a1; omega
                  have e155 : S203.2 101 a1 = S174.2 101 a1 := congrFun (hS203.2 101 (by decide)) _
                  have e156 : S174.2 101 a1 = S21.2 101 a1 := congrFun (hS174.2 101 (by decide)) _
                  have e157 : S21.2 101 a1 = S14.2 101 a1 := congrFun (hS21.2 101 (by decide)) _
                  have e158 : S14.2 101 a1 = S.2 101 a1 := congrFun (hS14.2 101 (by decide)) _
                  have e159 : S333.2 91 a1 = S326.2 91 a1 := congrFun (hS333.2 91 (by decide)) _
                  have e160 : S326.2 91 a1 = S275.2 91 a1 := congrFun (hS326.2 91 (by decide)) _
                  have e161 : S275.2 91 a1 = S268.2 91 a1 := congrFun (hS275.2 91 (by decide)) _
                  have e162 : S268.2 91 a1 = S211.2 91 a1 := congrFun (hS268.2 91 (by decide)) _
                  have e163 : S211.2 91 a1 = S203.2 91 a1 := congrFun (hS211.2 91 (by decide)) _
                  have e164 : S203.2 91 a1 = S174.2 91 a1 := congrFun (hS203.2 91 (by decide)) _
                  have e165 : S174.2 91 a1 = S21.2 91 a1 := congrFun (hS174.2 91 (by decide)) _
                  have e166 : S21.2 91 a1 = S14.2 91 a1 := congrFun (hS21.2 91 (by decide)) _
                  have e167 : S14.2 91 a1 = S.2 91 a1 := congrFun (hS14.2 91 (by decide)) _
                  have e168 : S333.1 54 43 = S326.1 54 43 := hS333.1 43 (by decide)
                  have e169 : S326.1 54 43 = S275.1 54 43 := hS326.1 43 (by decide)
                  have e170 : S275.1 54 43 = S268.1 54 43 := hS275.1 43 (by decide)
                  have e171 : S268.1 54 43 = S211.1 54 43 := hS268.1 43 (by decide)
                  have e172 : S211.1 54 43 = S203.1 54 43 := hS211.1 43 (by decide)
                  have e173 : S203.1 54 43 = S174.1 54 43 := hS203.1 43 (by decide)
                  have e174 : S174.1 54 43 = S21.1 54 43 := hS174.1 43 (by decide)
                  have e175 : S21.1 54 43 = S14.1 54 43 := hS21.1 43 (by decide)
                  have e176 : S14.1 54 43 = S.1 54 43 := hS14.1 43 (by decide)
                  have e177 : S333.2 88 (a1 + 1) = S326.2 88 (a1 + 1) := congrFun (hS333.2 88 (by decide)) _
                  have e178 : S326.2 88 (a1 + 1) = S275.2 88 (a1 + 1) := congrFun (hS326.2 88 (by decide)) _
                  have e179 : S275.2 88 (a1 + 1) = S268.2 88 (a1 + 1) := congrFun (hS275.2 88 (by decide)) _
                  have e180 : S268.2 88 (a1 + 1) = S211.2 88 (a1 + 1) := congrFun (hS268.2 88 (by decide)) _
                  have e181 : S211.2 88 (a1 + 1) = S203.2 88 (a1 + 1) := congrFun (hS211.2 88 (by decide)) _
                  have e182 : S203.2 88 (a1 + 1) = S174.2 88 (a1 + 1) := congrFun (hS203.2 88 (by decide)) _
                  have e183 : S174.2 88 (a1 + 1) = S21.2 88 (a1 + 1) := congrFun (hS174.2 88 (by decide)) _
                  have e184 : S21.2 88 (a1 + 1) = S14.2 88 (a1 + 1) := congrFun (hS21.2 88 (by decide)) _
                  have e185 : S14.2 88 (a1 + 1) = S.2 88 (a1 + 1) := congrFun (hS14.2 88 (by decide)) _
                  have hcA : S333.2 67 2 = S.2 67 2 := congrFun (((Ch.tr (Ch.tr (Ch.tr (Ch.tr (Ch.tr (Ch.tr (Ch.tr (Ch.tr hS14 hS21) hS174) hS203) hS211) hS268) hS275) hS326) hS333)).2 67 (by decide)) _
                  have e68 : S326.2 68 (60 + S.2 99 (S.2 88 a1)) = S.2 68 (60 + S.2 99 (S.2 88 a1)) := congrFun (((Ch.tr (Ch.tr (Ch.tr (Ch.tr (Ch.tr (Ch.tr (Ch.tr hS14 hS21) hS174) hS203) hS211) hS268) hS275) hS326)).2 68 (by decide)) _
                  have hkk : S.2 59 (4 * S.2 68 (60 + S.2 99 (S.2 88 a1)) + r102) ≤ 1 := by omega
                  have h59 : S326.2 59 = S.2 59 := (((Ch.tr (Ch.tr (Ch.tr (Ch.tr (Ch.tr (Ch.tr (Ch.tr hS14 hS21) hS174) hS203) hS211) hS268) hS275) hS326)).2 59 (by decide))
                  have hOKp : OKg S326 2 60 := p6.mv (((Ch.tr (Ch.tr (Ch.tr (Ch.tr (Ch.tr (Ch.tr (Ch.tr hS14 hS21) hS174) hS203) hS211) hS268) hS275) hS326)).2 59 (by decide)) (((Ch.tr (Ch.tr (Ch.tr (Ch.tr (Ch.tr (Ch.tr (Ch.tr hS14 hS21) hS174) hS203) hS211) hS268) hS275) hS326)).2 67 (by decide)) (((Ch.tr (Ch.tr (Ch.tr (Ch.tr (Ch.tr (Ch.tr (Ch.tr hS14 hS21) hS174) hS203) hS211) hS268) hS275) hS326)).2 68 (by decide)) (((Ch.tr (Ch.tr (Ch.tr (Ch.tr (Ch.tr (Ch.tr (Ch.tr hS14 hS21) hS174) hS203) hS211) hS268) hS275) hS326)).2 69 (by decide))
                  have hOLp : OLg S326 2 60 := p7.mv (((Ch.tr (Ch.tr (Ch.tr (Ch.tr (Ch.tr (Ch.tr (Ch.tr hS14 hS21) hS174) hS203) hS211) hS268) hS275) hS326)).2 59 (by decide)) (((Ch.tr (Ch.tr (Ch.tr (Ch.tr (Ch.tr (Ch.tr (Ch.tr hS14 hS21) hS174) hS203) hS211) hS268) hS275) hS326)).2 67 (by decide)) (((Ch.tr (Ch.tr (Ch.tr (Ch.tr (Ch.tr (Ch.tr (Ch.tr hS14 hS21) hS174) hS203) hS211) hS268) hS275) hS326)).2 68 (by decide)) (((Ch.tr (Ch.tr (Ch.tr (Ch.tr (Ch.tr (Ch.tr (Ch.tr hS14 hS21) hS174) hS203) hS211) hS268) hS275) hS326)).2 69 (by decide)) (((Ch.tr (Ch.tr (Ch.tr (Ch.tr (Ch.tr (Ch.tr (Ch.tr hS14 hS21) hS174) hS203) hS211) hS268) hS275) hS326)).2 70 (by decide))
                  exact hK (r333) S333 (Ch.wk (Ch.tr (Ch.tr (Ch.tr (Ch.tr (Ch.tr (Ch.tr (Ch.tr (Ch.tr hS14 hS21) hS174) hS203) hS211) hS268) hS275) hS326) hS333) (by decide) (by decide)) (by omega) (Or.inr ⟨OKg_bec hOKp ((hS333).2 59 (by decide)) ((hS333).2 67 (by decide)) ((hS333).2 68 (by decide)) n333_1 (by omega) (by omega) (by rw [e99z, e68, h59]; exact hkk) n333_3, OLg_bec hOLp hOKp ((hS333).2 59 (by decide)) ((hS333).2 67 (by decide)) ((hS333).2 68 (by decide)) n333_1 n333_2 (by omega) (by omega) (by rw [e99z, e68, h59]; omega), (EA_step p9x (⟨Or.inl (by omega), by omega, by omega, by omega⟩) (by
                        intro x
                        have e186 : S333.2 98 x = S326.2 98 x := congrFun (hS333.2 98 (by decide)) _
                        have e187 : S326.2 98 x = S275.2 98 x := congrFun (hS326.2 98 (by decide)) _
                        have e188 : S275.2 98 x = S268.2 98 x := congrFun (hS275.2 98 (by decide)) _
                        have e189 := hS268v x
                        have e190 : S211.2 98 x = S203.2 98 x := congrFun (hS211.2 98 (by decide)) _
                        have e191 : S203.2 98 x = S174.2 98 x := congrFun (hS203.2 98 (by decide)) _
                        have e192 : S174.2 98 x = S21.2 98 x := congrFun (hS174.2 98 (by decide)) _
                        have e193 : S21.2 98 x = S14.2 98 x := congrFun (hS21.2 98 (by decide)) _
                        have e194 := hS14v x
                        omega) (by
                        intro x
                        have e195 : S333.2 99 x = S326.2 99 x := congrFun (hS333.2 99 (by decide)) _
                        have e196 : S326.2 99 x = S275.2 99 x := congrFun (hS326.2 99 (by decide)) _
                        have e197 := hS275v x
                        have e198 : S268.2 99 x = S211.2 99 x := congrFun (hS268.2 99 (by decide)) _
                        have e199 : S211.2 99 x = S203.2 99 x := congrFun (hS211.2 99 (by decide)) _
                        have e200 : S203.2 99 x = S174.2 99 x := congrFun (hS203.2 99 (by decide)) _
                        have e201 : S174.2 99 x = S21.2 99 x := congrFun (hS174.2 99 (by decide)) _
                        have e202 : S21.2 99 x = S14.2 99 x := congrFun (hS21.2 99 (by decide)) _
                        have e203 : S14.2 99 x = S.2 99 x := congrFun (hS14.2 99 (by decide)) _
                        omega) (by
                        intro x
                        have e204 : S333.2 100 x = S326.2 100 x := congrFun (hS333.2 100 (by decide)) _
                        have e205 : S326.2 100 x = S275.2 100 x := congrFun (hS326.2 100 (by decide)) _
                        have e206 : S275.2 100 x = S268.2 100 x := congrFun (hS275.2 100 (by decide)) _
                        have e207 : S268.2 100 x = S211.2 100 x := congrFun (hS268.2 100 (by decide)) _
                        have e208 : S211.2 100 x = S203.2 100 x := congrFun (hS211.2 100 (by decide)) _
                        have e209 := hS203v x
                        have e210 : S174.2 100 x = S21.2 100 x := congrFun (hS174.2 100 (by decide)) _
                        have e211 : S21.2 100 x = S14.2 100 x := congrFun (hS21.2 100 (by decide)) _
                        have e212 : S14.2 100 x = S.2 100 x := congrFun (hS14.2 100 (by decide)) _
                        omega) (by
                        intro x
                        have e213 : S333.2 101 x = S326.2 101 x := congrFun (hS333.2 101 (by decide)) _
                        have e214 : S326.2 101 x = S275.2 101 x := congrFun (hS326.2 101 (by decide)) _
                        have e215 : S275.2 101 x = S268.2 101 x := congrFun (hS275.2 101 (by decide)) _
                        have e216 : S268.2 101 x = S211.2 101 x := congrFun (hS268.2 101 (by decide)) _
                        have e217 := hS211v x
                        have e218 : S203.2 101 x = S174.2 101 x := congrFun (hS203.2 101 (by decide)) _
                        have e219 : S174.2 101 x = S21.2 101 x := congrFun (hS174.2 101 (by decide)) _
                        have e220 : S21.2 101 x = S14.2 101 x := congrFun (hS21.2 101 (by decide)) _
                        have e221 : S14.2 101 x = S.2 101 x := congrFun (hS14.2 101 (by decide)) _
                        omega) (((Ch.tr (Ch.tr (Ch.tr (Ch.tr (Ch.tr (Ch.tr (Ch.tr (Ch.tr hS14 hS21) hS174) hS203) hS211) hS268) hS275) hS326) hS333)).1 43 (by decide)) (((Ch.tr (Ch.tr (Ch.tr (Ch.tr (Ch.tr (Ch.tr (Ch.tr (Ch.tr hS14 hS21) hS174) hS203) hS211) hS268) hS275) hS326) hS333)).2 88 (by decide)) (((Ch.tr (Ch.tr (Ch.tr (Ch.tr (Ch.tr (Ch.tr (Ch.tr (Ch.tr hS14 hS21) hS174) hS203) hS211) hS268) hS275) hS326) hS333)).2 91 (by decide)) (((Ch.tr (Ch.tr (Ch.tr (Ch.tr (Ch.tr (Ch.tr (Ch.tr (Ch.tr hS14 hS21) hS174) hS203) hS211) hS268) hS275) hS326) hS333)).2 59 (by decide)) (by omega) (fun i i0 i1 => congrFun (((Ch.tr (Ch.tr (Ch.tr (Ch.tr (Ch.tr (Ch.tr (Ch.tr (Ch.tr hS14 hS21) hS174) hS203) hS211) hS268) hS275) hS326) hS333)).2 68 (by decide)) _))⟩) ((FR.re (((Ch.tr (Ch.tr (Ch.tr (Ch.tr (Ch.tr (Ch.tr (Ch.tr hS14 hS21) hS174) hS203) hS211) hS268) hS275) hS326)).2 67 (by decide)) (((Ch.tr (Ch.tr (Ch.tr (Ch.tr (Ch.tr (Ch.tr (Ch.tr hS14 hS21) hS174) hS203) hS211) hS268) hS275) hS326)).2 68 (by decide)) (((Ch.tr (Ch.tr (Ch.tr (Ch.tr (Ch.tr (Ch.tr (Ch.tr hS14 hS21) hS174) hS203) hS211) hS268) hS275) hS326)).2 69 (by decide)) (((Ch.tr (Ch.tr (Ch.tr (Ch.tr (Ch.tr (Ch.tr (Ch.tr hS14 hS21) hS174) hS203) hS211) hS268) hS275) hS326)).2 70 (by decide))).tr ⟨fun x => Or.inr (congrFun ((hS333).2 67 (by decide)) _), fun x => Or.inr (congrFun ((hS333).2 68 (by decide)) _), fun x => by have q := n333_1 x; omega, fun x => by have q := n333_2 x; omega⟩) (by
                        intro x
                        have e222 : S333.2 98 x = S326.2 98 x := congrFun (hS333.2 98 (by decide)) _
                        have e223 : S326.2 98 x = S275.2 98 x := congrFun (hS326.2 98 (by decide)) _
                        have e224 : S275.2 98 x = S268.2 98 x := congrFun (hS275.2 98 (by decide)) _
                        have e225 := hS268v x
                        have e226 : S211.2 98 x = S203.2 98 x := congrFun (hS211.2 98 (by decide)) _
                        have e227 : S203.2 98 x = S174.2 98 x := congrFun (hS203.2 98 (by decide)) _
                        have e228 : S174.2 98 x = S21.2 98 x := congrFun (hS174.2 98 (by decide)) _
                        have e229 : S21.2 98 x = S14.2 98 x := congrFun (hS21.2 98 (by decide)) _
                        have e230 := hS14v x
                        omega) (by omega) (by omega)
                · have e231 : S275.2 98 a1 = S268.2 98 a1 := congrFun (hS275.2 98 (by decide)) _
                  have e232 : S268.2 98 a1 = ((S174.2 59 (((4 * (S21.2 68 ((60 + (S21.2 99 ((S.2 88 (a1)))))))) + r102)))) := by have q := hS268v a1; omega
                  have e233 : S211.2 98 a1 = S203.2 98 a1 := congrFun (hS211.2 98 (by decide)) _
                  have e234 : S203.2 98 a1 = S174.2 98 a1 := congrFun (hS203.2 98 (by decide)) _
                  have e235 : S174.2 98 a1 = S21.2 98 a1 := congrFun (hS174.2 98 (by decide)) _
                  have e236 : S21.2 98 a1 = S14.2 98 a1 := congrFun (hS21.2 98 (by decide)) _
                  have e237 : S14.2 98 a1 = ((-2)) := by have q := hS14v a1; omega
                  have e238 : S275.2 67 2 = S268.2 67 2 := congrFun (hS275.2 67 (by decide)) _
                  have e239 : S268.2 67 2 = S211.2 67 2 := congrFun (hS268.2 67 (by decide)) _
                  have e240 : S211.2 67 2 = S203.2 67 2 := congrFun (hS211.2 67 (by decide)) _
                  have e241 : S203.2 67 2 = S174.2 67 2 := congrFun (hS203.2 67 (by decide)) _
                  have e242 : S174.2 67 2 = S21.2 67 2 := congrFun (hS174.2 67 (by decide)) _
                  have e243 : S21.2 67 2 = S14.2 67 2 := congrFun (hS21.2 67 (by decide)) _
                  have e244 : S14.2 67 2 = S.2 67 2 := congrFun (hS14.2 67 (by decide)) _
                  exact hK (0) S275 (Ch.wk (Ch.tr (Ch.tr (Ch.tr (Ch.tr (Ch.tr (Ch.tr hS14 hS21) hS174) hS203) hS211) hS268) hS275) (by decide) (by decide)) (by omega) (Or.inl rfl) (FR.re (((Ch.tr (Ch.tr (Ch.tr (Ch.tr (Ch.tr (Ch.tr hS14 hS21) hS174) hS203) hS211) hS268) hS275)).2 67 (by decide)) (((Ch.tr (Ch.tr (Ch.tr (Ch.tr (Ch.tr (Ch.tr hS14 hS21) hS174) hS203) hS211) hS268) hS275)).2 68 (by decide)) (((Ch.tr (Ch.tr (Ch.tr (Ch.tr (Ch.tr (Ch.tr hS14 hS21) hS174) hS203) hS211) hS268) hS275)).2 69 (by decide)) (((Ch.tr (Ch.tr (Ch.tr (Ch.tr (Ch.tr (Ch.tr hS14 hS21) hS174) hS203) hS211) hS268) hS275)).2 70 (by decide))) (by
                        intro x
                        have e245 : S275.2 98 x = S268.2 98 x := congrFun (hS275.2 98 (by decide)) _
                        have e246 := hS268v x
                        have e247 : S211.2 98 x = S203.2 98 x := congrFun (hS211.2 98 (by decide)) _
                        have e248 : S203.2 98 x = S174.2 98 x := congrFun (hS203.2 98 (by decide)) _
                        have e249 : S174.2 98 x = S21.2 98 x := congrFun (hS174.2 98 (by decide)) _
                        have e250 : S21.2 98 x = S14.2 98 x := congrFun (hS21.2 98 (by decide)) _
                        have e251 := hS14v x
                        omega) (by omega) (by omega)
            · replace hkd : S.2 59 (4 * S.2 68 (60 + S.2 99 (S.2 88 a1)) + r102) = 3 := by omega
              clear h279
              refine ⟨by omega, by omega, ?_⟩
              intro q252
              have e253 : S275.2 91 (a1) = S268.2 91 (a1) := congrFun (hS275.2 91 (by decide)) _
              have e254 : S268.2 91 (a1) = S211.2 91 (a1) := congrFun (hS268.2 91 (by decide)) _
              have e255 : S211.2 91 (a1) = S203.2 91 (a1) := congrFun (hS211.2 91 (by decide)) _
              have e256 : S203.2 91 (a1) = S174.2 91 (a1) := congrFun (hS203.2 91 (by decide)) _
              have e257 : S174.2 91 (a1) = S21.2 91 (a1) := congrFun (hS174.2 91 (by decide)) _
              have e258 : S21.2 91 (a1) = S14.2 91 (a1) := congrFun (hS21.2 91 (by decide)) _
              have e259 : S14.2 91 (a1) = S.2 91 (a1) := congrFun (hS14.2 91 (by decide)) _
              refine ⟨fun h288 => ?_, fun h288 => ?_⟩
              · have e260 : S275.2 98 a1 = S268.2 98 a1 := congrFun (hS275.2 98 (by decide)) _
                have e261 : S268.2 98 a1 = ((S174.2 59 (((4 * (S21.2 68 ((60 + (S21.2 99 ((S.2 88 (a1)))))))) + r102)))) := by have q := hS268v a1; omega
                have e262 : S211.2 98 a1 = S203.2 98 a1 := congrFun (hS211.2 98 (by decide)) _
                have e263 : S203.2 98 a1 = S174.2 98 a1 := congrFun (hS203.2 98 (by decide)) _
                have e264 : S174.2 98 a1 = S21.2 98 a1 := congrFun (hS174.2 98 (by decide)) _
                have e265 : S21.2 98 a1 = S14.2 98 a1 := congrFun (hS21.2 98 (by decide)) _
                have e266 : S14.2 98 a1 = ((-2)) := by have q := hS14v a1; omega
                have e267 : S275.2 67 2 = S268.2 67 2 := congrFun (hS275.2 67 (by decide)) _
                have e268 : S268.2 67 2 = S211.2 67 2 := congrFun (hS268.2 67 (by decide)) _
                have e269 : S211.2 67 2 = S203.2 67 2 := congrFun (hS211.2 67 (by decide)) _
                have e270 : S203.2 67 2 = S174.2 67 2 := congrFun (hS203.2 67 (by decide)) _
                have e271 : S174.2 67 2 = S21.2 67 2 := congrFun (hS174.2 67 (by decide)) _
                have e272 : S21.2 67 2 = S14.2 67 2 := congrFun (hS21.2 67 (by decide)) _
                have e273 : S14.2 67 2 = S.2 67 2 := congrFun (hS14.2 67 (by decide)) _
                exact hK (0) S275 (Ch.wk (Ch.tr (Ch.tr (Ch.tr (Ch.tr (Ch.tr (Ch.tr hS14 hS21) hS174) hS203) hS211) hS268) hS275) (by decide) (by decide)) (by omega) (Or.inl rfl) (FR.re (((Ch.tr (Ch.tr (Ch.tr (Ch.tr (Ch.tr (Ch.tr hS14 hS21) hS174) hS203) hS211) hS268) hS275)).2 67 (by decide)) (((Ch.tr (Ch.tr (Ch.tr (Ch.tr (Ch.tr (Ch.tr hS14 hS21) hS174) hS203) hS211) hS268) hS275)).2 68 (by decide)) (((Ch.tr (Ch.tr (Ch.tr (Ch.tr (Ch.tr (Ch.tr hS14 hS21) hS174) hS203) hS211) hS268) hS275)).2 69 (by decide)) (((Ch.tr (Ch.tr (Ch.tr (Ch.tr (Ch.tr (Ch.tr hS14 hS21) hS174) hS203) hS211) hS268) hS275)).2 70 (by decide))) (by
                      intro x
                      have e274 : S275.2 98 x = S268.2 98 x := congrFun (hS275.2 98 (by decide)) _
                      have e275 := hS268v x
                      have e276 : S211.2 98 x = S203.2 98 x := congrFun (hS211.2 98 (by decide)) _
                      have e277 : S203.2 98 x = S174.2 98 x := congrFun (hS203.2 98 (by decide)) _
                      have e278 : S174.2 98 x = S21.2 98 x := congrFun (hS174.2 98 (by decide)) _
                      have e279 : S21.2 98 x = S14.2 98 x := congrFun (hS21.2 98 (by decide)) _
                      have e280 := hS14v x
                      omega) (by omega) (by omega)
              · refine tX11_isBlankWithin  (fun r293 n293_0 => ?_)
                refine ⟨by omega, ?_⟩
                refine ⟨fun h296 => ?_, fun h296 => ?_⟩
                · have e281 : S275.2 98 a1 = S268.2 98 a1 := congrFun (hS275.2 98 (by decide)) _
                  have e282 : S268.2 98 a1 = ((S174.2 59 (((4 * (S21.2 68 ((60 + (S21.2 99 ((S.2 88 (a1)))))))) + r102)))) := by have q := hS268v a1; omega
                  have e283 : S211.2 98 a1 = S203.2 98 a1 := congrFun (hS211.2 98 (by decide)) _
                  have e284 : S203.2 98 a1 = S174.2 98 a1 := congrFun (hS203.2 98 (by decide)) _
                  have e285 : S174.2 98 a1 = S21.2 98 a1 := congrFun (hS174.2 98 (by decide)) _
                  have e286 : S21.2 98 a1 = S14.2 98 a1 := congrFun (hS21.2 98 (by decide)) _
                  have e287 : S14.2 98 a1 = ((-2)) := by have q := hS14v a1; omega
                  have e288 : S275.2 67 2 = S268.2 67 2 := congrFun (hS275.2 67 (by decide)) _
                  have e289 : S268.2 67 2 = S211.2 67 2 := congrFun (hS268.2 67 (by decide)) _
                  have e290 : S211.2 67 2 = S203.2 67 2 := congrFun (hS211.2 67 (by decide)) _
                  have e291 : S203.2 67 2 = S174.2 67 2 := congrFun (hS203.2 67 (by decide)) _
                  have e292 : S174.2 67 2 = S21.2 67 2 := congrFun (hS174.2 67 (by decide)) _
                  have e293 : S21.2 67 2 = S14.2 67 2 := congrFun (hS21.2 67 (by decide)) _
                  have e294 : S14.2 67 2 = S.2 67 2 := congrFun (hS14.2 67 (by decide)) _
                  exact hK (0) S275 (Ch.wk (Ch.tr (Ch.tr (Ch.tr (Ch.tr (Ch.tr (Ch.tr hS14 hS21) hS174) hS203) hS211) hS268) hS275) (by decide) (by decide)) (by omega) (Or.inl rfl) (FR.re (((Ch.tr (Ch.tr (Ch.tr (Ch.tr (Ch.tr (Ch.tr hS14 hS21) hS174) hS203) hS211) hS268) hS275)).2 67 (by decide)) (((Ch.tr (Ch.tr (Ch.tr (Ch.tr (Ch.tr (Ch.tr hS14 hS21) hS174) hS203) hS211) hS268) hS275)).2 68 (by decide)) (((Ch.tr (Ch.tr (Ch.tr (Ch.tr (Ch.tr (Ch.tr hS14 hS21) hS174) hS203) hS211) hS268) hS275)).2 69 (by decide)) (((Ch.tr (Ch.tr (Ch.tr (Ch.tr (Ch.tr (Ch.tr hS14 hS21) hS174) hS203) hS211) hS268) hS275)).2 70 (by decide))) (by
                        intro x
                        have e295 : S275.2 98 x = S268.2 98 x := congrFun (hS275.2 98 (by decide)) _
                        have e296 := hS268v x
                        have e297 : S211.2 98 x = S203.2 98 x := congrFun (hS211.2 98 (by decide)) _
                        have e298 : S203.2 98 x = S174.2 98 x := congrFun (hS203.2 98 (by decide)) _
                        have e299 : S174.2 98 x = S21.2 98 x := congrFun (hS174.2 98 (by decide)) _
                        have e300 : S21.2 98 x = S14.2 98 x := congrFun (hS21.2 98 (by decide)) _
                        have e301 := hS14v x
                        omega) (by omega) (by omega)
                · have e302 : S275.2 98 a1 = S268.2 98 a1 := congrFun (hS275.2 98 (by decide)) _
                  have e303 : S268.2 98 a1 = ((S174.2 59 (((4 * (S21.2 68 ((60 + (S21.2 99 ((S.2 88 (a1)))))))) + r102)))) := by have q := hS268v a1; omega
                  have e304 : S211.2 98 a1 = S203.2 98 a1 := congrFun (hS211.2 98 (by decide)) _
                  have e305 : S203.2 98 a1 = S174.2 98 a1 := congrFun (hS203.2 98 (by decide)) _
                  have e306 : S174.2 98 a1 = S21.2 98 a1 := congrFun (hS174.2 98 (by decide)) _
                  have e307 : S21.2 98 a1 = S14.2 98 a1 := congrFun (hS21.2 98 (by decide)) _
                  have e308 : S14.2 98 a1 = ((-2)) := by have q := hS14v a1; omega
                  have e309 : S275.2 67 2 = S268.2 67 2 := congrFun (hS275.2 67 (by decide)) _
                  have e310 : S268.2 67 2 = S211.2 67 2 := congrFun (hS268.2 67 (by decide)) _
                  have e311 : S211.2 67 2 = S203.2 67 2 := congrFun (hS211.2 67 (by decide)) _
                  have e312 : S203.2 67 2 = S174.2 67 2 := congrFun (hS203.2 67 (by decide)) _
                  have e313 : S174.2 67 2 = S21.2 67 2 := congrFun (hS174.2 67 (by decide)) _
                  have e314 : S21.2 67 2 = S14.2 67 2 := congrFun (hS21.2 67 (by decide)) _
                  have e315 : S14.2 67 2 = S.2 67 2 := congrFun (hS14.2 67 (by decide)) _
                  have e316 : S275.2 98 a1 = S268.2 98 a1 := congrFun (hS275.2 98 (by decide)) _
                  have e317 : S268.2 98 a1 = ((S174.2 59 (((4 * (S21.2 68 ((60 + (S21.2 99 ((S.2 88 (a1)))))))) + r102)))) := by have q := hS268v a1; omega
                  have e318 : S211.2 98 a1 = S203.2 98 a1 := congrFun (hS211.2 98 (by decide)) _
                  have e319 : S203.2 98 a1 = S174.2 98 a1 := congrFun (hS203.2 98 (by decide)) _
                  have e320 : S174.2 98 a1 = S21.2 98 a1 := congrFun (hS174.2 98 (by decide)) _
                  have e321 : S21.2 98 a1 = S14.2 98 a1 := congrFun (hS21.2 98 (by decide)) _
                  have e322 : S14.2 98 a1 = ((-2)) := by have q := hS14v a1; omega
                  have e323 : S275.2 99 a1 = ((S21.2 99 ((S.2 88 (a1))))) := by have q := hS275v a1; omega
                  have e324 : S268.2 99 a1 = S211.2 99 a1 := congrFun (hS268.2 99 (by decide)) _
                  have e325 : S211.2 99 a1 = S203.2 99 a1 := congrFun (hS211.2 99 (by decide)) _
                  have e326 : S203.2 99 a1 = S174.2 99 a1 := congrFun (hS203.2 99 (by decide)) _
                  have e327 : S174.2 99 a1 = S21.2 99 a1 := congrFun (hS174.2 99 (by decide)) _
                  have e328 : S21.2 99 a1 = S14.2 99 a1 := congrFun (hS21.2 99 (by decide)) _
                  have e329 : S14.2 99 a1 = S.2 99 a1 := congrFun (hS14.2 99 (by decide)) _
                  have e330 : S275.2 100 a1 = S268.2 100 a1 := congrFun (hS275.2 100 (by decide)) _
                  have e331 : S268.2 100 a1 = S211.2 100 a1 := congrFun (hS268.2 100 (by decide)) _
                  have e332 : S211.2 100 a1 = S203.2 100 a1 := congrFun (hS211.2 100 (by decide)) _
                  have e333 : S203.2 100 a1 = (((4 * (60 + (S21.2 99 ((S.2 88 (a1)))))) + r102)) := by have q := hS203v a1; omega
                  have e334 : S174.2 100 a1 = S21.2 100 a1 := congrFun (hS174.2 100 (by decide)) _
                  have e335 : S21.2 100 a1 = S14.2 100 a1 := congrFun (hS21.2 100 (by decide)) _
                  have e336 : S14.2 100 a1 = S.2 100 a1 := congrFun (hS14.2 100 (by decide)) _
                  have e337 : S275.2 101 a1 = S268.2 101 a1 := congrFun (hS275.2 101 (by decide)) _
                  have e338 : S268.2 101 a1 = S211.2 101 a1 := congrFun (hS268.2 101 (by decide)) _
                  have e339 : S211.2 101 a1 = ((-2)) := by have q := hS211v a1; omega
                  have e340 : S203.2 101 a1 = S174.2 101 a1 := congrFun (hS203.2 101 (by decide)) _
                  have e341 : S174.2 101 a1 = S21.2 101 a1 := congrFun (hS174.2 101 (by decide)) _
                  have e342 : S21.2 101 a1 = S14.2 101 a1 := congrFun (hS21.2 101 (by decide)) _
                  have e343 : S14.2 101 a1 = S.2 101 a1 := congrFun (hS14.2 101 (by decide)) _
                  have e344 : S275.2 91 a1 = S268.2 91 a1 := congrFun (hS275.2 91 (by decide)) _
                  have e345 : S268.2 91 a1 = S211.2 91 a1 := congrFun (hS268.2 91 (by decide)) _
                  have e346 : S211.2 91 a1 = S203.2 91 a1 := congrFun (hS211.2 91 (by decide)) _
                  have e347 : S203.2 91 a1 = S174.2 91 a1 := congrFun (hS203.2 91 (by decide)) _
                  have e348 : S174.2 91 a1 = S21.2 91 a1 := congrFun (hS174.2 91 (by decide)) _
                  have e349 : S21.2 91 a1 = S14.2 91 a1 := congrFun (hS21.2 91 (by decide)) _
                  have e350 : S14.2 91 a1 = S.2 91 a1 := congrFun (hS14.2 91 (by decide)) _
                  have e351 : S275.1 54 43 = S268.1 54 43 := hS275.1 43 (by decide)
                  have e352 : S268.1 54 43 = S211.1 54 43 := hS268.1 43 (by decide)
                  have e353 : S211.1 54 43 = S203.1 54 43 := hS211.1 43 (by decide)
                  have e354 : S203.1 54 43 = S174.1 54 43 := hS203.1 43 (by decide)
                  have e355 : S174.1 54 43 = S21.1 54 43 := hS174.1 43 (by decide)
                  have e356 : S21.1 54 43 = S14.1 54 43 := hS21.1 43 (by decide)
                  have e357 : S14.1 54 43 = S.1 54 43 := hS14.1 43 (by decide)
                  have e358 : S275.2 88 (a1 + 1) = S268.2 88 (a1 + 1) := congrFun (hS275.2 88 (by decide)) _
                  have e359 : S268.2 88 (a1 + 1) = S211.2 88 (a1 + 1) := congrFun (hS268.2 88 (by decide)) _
                  have e360 : S211.2 88 (a1 + 1) = S203.2 88 (a1 + 1) := congrFun (hS211.2 88 (by decide)) _
                  have e361 : S203.2 88 (a1 + 1) = S174.2 88 (a1 + 1) := congrFun (hS203.2 88 (by decide)) _
                  have e362 : S174.2 88 (a1 + 1) = S21.2 88 (a1 + 1) := congrFun (hS174.2 88 (by decide)) _
                  have e363 : S21.2 88 (a1 + 1) = S14.2 88 (a1 + 1) := congrFun (hS21.2 88 (by decide)) _
                  have e364 : S14.2 88 (a1 + 1) = S.2 88 (a1 + 1) := congrFun (hS14.2 88 (by decide)) _
                  have hcA : S275.2 67 2 = S.2 67 2 := congrFun (((Ch.tr (Ch.tr (Ch.tr (Ch.tr (Ch.tr (Ch.tr hS14 hS21) hS174) hS203) hS211) hS268) hS275)).2 67 (by decide)) _
                  exact hK (1) S275 (Ch.wk (Ch.tr (Ch.tr (Ch.tr (Ch.tr (Ch.tr (Ch.tr hS14 hS21) hS174) hS203) hS211) hS268) hS275) (by decide) (by decide)) (by omega) (Or.inr ⟨p6.mv (((Ch.tr (Ch.tr (Ch.tr (Ch.tr (Ch.tr (Ch.tr hS14 hS21) hS174) hS203) hS211) hS268) hS275)).2 59 (by decide)) (((Ch.tr (Ch.tr (Ch.tr (Ch.tr (Ch.tr (Ch.tr hS14 hS21) hS174) hS203) hS211) hS268) hS275)).2 67 (by decide)) (((Ch.tr (Ch.tr (Ch.tr (Ch.tr (Ch.tr (Ch.tr hS14 hS21) hS174) hS203) hS211) hS268) hS275)).2 68 (by decide)) (((Ch.tr (Ch.tr (Ch.tr (Ch.tr (Ch.tr (Ch.tr hS14 hS21) hS174) hS203) hS211) hS268) hS275)).2 69 (by decide)), p7.mv (((Ch.tr (Ch.tr (Ch.tr (Ch.tr (Ch.tr (Ch.tr hS14 hS21) hS174) hS203) hS211) hS268) hS275)).2 59 (by decide)) (((Ch.tr (Ch.tr (Ch.tr (Ch.tr (Ch.tr (Ch.tr hS14 hS21) hS174) hS203) hS211) hS268) hS275)).2 67 (by decide)) (((Ch.tr (Ch.tr (Ch.tr (Ch.tr (Ch.tr (Ch.tr hS14 hS21) hS174) hS203) hS211) hS268) hS275)).2 68 (by decide)) (((Ch.tr (Ch.tr (Ch.tr (Ch.tr (Ch.tr (Ch.tr hS14 hS21) hS174) hS203) hS211) hS268) hS275)).2 69 (by decide)) (((Ch.tr (Ch.tr (Ch.tr (Ch.tr (Ch.tr (Ch.tr hS14 hS21) hS174) hS203) hS211) hS268) hS275)).2 70 (by decide)), (EA_step p9x (⟨Or.inr ⟨by omega, by omega, by omega, by omega, by rw [show S275.2 99 a1 = S.2 99 (S.2 88 a1) by omega, show S275.2 100 a1 - 4 * (60 + S.2 99 (S.2 88 a1)) = r102 by omega, show S275.2 68 = S.2 68 from (((Ch.tr (Ch.tr (Ch.tr (Ch.tr (Ch.tr (Ch.tr hS14 hS21) hS174) hS203) hS211) hS268) hS275)).2 68 (by decide)), show S275.2 59 = S.2 59 from (((Ch.tr (Ch.tr (Ch.tr (Ch.tr (Ch.tr (Ch.tr hS14 hS21) hS174) hS203) hS211) hS268) hS275)).2 59 (by decide))]; omega⟩, by omega, by omega, by omega⟩) (by
                        intro x
                        have e365 : S275.2 98 x = S268.2 98 x := congrFun (hS275.2 98 (by decide)) _
                        have e366 := hS268v x
                        have e367 : S211.2 98 x = S203.2 98 x := congrFun (hS211.2 98 (by decide)) _
                        have e368 : S203.2 98 x = S174.2 98 x := congrFun (hS203.2 98 (by decide)) _
                        have e369 : S174.2 98 x = S21.2 98 x := congrFun (hS174.2 98 (by decide)) _
                        have e370 : S21.2 98 x = S14.2 98 x := congrFun (hS21.2 98 (by decide)) _
                        have e371 := hS14v x
                        omega) (by
                        intro x
                        have e372 := hS275v x
                        have e373 : S268.2 99 x = S211.2 99 x := congrFun (hS268.2 99 (by decide)) _
                        have e374 : S211.2 99 x = S203.2 99 x := congrFun (hS211.2 99 (by decide)) _
                        have e375 : S203.2 99 x = S174.2 99 x := congrFun (hS203.2 99 (by decide)) _
                        have e376 : S174.2 99 x = S21.2 99 x := congrFun (hS174.2 99 (by decide)) _
                        have e377 : S21.2 99 x = S14.2 99 x := congrFun (hS21.2 99 (by decide)) _
                        have e378 : S14.2 99 x = S.2 99 x := congrFun (hS14.2 99 (by decide)) _
                        omega) (by
                        intro x
                        have e379 : S275.2 100 x = S268.2 100 x := congrFun (hS275.2 100 (by decide)) _
                        have e380 : S268.2 100 x = S211.2 100 x := congrFun (hS268.2 100 (by decide)) _
                        have e381 : S211.2 100 x = S203.2 100 x := congrFun (hS211.2 100 (by decide)) _
                        have e382 := hS203v x
                        have e383 : S174.2 100 x = S21.2 100 x := congrFun (hS174.2 100 (by decide)) _
                        have e384 : S21.2 100 x = S14.2 100 x := congrFun (hS21.2 100 (by decide)) _
                        have e385 : S14.2 100 x = S.2 100 x := congrFun (hS14.2 100 (by decide)) _
                        omega) (by
                        intro x
                        have e386 : S275.2 101 x = S268.2 101 x := congrFun (hS275.2 101 (by decide)) _
                        have e387 : S268.2 101 x = S211.2 101 x := congrFun (hS268.2 101 (by decide)) _
                        have e388 := hS211v x
                        have e389 : S203.2 101 x = S174.2 101 x := congrFun (hS203.2 101 (by decide)) _
                        have e390 : S174.2 101 x = S21.2 101 x := congrFun (hS174.2 101 (by decide)) _
                        have e391 : S21.2 101 x = S14.2 101 x := congrFun (hS21.2 101 (by decide)) _
                        have e392 : S14.2 101 x = S.2 101 x := congrFun (hS14.2 101 (by decide)) _
                        omega) (((Ch.tr (Ch.tr (Ch.tr (Ch.tr (Ch.tr (Ch.tr hS14 hS21) hS174) hS203) hS211) hS268) hS275)).1 43 (by decide)) (((Ch.tr (Ch.tr (Ch.tr (Ch.tr (Ch.tr (Ch.tr hS14 hS21) hS174) hS203) hS211) hS268) hS275)).2 88 (by decide)) (((Ch.tr (Ch.tr (Ch.tr (Ch.tr (Ch.tr (Ch.tr hS14 hS21) hS174) hS203) hS211) hS268) hS275)).2 91 (by decide)) (((Ch.tr (Ch.tr (Ch.tr (Ch.tr (Ch.tr (Ch.tr hS14 hS21) hS174) hS203) hS211) hS268) hS275)).2 59 (by decide)) (by omega) (fun i i0 i1 => congrFun (((Ch.tr (Ch.tr (Ch.tr (Ch.tr (Ch.tr (Ch.tr hS14 hS21) hS174) hS203) hS211) hS268) hS275)).2 68 (by decide)) _))⟩) (FR.re (((Ch.tr (Ch.tr (Ch.tr (Ch.tr (Ch.tr (Ch.tr hS14 hS21) hS174) hS203) hS211) hS268) hS275)).2 67 (by decide)) (((Ch.tr (Ch.tr (Ch.tr (Ch.tr (Ch.tr (Ch.tr hS14 hS21) hS174) hS203) hS211) hS268) hS275)).2 68 (by decide)) (((Ch.tr (Ch.tr (Ch.tr (Ch.tr (Ch.tr (Ch.tr hS14 hS21) hS174) hS203) hS211) hS268) hS275)).2 69 (by decide)) (((Ch.tr (Ch.tr (Ch.tr (Ch.tr (Ch.tr (Ch.tr hS14 hS21) hS174) hS203) hS211) hS268) hS275)).2 70 (by decide))) (by
                        intro x
                        have e393 : S275.2 98 x = S268.2 98 x := congrFun (hS275.2 98 (by decide)) _
                        have e394 := hS268v x
                        have e395 : S211.2 98 x = S203.2 98 x := congrFun (hS211.2 98 (by decide)) _
                        have e396 : S203.2 98 x = S174.2 98 x := congrFun (hS203.2 98 (by decide)) _
                        have e397 : S174.2 98 x = S21.2 98 x := congrFun (hS174.2 98 (by decide)) _
                        have e398 : S21.2 98 x = S14.2 98 x := congrFun (hS21.2 98 (by decide)) _
                        have e399 := hS14v x
                        omega) (by omega) (by omega)
          · have hkd : S.2 59 (4 * S.2 68 (60 + S.2 99 (S.2 88 a1)) + r102) = 2 := by omega
            clear h215
            have e400 : S211.1 54 43 = S203.1 54 43 := hS211.1 43 (by decide)
            have e401 : S203.1 54 43 = S174.1 54 43 := hS203.1 43 (by decide)
            have e402 : S174.1 54 43 = S21.1 54 43 := hS174.1 43 (by decide)
            have e403 : S21.1 54 43 = S14.1 54 43 := hS21.1 43 (by decide)
            have e404 : S14.1 54 43 = S.1 54 43 := hS14.1 43 (by decide)
            have e405 : S211.1 54 43 = S203.1 54 43 := hS211.1 43 (by decide)
            have e406 : S203.1 54 43 = S174.1 54 43 := hS203.1 43 (by decide)
            have e407 : S174.1 54 43 = S21.1 54 43 := hS174.1 43 (by decide)
            have e408 : S21.1 54 43 = S14.1 54 43 := hS21.1 43 (by decide)
            have e409 : S14.1 54 43 = S.1 54 43 := hS14.1 43 (by decide)
            have e410 : S211.1 54 51 = S203.1 54 51 := hS211.1 51 (by decide)
            have e411 : S203.1 54 51 = S174.1 54 51 := hS203.1 51 (by decide)
            have e412 : S174.1 54 51 = S21.1 54 51 := hS174.1 51 (by decide)
            have e413 : S21.1 54 51 = S14.1 54 51 := hS21.1 51 (by decide)
            have e414 : S14.1 54 51 = S.1 54 51 := hS14.1 51 (by decide)
            have e415 : S211.2 67 2 = S203.2 67 2 := congrFun (hS211.2 67 (by decide)) _
            have e416 : S203.2 67 2 = S174.2 67 2 := congrFun (hS203.2 67 (by decide)) _
            have e417 : S174.2 67 2 = S21.2 67 2 := congrFun (hS174.2 67 (by decide)) _
            have e418 : S21.2 67 2 = S14.2 67 2 := congrFun (hS21.2 67 (by decide)) _
            have e419 : S14.2 67 2 = S.2 67 2 := congrFun (hS14.2 67 (by decide)) _
            have e420 : S211.1 54 56 = S203.1 54 56 := hS211.1 56 (by decide)
            have e421 : S203.1 54 56 = S174.1 54 56 := hS203.1 56 (by decide)
            have e422 : S174.1 54 56 = S21.1 54 56 := hS174.1 56 (by decide)
            have e423 : S21.1 54 56 = S14.1 54 56 := hS21.1 56 (by decide)
            have e424 : S14.1 54 56 = S.1 54 56 := hS14.1 56 (by decide)
            have e425 : S211.2 91 (a1) = S203.2 91 (a1) := congrFun (hS211.2 91 (by decide)) _
            have e426 : S203.2 91 (a1) = S174.2 91 (a1) := congrFun (hS203.2 91 (by decide)) _
            have e427 : S174.2 91 (a1) = S21.2 91 (a1) := congrFun (hS174.2 91 (by decide)) _
            have e428 : S21.2 91 (a1) = S14.2 91 (a1) := congrFun (hS21.2 91 (by decide)) _
            have e429 : S14.2 91 (a1) = S.2 91 (a1) := congrFun (hS14.2 91 (by decide)) _
            have e430 : S211.1 54 43 = S203.1 54 43 := hS211.1 43 (by decide)
            have e431 : S203.1 54 43 = S174.1 54 43 := hS203.1 43 (by decide)
            have e432 : S174.1 54 43 = S21.1 54 43 := hS174.1 43 (by decide)
            have e433 : S21.1 54 43 = S14.1 54 43 := hS21.1 43 (by decide)
            have e434 : S14.1 54 43 = S.1 54 43 := hS14.1 43 (by decide)
            have e435 : S211.2 88 ((a1) + 1) = S203.2 88 ((a1) + 1) := congrFun (hS211.2 88 (by decide)) _
            have e436 : S203.2 88 ((a1) + 1) = S174.2 88 ((a1) + 1) := congrFun (hS203.2 88 (by decide)) _
            have e437 : S174.2 88 ((a1) + 1) = S21.2 88 ((a1) + 1) := congrFun (hS174.2 88 (by decide)) _
            have e438 : S21.2 88 ((a1) + 1) = S14.2 88 ((a1) + 1) := congrFun (hS21.2 88 (by decide)) _
            have e439 : S14.2 88 ((a1) + 1) = S.2 88 ((a1) + 1) := congrFun (hS14.2 88 (by decide)) _
            refine tX11_isObjectElement (by omega) (by omega) (by omega) (PR.mv p4 (((Ch.tr (Ch.tr (Ch.tr (Ch.tr hS14 hS21) hS174) hS203) hS211)).1 43 (by decide)) (((Ch.tr (Ch.tr (Ch.tr (Ch.tr hS14 hS21) hS174) hS203) hS211)).1 51 (by decide)) (((Ch.tr (Ch.tr (Ch.tr (Ch.tr hS14 hS21) hS174) hS203) hS211)).2 86 (by decide)) (((Ch.tr (Ch.tr (Ch.tr (Ch.tr hS14 hS21) hS174) hS203) hS211)).2 87 (by decide)) (((Ch.tr (Ch.tr (Ch.tr (Ch.tr hS14 hS21) hS174) hS203) hS211)).2 88 (by decide)) (((Ch.tr (Ch.tr (Ch.tr (Ch.tr hS14 hS21) hS174) hS203) hS211)).2 90 (by decide)) (((Ch.tr (Ch.tr (Ch.tr (Ch.tr hS14 hS21) hS174) hS203) hS211)).2 91 (by decide))) (PA.mv2 p5 (((Ch.tr (Ch.tr (Ch.tr (Ch.tr hS14 hS21) hS174) hS203) hS211)).1 51 (by decide)) (((Ch.tr (Ch.tr (Ch.tr (Ch.tr hS14 hS21) hS174) hS203) hS211)).1 56 (by decide)) (((Ch.tr (Ch.tr (Ch.tr (Ch.tr hS14 hS21) hS174) hS203) hS211)).2 92 (by decide)) (((Ch.tr (Ch.tr (Ch.tr (Ch.tr hS14 hS21) hS174) hS203) hS211)).2 93 (by decide)) (((Ch.tr (Ch.tr (Ch.tr (Ch.tr hS14 hS21) hS174) hS203) hS211)).2 94 (by decide)) (((Ch.tr (Ch.tr (Ch.tr (Ch.tr hS14 hS21) hS174) hS203) hS211)).2 95 (by decide))) (p6.mv (((Ch.tr (Ch.tr (Ch.tr (Ch.tr hS14 hS21) hS174) hS203) hS211)).2 59 (by decide)) (((Ch.tr (Ch.tr (Ch.tr (Ch.tr hS14 hS21) hS174) hS203) hS211)).2 67 (by decide)) (((Ch.tr (Ch.tr (Ch.tr (Ch.tr hS14 hS21) hS174) hS203) hS211)).2 68 (by decide)) (((Ch.tr (Ch.tr (Ch.tr (Ch.tr hS14 hS21) hS174) hS203) hS211)).2 69 (by decide))) (by omega) (by omega) (by omega) (by omega) (fun r221 S221 hS221 n221_0 n221_1 n221_2 n221_3 n221_4 n221_5 n221_6 => ?_)
            refine ⟨by omega, by omega, ?_⟩
            intro q440
            have e441 : S221.2 100 (a1) = S211.2 100 (a1) := congrFun (hS221.2 100 (by decide)) _
            have e442 : S211.2 100 (a1) = S203.2 100 (a1) := congrFun (hS211.2 100 (by decide)) _
            have e443 : S203.2 100 (a1) = (((4 * (60 + (S21.2 99 ((S.2 88 (a1)))))) + r102)) := by have q := hS203v (a1); omega
            have e444 : S174.2 100 (a1) = S21.2 100 (a1) := congrFun (hS174.2 100 (by decide)) _
            have e445 : S21.2 100 (a1) = S14.2 100 (a1) := congrFun (hS21.2 100 (by decide)) _
            have e446 : S14.2 100 (a1) = S.2 100 (a1) := congrFun (hS14.2 100 (by decide)) _
            refine ⟨by omega, by omega, ?_⟩
            intro q447
            first | have e448 : S221.2 98 (a1) = S211.2 98 (a1) := by have q := n221_3 (a1); omega | have e448 := n221_3 (a1)
            have e449 : S211.2 98 (a1) = S203.2 98 (a1) := congrFun (hS211.2 98 (by decide)) _
            have e450 : S203.2 98 (a1) = S174.2 98 (a1) := congrFun (hS203.2 98 (by decide)) _
            have e451 : S174.2 98 (a1) = S21.2 98 (a1) := congrFun (hS174.2 98 (by decide)) _
            have e452 : S21.2 98 (a1) = S14.2 98 (a1) := congrFun (hS21.2 98 (by decide)) _
            have e453 : S14.2 98 (a1) = ((-2)) := by have q := hS14v (a1); omega
            refine ⟨fun h243 => ?_, fun h243 => ?_⟩
            · refine ⟨by omega, by omega, ?_⟩
              intro S257 hS257e
              have hS257 : Ch [] [69] S221 S257 := Ch_A hS257e
              have hS257v : ∀ x, (x = S221.2 100 (a1) ∧ S257.2 69 x = (-2)) ∨ (¬ x = S221.2 100 (a1) ∧ S257.2 69 x = S221.2 69 x) := pA_at hS257e
              refine ⟨by omega, ?_⟩
              have e454 : S257.2 98 a1 = S221.2 98 a1 := congrFun (hS257.2 98 (by decide)) _
              first | have e455 : S221.2 98 a1 = S211.2 98 a1 := by have q := n221_3 a1; omega | have e455 := n221_3 a1
              have e456 : S211.2 98 a1 = S203.2 98 a1 := congrFun (hS211.2 98 (by decide)) _
              have e457 : S203.2 98 a1 = S174.2 98 a1 := congrFun (hS203.2 98 (by decide)) _
              have e458 : S174.2 98 a1 = S21.2 98 a1 := congrFun (hS174.2 98 (by decide)) _
              have e459 : S21.2 98 a1 = S14.2 98 a1 := congrFun (hS21.2 98 (by decide)) _
              have e460 : S14.2 98 a1 = ((-2)) := by have q := hS14v a1; omega
              have e461 : S257.2 67 2 = S221.2 67 2 := congrFun (hS257.2 67 (by decide)) _
              have e462 : S257.2 98 a1 = S221.2 98 a1 := congrFun (hS257.2 98 (by decide)) _
              first | have e463 : S221.2 98 a1 = S211.2 98 a1 := by have q := n221_3 a1; omega | have e463 := n221_3 a1
              have e464 : S211.2 98 a1 = S203.2 98 a1 := congrFun (hS211.2 98 (by decide)) _
              have e465 : S203.2 98 a1 = S174.2 98 a1 := congrFun (hS203.2 98 (by decide)) _
              have e466 : S174.2 98 a1 = S21.2 98 a1 := congrFun (hS174.2 98 (by decide)) _
              have e467 : S21.2 98 a1 = S14.2 98 a1 := congrFun (hS21.2 98 (by decide)) _
              have e468 : S14.2 98 a1 = ((-2)) := by have q := hS14v a1; omega
              have e469 : S257.2 99 a1 = S221.2 99 a1 := congrFun (hS257.2 99 (by decide)) _
              first | have e470 : S221.2 99 a1 = S211.2 99 a1 := by have q := n221_4 a1; omega | have e470 := n221_4 a1
              have e471 : S211.2 99 a1 = S203.2 99 a1 := congrFun (hS211.2 99 (by decide)) _
              have e472 : S203.2 99 a1 = S174.2 99 a1 := congrFun (hS203.2 99 (by decide)) _
              have e473 : S174.2 99 a1 = S21.2 99 a1 := congrFun (hS174.2 99 (by decide)) _
              have e474 : S21.2 99 a1 = S14.2 99 a1 := congrFun (hS21.2 99 (by decide)) _
              have e475 : S14.2 99 a1 = S.2 99 a1 := congrFun (hS14.2 99 (by decide)) _
              have e476 : S257.2 100 a1 = S221.2 100 a1 := congrFun (hS257.2 100 (by decide)) _
              have e477 : S221.2 100 a1 = S211.2 100 a1 := congrFun (hS221.2 100 (by decide)) _
              have e478 : S211.2 100 a1 = S203.2 100 a1 := congrFun (hS211.2 100 (by decide)) _
              have e479 : S203.2 100 a1 = (((4 * (60 + (S21.2 99 ((S.2 88 (a1)))))) + r102)) := by have q := hS203v a1; omega
              have e480 : S174.2 100 a1 = S21.2 100 a1 := congrFun (hS174.2 100 (by decide)) _
              have e481 : S21.2 100 a1 = S14.2 100 a1 := congrFun (hS21.2 100 (by decide)) _
              have e482 : S14.2 100 a1 = S.2 100 a1 := congrFun (hS14.2 100 (by decide)) _
              have e483 : S257.2 101 a1 = S221.2 101 a1 := congrFun (hS257.2 101 (by decide)) _
              have e484 : S221.2 101 a1 = S211.2 101 a1 := congrFun (hS221.2 101 (by decide)) _
              have e485 : S211.2 101 a1 = ((-2)) := by have q := hS211v a1; omega
              have e486 : S203.2 101 a1 = S174.2 101 a1 := congrFun (hS203.2 101 (by decide)) _
              have e487 : S174.2 101 a1 = S21.2 101 a1 := congrFun (hS174.2 101 (by decide)) _
              have e488 : S21.2 101 a1 = S14.2 101 a1 := congrFun (hS21.2 101 (by decide)) _
              have e489 : S14.2 101 a1 = S.2 101 a1 := congrFun (hS14.2 101 (by decide)) _
              have e490 : S257.2 91 a1 = S221.2 91 a1 := congrFun (hS257.2 91 (by decide)) _
              have e491 : S221.2 91 a1 = S211.2 91 a1 := congrFun (hS221.2 91 (by decide)) _
              have e492 : S211.2 91 a1 = S203.2 91 a1 := congrFun (hS211.2 91 (by decide)) _
              have e493 : S203.2 91 a1 = S174.2 91 a1 := congrFun (hS203.2 91 (by decide)) _
              have e494 : S174.2 91 a1 = S21.2 91 a1 := congrFun (hS174.2 91 (by decide)) _
              have e495 : S21.2 91 a1 = S14.2 91 a1 := congrFun (hS21.2 91 (by decide)) _
              have e496 : S14.2 91 a1 = S.2 91 a1 := congrFun (hS14.2 91 (by decide)) _
              have e497 : S257.1 54 43 = S221.1 54 43 := hS257.1 43 (by decide)
              have e498 : S221.1 54 43 = S211.1 54 43 := hS221.1 43 (by decide)
              have e499 : S211.1 54 43 = S203.1 54 43 := hS211.1 43 (by decide)
              have e500 : S203.1 54 43 = S174.1 54 43 := hS203.1 43 (by decide)
              have e501 : S174.1 54 43 = S21.1 54 43 := hS174.1 43 (by decide)
              have e502 : S21.1 54 43 = S14.1 54 43 := hS21.1 43 (by decide)
              have e503 : S14.1 54 43 = S.1 54 43 := hS14.1 43 (by decide)
              have e504 : S257.2 88 (a1 + 1) = S221.2 88 (a1 + 1) := congrFun (hS257.2 88 (by decide)) _
              have e505 : S221.2 88 (a1 + 1) = S211.2 88 (a1 + 1) := congrFun (hS221.2 88 (by decide)) _
              have e506 : S211.2 88 (a1 + 1) = S203.2 88 (a1 + 1) := congrFun (hS211.2 88 (by decide)) _
              have e507 : S203.2 88 (a1 + 1) = S174.2 88 (a1 + 1) := congrFun (hS203.2 88 (by decide)) _
              have e508 : S174.2 88 (a1 + 1) = S21.2 88 (a1 + 1) := congrFun (hS174.2 88 (by decide)) _
              have e509 : S21.2 88 (a1 + 1) = S14.2 88 (a1 + 1) := congrFun (hS21.2 88 (by decide)) _
              have e510 : S14.2 88 (a1 + 1) = S.2 88 (a1 + 1) := congrFun (hS14.2 88 (by decide)) _
              have hcA : S211.2 67 2 = S.2 67 2 := congrFun (((Ch.tr (Ch.tr (Ch.tr (Ch.tr hS14 hS21) hS174) hS203) hS211)).2 67 (by decide)) _
              have hcB := n221_1.1
              have hcC : S257.2 67 2 = S221.2 67 2 := congrFun ((hS257).2 67 (by decide)) _
              have hOLp : OLg S211 2 60 := p7.mv (((Ch.tr (Ch.tr (Ch.tr (Ch.tr hS14 hS21) hS174) hS203) hS211)).2 59 (by decide)) (((Ch.tr (Ch.tr (Ch.tr (Ch.tr hS14 hS21) hS174) hS203) hS211)).2 67 (by decide)) (((Ch.tr (Ch.tr (Ch.tr (Ch.tr hS14 hS21) hS174) hS203) hS211)).2 68 (by decide)) (((Ch.tr (Ch.tr (Ch.tr (Ch.tr hS14 hS21) hS174) hS203) hS211)).2 69 (by decide)) (((Ch.tr (Ch.tr (Ch.tr (Ch.tr hS14 hS21) hS174) hS203) hS211)).2 70 (by decide))
              have hOKp : OKg S211 2 60 := p6.mv (((Ch.tr (Ch.tr (Ch.tr (Ch.tr hS14 hS21) hS174) hS203) hS211)).2 59 (by decide)) (((Ch.tr (Ch.tr (Ch.tr (Ch.tr hS14 hS21) hS174) hS203) hS211)).2 67 (by decide)) (((Ch.tr (Ch.tr (Ch.tr (Ch.tr hS14 hS21) hS174) hS203) hS211)).2 68 (by decide)) (((Ch.tr (Ch.tr (Ch.tr (Ch.tr hS14 hS21) hS174) hS203) hS211)).2 69 (by decide))
              have hOL2 := OLg_OE hOLp hOKp ((hS221).2 59 (by decide)) n221_1
              have hfo : S221.2 100 a1 = 4 * (60 + S.2 99 (S.2 88 a1)) + r102 := by
                rw [show S221.2 100 = S203.2 100 from (((Ch.tr hS211 hS221)).2 100 (by decide))]
                have q := hS203v a1
                omega
              have hk2 : S221.2 68 (60 + S.2 99 (S.2 88 a1)) = S.2 68 (60 + S.2 99 (S.2 88 a1)) := by
                have q := n221_1.2.2.1 (60 + S.2 99 (S.2 88 a1))
                have q1 : S211.2 67 2 = S.2 67 2 := congrFun (((Ch.tr (Ch.tr (Ch.tr (Ch.tr hS14 hS21) hS174) hS203) hS211)).2 67 (by decide)) _
                have q2 : S211.2 68 (60 + S.2 99 (S.2 88 a1)) = S.2 68 (60 + S.2 99 (S.2 88 a1)) := congrFun (((Ch.tr (Ch.tr (Ch.tr (Ch.tr hS14 hS21) hS174) hS203) hS211)).2 68 (by decide)) _
                omega
              have h59 : S221.2 59 = S.2 59 := (((Ch.tr (Ch.tr (Ch.tr (Ch.tr (Ch.tr hS14 hS21) hS174) hS203) hS211) hS221)).2 59 (by decide))
              have hv9 : ∀ x : Int, x = 4 * (60 + S.2 99 (S.2 88 a1)) + r102 ∨ S257.2 69 x = S221.2 69 x := by
                intro x
                have q := hS257v x
                rw [hfo] at q
                omega
              have hvk : S257.2 69 (4 * (60 + S.2 99 (S.2 88 a1)) + r102) = ((-2)) := by
                have q := hS257v (4 * (60 + S.2 99 (S.2 88 a1)) + r102)
                rw [hfo] at q
                omega
              exact hK (r221) S257 (Ch.wk (Ch.tr (Ch.tr (Ch.tr (Ch.tr (Ch.tr (Ch.tr hS14 hS21) hS174) hS203) hS211) hS221) hS257) (by decide) (by decide)) (by omega) (by
                    rcases n221_5 with h | h
                    · exact Or.inl h
                    · refine Or.inr ⟨OK_slot (k := 4 * (60 + S.2 99 (S.2 88 a1)) + r102) n221_2 ((hS257).2 59 (by decide)) ((hS257).2 67 (by decide)) ((hS257).2 68 (by decide)) hv9 (fun x y x0 x1 y0 y1 q => ?_), OL_slot (k := 4 * (60 + S.2 99 (S.2 88 a1)) + r102) hOL2 n221_2 ((hS257).2 59 (by decide)) ((hS257).2 67 (by decide)) ((hS257).2 68 (by decide)) hv9 (fun x => Or.inr (congrFun ((hS257).2 70 (by decide)) _)) (fun x y z x0 x1 y0 y1 q k3 z0 z1 => ?_), (EA_step p9x (⟨Or.inl (by omega), by omega, ?_, by omega⟩) (by
                    intro x
                    have e511 : S257.2 98 x = S221.2 98 x := congrFun (hS257.2 98 (by decide)) _
                    have e512 := n221_3 x
                    have e513 : S211.2 98 x = S203.2 98 x := congrFun (hS211.2 98 (by decide)) _
                    have e514 : S203.2 98 x = S174.2 98 x := congrFun (hS203.2 98 (by decide)) _
                    have e515 : S174.2 98 x = S21.2 98 x := congrFun (hS174.2 98 (by decide)) _
                    have e516 : S21.2 98 x = S14.2 98 x := congrFun (hS21.2 98 (by decide)) _
                    have e517 := hS14v x
                    omega) (by
                    intro x
                    have e518 : S257.2 99 x = S221.2 99 x := congrFun (hS257.2 99 (by decide)) _
                    have e519 := n221_4 x
                    have e520 : S211.2 99 x = S203.2 99 x := congrFun (hS211.2 99 (by decide)) _
                    have e521 : S203.2 99 x = S174.2 99 x := congrFun (hS203.2 99 (by decide)) _
                    have e522 : S174.2 99 x = S21.2 99 x := congrFun (hS174.2 99 (by decide)) _
                    have e523 : S21.2 99 x = S14.2 99 x := congrFun (hS21.2 99 (by decide)) _
                    have e524 : S14.2 99 x = S.2 99 x := congrFun (hS14.2 99 (by decide)) _
                    omega) (by
                    intro x
                    have e525 : S257.2 100 x = S221.2 100 x := congrFun (hS257.2 100 (by decide)) _
                    have e526 : S221.2 100 x = S211.2 100 x := congrFun (hS221.2 100 (by decide)) _
                    have e527 : S211.2 100 x = S203.2 100 x := congrFun (hS211.2 100 (by decide)) _
                    have e528 := hS203v x
                    have e529 : S174.2 100 x = S21.2 100 x := congrFun (hS174.2 100 (by decide)) _
                    have e530 : S21.2 100 x = S14.2 100 x := congrFun (hS21.2 100 (by decide)) _
                    have e531 : S14.2 100 x = S.2 100 x := congrFun (hS14.2 100 (by decide)) _
                    omega) (by
                    intro x
                    have e532 : S257.2 101 x = S221.2 101 x := congrFun (hS257.2 101 (by decide)) _
                    have e533 : S221.2 101 x = S211.2 101 x := congrFun (hS221.2 101 (by decide)) _
                    have e534 := hS211v x
                    have e535 : S203.2 101 x = S174.2 101 x := congrFun (hS203.2 101 (by decide)) _
                    have e536 : S174.2 101 x = S21.2 101 x := congrFun (hS174.2 101 (by decide)) _
                    have e537 : S21.2 101 x = S14.2 101 x := congrFun (hS21.2 101 (by decide)) _
                    have e538 : S14.2 101 x = S.2 101 x := congrFun (hS14.2 101 (by decide)) _
                    omega) (((Ch.tr (Ch.tr (Ch.tr (Ch.tr (Ch.tr (Ch.tr hS14 hS21) hS174) hS203) hS211) hS221) hS257)).1 43 (by decide)) (((Ch.tr (Ch.tr (Ch.tr (Ch.tr (Ch.tr (Ch.tr hS14 hS21) hS174) hS203) hS211) hS221) hS257)).2 88 (by decide)) (((Ch.tr (Ch.tr (Ch.tr (Ch.tr (Ch.tr (Ch.tr hS14 hS21) hS174) hS203) hS211) hS221) hS257)).2 91 (by decide)) (((Ch.tr (Ch.tr (Ch.tr (Ch.tr (Ch.tr (Ch.tr hS14 hS21) hS174) hS203) hS211) hS221) hS257)).2 59 (by decide)) (by omega) (fun i i0 i1 => by
                    have q := n221_1.2.2.1 (60 + i)
                    have q1 : S211.2 67 2 = S.2 67 2 := congrFun (((Ch.tr (Ch.tr (Ch.tr (Ch.tr hS14 hS21) hS174) hS203) hS211)).2 67 (by decide)) _
                    have q2 : S211.2 68 (60 + i) = S.2 68 (60 + i) := congrFun (((Ch.tr (Ch.tr (Ch.tr (Ch.tr hS14 hS21) hS174) hS203) hS211)).2 68 (by decide)) _
                    have q3 : S257.2 68 (60 + i) = S221.2 68 (60 + i) := congrFun ((hS257).2 68 (by decide)) _
                    omega))⟩
                      · have ex : x = S.2 99 (S.2 88 a1) := by omega
                        have ey : y = r102 := by omega
                        rw [ex, ey, hk2, h59, hvk]
                        unfold tyV
                        omega
                      · have ex : x = S.2 99 (S.2 88 a1) := by omega
                        have ey : y = r102 := by omega
                        rw [ex, ey, hk2, h59] at k3
                        omega
                      · by_cases h5 : S257.2 98 a1 = 5
                        · refine Or.inr ⟨by omega, Or.inr ⟨by omega, by omega, Or.inr ⟨by omega, ?_⟩⟩⟩
                          unfold rk
                          rw [show S257.2 100 a1 = 4 * (60 + S.2 99 (S.2 88 a1)) + r102 by omega, show (4 * (60 + S.2 99 (S.2 88 a1)) + r102 - 240) / 4 = S.2 99 (S.2 88 a1) by omega, show (4 * (60 + S.2 99 (S.2 88 a1)) + r102 - 240) % 4 = r102 by omega, show S257.2 68 = S221.2 68 from ((hS257).2 68 (by decide)), hk2, show S257.2 59 = S.2 59 from (((Ch.tr (Ch.tr (Ch.tr (Ch.tr (Ch.tr (Ch.tr hS14 hS21) hS174) hS203) hS211) hS221) hS257)).2 59 (by decide))]
                          omega
                        · exact Or.inl h5) (((FR.re (((Ch.tr (Ch.tr (Ch.tr (Ch.tr hS14 hS21) hS174) hS203) hS211)).2 67 (by decide)) (((Ch.tr (Ch.tr (Ch.tr (Ch.tr hS14 hS21) hS174) hS203) hS211)).2 68 (by decide)) (((Ch.tr (Ch.tr (Ch.tr (Ch.tr hS14 hS21) hS174) hS203) hS211)).2 69 (by decide)) (((Ch.tr (Ch.tr (Ch.tr (Ch.tr hS14 hS21) hS174) hS203) hS211)).2 70 (by decide))).tr (n221_1.fr (by have q : S211.2 67 2 = S.2 67 2 := congrFun (((Ch.tr (Ch.tr (Ch.tr (Ch.tr hS14 hS21) hS174) hS203) hS211)).2 67 (by decide)) _; omega))).tr ⟨fun x => Or.inr (congrFun ((hS257).2 67 (by decide)) _), fun x => Or.inr (congrFun ((hS257).2 68 (by decide)) _), fun x => by have q := hv9 x; omega, fun x => Or.inr (congrFun ((hS257).2 70 (by decide)) _)⟩) (by
                    intro x
                    have e539 : S257.2 98 x = S221.2 98 x := congrFun (hS257.2 98 (by decide)) _
                    have e540 := n221_3 x
                    have e541 : S211.2 98 x = S203.2 98 x := congrFun (hS211.2 98 (by decide)) _
                    have e542 : S203.2 98 x = S174.2 98 x := congrFun (hS203.2 98 (by decide)) _
                    have e543 : S174.2 98 x = S21.2 98 x := congrFun (hS174.2 98 (by decide)) _
                    have e544 : S21.2 98 x = S14.2 98 x := congrFun (hS21.2 98 (by decide)) _
                    have e545 := hS14v x
                    omega) (by omega) (by omega)
            · refine ⟨by omega, by omega, ?_⟩
              intro q546
              first | have e547 : S221.2 99 (a1) = S211.2 99 (a1) := by have q := n221_4 (a1); omega | have e547 := n221_4 (a1)
              have e548 : S211.2 99 (a1) = S203.2 99 (a1) := congrFun (hS211.2 99 (by decide)) _
              have e549 : S203.2 99 (a1) = S174.2 99 (a1) := congrFun (hS203.2 99 (by decide)) _
              have e550 : S174.2 99 (a1) = S21.2 99 (a1) := congrFun (hS174.2 99 (by decide)) _
              have e551 : S21.2 99 (a1) = S14.2 99 (a1) := congrFun (hS21.2 99 (by decide)) _
              have e552 : S14.2 99 (a1) = S.2 99 (a1) := congrFun (hS14.2 99 (by decide)) _
              refine ⟨by omega, by omega, ?_⟩
              refine ⟨by omega, ?_⟩
              intro S257 hS257e
              have hS257 : Ch [] [69] S221 S257 := Ch_A hS257e
              have hS257v : ∀ x, (x = S221.2 100 (a1) ∧ S257.2 69 x = S221.2 99 (a1)) ∨ (¬ x = S221.2 100 (a1) ∧ S257.2 69 x = S221.2 69 x) := pA_at hS257e
              refine ⟨by omega, ?_⟩
              have e553 : S257.2 98 a1 = S221.2 98 a1 := congrFun (hS257.2 98 (by decide)) _
              first | have e554 : S221.2 98 a1 = S211.2 98 a1 := by have q := n221_3 a1; omega | have e554 := n221_3 a1
              have e555 : S211.2 98 a1 = S203.2 98 a1 := congrFun (hS211.2 98 (by decide)) _
              have e556 : S203.2 98 a1 = S174.2 98 a1 := congrFun (hS203.2 98 (by decide)) _
              have e557 : S174.2 98 a1 = S21.2 98 a1 := congrFun (hS174.2 98 (by decide)) _
              have e558 : S21.2 98 a1 = S14.2 98 a1 := congrFun (hS21.2 98 (by decide)) _
              have e559 : S14.2 98 a1 = ((-2)) := by have q := hS14v a1; omega
              have e560 : S257.2 67 2 = S221.2 67 2 := congrFun (hS257.2 67 (by decide)) _
              have e561 : S257.2 98 a1 = S221.2 98 a1 := congrFun (hS257.2 98 (by decide)) _
              first | have e562 : S221.2 98 a1 = S211.2 98 a1 := by have q := n221_3 a1; omega | have e562 := n221_3 a1
              have e563 : S211.2 98 a1 = S203.2 98 a1 := congrFun (hS211.2 98 (by decide)) _
              have e564 : S203.2 98 a1 = S174.2 98 a1 := congrFun (hS203.2 98 (by decide)) _
              have e565 : S174.2 98 a1 = S21.2 98 a1 := congrFun (hS174.2 98 (by decide)) _
              have e566 : S21.2 98 a1 = S14.2 98 a1 := congrFun (hS21.2 98 (by decide)) _
              have e567 : S14.2 98 a1 = ((-2)) := by have q := hS14v a1; omega
              have e568 : S257.2 99 a1 = S221.2 99 a1 := congrFun (hS257.2 99 (by decide)) _
              first | have e569 : S221.2 99 a1 = S211.2 99 a1 := by have q := n221_4 a1; omega | have e569 := n221_4 a1
              have e570 : S211.2 99 a1 = S203.2 99 a1 := congrFun (hS211.2 99 (by decide)) _
              have e571 : S203.2 99 a1 = S174.2 99 a1 := congrFun (hS203.2 99 (by decide)) _
              have e572 : S174.2 99 a1 = S21.2 99 a1 := congrFun (hS174.2 99 (by decide)) _
              have e573 : S21.2 99 a1 = S14.2 99 a1 := congrFun (hS21.2 99 (by decide)) _
              have e574 : S14.2 99 a1 = S.2 99 a1 := congrFun (hS14.2 99 (by decide)) _
              have e575 : S257.2 100 a1 = S221.2 100 a1 := congrFun (hS257.2 100 (by decide)) _
              have e576 : S221.2 100 a1 = S211.2 100 a1 := congrFun (hS221.2 100 (by decide)) _
              have e577 : S211.2 100 a1 = S203.2 100 a1 := congrFun (hS211.2 100 (by decide)) _
              have e578 : S203.2 100 a1 = (((4 * (60 + (S21.2 99 ((S.2 88 (a1)))))) + r102)) := by have q := hS203v a1; omega
              have e579 : S174.2 100 a1 = S21.2 100 a1 := congrFun (hS174.2 100 (by decide)) _
              have e580 : S21.2 100 a1 = S14.2 100 a1 := congrFun (hS21.2 100 (by decide)) _
              have e581 : S14.2 100 a1 = S.2 100 a1 := congrFun (hS14.2 100 (by decide)) _
              have e582 : S257.2 101 a1 = S221.2 101 a1 := congrFun (hS257.2 101 (by decide)) _
              have e583 : S221.2 101 a1 = S211.2 101 a1 := congrFun (hS221.2 101 (by decide)) _
              have e584 : S211.2 101 a1 = ((-2)) := by have q := hS211v a1; omega
              have e585 : S203.2 101 a1 = S174.2 101 a1 := congrFun (hS203.2 101 (by decide)) _
              have e586 : S174.2 101 a1 = S21.2 101 a1 := congrFun (hS174.2 101 (by decide)) _
              have e587 : S21.2 101 a1 = S14.2 101 a1 := congrFun (hS21.2 101 (by decide)) _
              have e588 : S14.2 101 a1 = S.2 101 a1 := congrFun (hS14.2 101 (by decide)) _
              have e589 : S257.2 91 a1 = S221.2 91 a1 := congrFun (hS257.2 91 (by decide)) _
              have e590 : S221.2 91 a1 = S211.2 91 a1 := congrFun (hS221.2 91 (by decide)) _
              have e591 : S211.2 91 a1 = S203.2 91 a1 := congrFun (hS211.2 91 (by decide)) _
              have e592 : S203.2 91 a1 = S174.2 91 a1 := congrFun (hS203.2 91 (by decide)) _
              have e593 : S174.2 91 a1 = S21.2 91 a1 := congrFun (hS174.2 91 (by decide)) _
              have e594 : S21.2 91 a1 = S14.2 91 a1 := congrFun (hS21.2 91 (by decide)) _
              have e595 : S14.2 91 a1 = S.2 91 a1 := congrFun (hS14.2 91 (by decide)) _
              have e596 : S257.1 54 43 = S221.1 54 43 := hS257.1 43 (by decide)
              have e597 : S221.1 54 43 = S211.1 54 43 := hS221.1 43 (by decide)
              have e598 : S211.1 54 43 = S203.1 54 43 := hS211.1 43 (by decide)
              have e599 : S203.1 54 43 = S174.1 54 43 := hS203.1 43 (by decide)
              have e600 : S174.1 54 43 = S21.1 54 43 := hS174.1 43 (by decide)
              have e601 : S21.1 54 43 = S14.1 54 43 := hS21.1 43 (by decide)
              have e602 : S14.1 54 43 = S.1 54 43 := hS14.1 43 (by decide)
              have e603 : S257.2 88 (a1 + 1) = S221.2 88 (a1 + 1) := congrFun (hS257.2 88 (by decide)) _
              have e604 : S221.2 88 (a1 + 1) = S211.2 88 (a1 + 1) := congrFun (hS221.2 88 (by decide)) _
              have e605 : S211.2 88 (a1 + 1) = S203.2 88 (a1 + 1) := congrFun (hS211.2 88 (by decide)) _
              have e606 : S203.2 88 (a1 + 1) = S174.2 88 (a1 + 1) := congrFun (hS203.2 88 (by decide)) _
              have e607 : S174.2 88 (a1 + 1) = S21.2 88 (a1 + 1) := congrFun (hS174.2 88 (by decide)) _
              have e608 : S21.2 88 (a1 + 1) = S14.2 88 (a1 + 1) := congrFun (hS21.2 88 (by decide)) _
              have e609 : S14.2 88 (a1 + 1) = S.2 88 (a1 + 1) := congrFun (hS14.2 88 (by decide)) _
              have hcA : S211.2 67 2 = S.2 67 2 := congrFun (((Ch.tr (Ch.tr (Ch.tr (Ch.tr hS14 hS21) hS174) hS203) hS211)).2 67 (by decide)) _
              have hcB := n221_1.1
              have hcC : S257.2 67 2 = S221.2 67 2 := congrFun ((hS257).2 67 (by decide)) _
              have hOLp : OLg S211 2 60 := p7.mv (((Ch.tr (Ch.tr (Ch.tr (Ch.tr hS14 hS21) hS174) hS203) hS211)).2 59 (by decide)) (((Ch.tr (Ch.tr (Ch.tr (Ch.tr hS14 hS21) hS174) hS203) hS211)).2 67 (by decide)) (((Ch.tr (Ch.tr (Ch.tr (Ch.tr hS14 hS21) hS174) hS203) hS211)).2 68 (by decide)) (((Ch.tr (Ch.tr (Ch.tr (Ch.tr hS14 hS21) hS174) hS203) hS211)).2 69 (by decide)) (((Ch.tr (Ch.tr (Ch.tr (Ch.tr hS14 hS21) hS174) hS203) hS211)).2 70 (by decide))
              have hOKp : OKg S211 2 60 := p6.mv (((Ch.tr (Ch.tr (Ch.tr (Ch.tr hS14 hS21) hS174) hS203) hS211)).2 59 (by decide)) (((Ch.tr (Ch.tr (Ch.tr (Ch.tr hS14 hS21) hS174) hS203) hS211)).2 67 (by decide)) (((Ch.tr (Ch.tr (Ch.tr (Ch.tr hS14 hS21) hS174) hS203) hS211)).2 68 (by decide)) (((Ch.tr (Ch.tr (Ch.tr (Ch.tr hS14 hS21) hS174) hS203) hS211)).2 69 (by decide))
              have hOL2 := OLg_OE hOLp hOKp ((hS221).2 59 (by decide)) n221_1
              have hfo : S221.2 100 a1 = 4 * (60 + S.2 99 (S.2 88 a1)) + r102 := by
                rw [show S221.2 100 = S203.2 100 from (((Ch.tr hS211 hS221)).2 100 (by decide))]
                have q := hS203v a1
                omega
              have hk2 : S221.2 68 (60 + S.2 99 (S.2 88 a1)) = S.2 68 (60 + S.2 99 (S.2 88 a1)) := by
                have q := n221_1.2.2.1 (60 + S.2 99 (S.2 88 a1))
                have q1 : S211.2 67 2 = S.2 67 2 := congrFun (((Ch.tr (Ch.tr (Ch.tr (Ch.tr hS14 hS21) hS174) hS203) hS211)).2 67 (by decide)) _
                have q2 : S211.2 68 (60 + S.2 99 (S.2 88 a1)) = S.2 68 (60 + S.2 99 (S.2 88 a1)) := congrFun (((Ch.tr (Ch.tr (Ch.tr (Ch.tr hS14 hS21) hS174) hS203) hS211)).2 68 (by decide)) _
                omega
              have h59 : S221.2 59 = S.2 59 := (((Ch.tr (Ch.tr (Ch.tr (Ch.tr (Ch.tr hS14 hS21) hS174) hS203) hS211) hS221)).2 59 (by decide))
              have hv9 : ∀ x : Int, x = 4 * (60 + S.2 99 (S.2 88 a1)) + r102 ∨ S257.2 69 x = S221.2 69 x := by
                intro x
                have q := hS257v x
                rw [hfo] at q
                omega
              have hvk : S257.2 69 (4 * (60 + S.2 99 (S.2 88 a1)) + r102) = (S221.2 99 (a1)) := by
                have q := hS257v (4 * (60 + S.2 99 (S.2 88 a1)) + r102)
                rw [hfo] at q
                omega
              exact hK (r221) S257 (Ch.wk (Ch.tr (Ch.tr (Ch.tr (Ch.tr (Ch.tr (Ch.tr hS14 hS21) hS174) hS203) hS211) hS221) hS257) (by decide) (by decide)) (by omega) (by
                    rcases n221_5 with h | h
                    · exact Or.inl h
                    · refine Or.inr ⟨OK_slot (k := 4 * (60 + S.2 99 (S.2 88 a1)) + r102) n221_2 ((hS257).2 59 (by decide)) ((hS257).2 67 (by decide)) ((hS257).2 68 (by decide)) hv9 (fun x y x0 x1 y0 y1 q => ?_), OL_slot (k := 4 * (60 + S.2 99 (S.2 88 a1)) + r102) hOL2 n221_2 ((hS257).2 59 (by decide)) ((hS257).2 67 (by decide)) ((hS257).2 68 (by decide)) hv9 (fun x => Or.inr (congrFun ((hS257).2 70 (by decide)) _)) (fun x y z x0 x1 y0 y1 q k3 z0 z1 => ?_), (EA_step p9x (⟨Or.inl (by omega), by omega, ?_, by omega⟩) (by
                    intro x
                    have e610 : S257.2 98 x = S221.2 98 x := congrFun (hS257.2 98 (by decide)) _
                    have e611 := n221_3 x
                    have e612 : S211.2 98 x = S203.2 98 x := congrFun (hS211.2 98 (by decide)) _
                    have e613 : S203.2 98 x = S174.2 98 x := congrFun (hS203.2 98 (by decide)) _
                    have e614 : S174.2 98 x = S21.2 98 x := congrFun (hS174.2 98 (by decide)) _
                    have e615 : S21.2 98 x = S14.2 98 x := congrFun (hS21.2 98 (by decide)) _
                    have e616 := hS14v x
                    omega) (by
                    intro x
                    have e617 : S257.2 99 x = S221.2 99 x := congrFun (hS257.2 99 (by decide)) _
                    have e618 := n221_4 x
                    have e619 : S211.2 99 x = S203.2 99 x := congrFun (hS211.2 99 (by decide)) _
                    have e620 : S203.2 99 x = S174.2 99 x := congrFun (hS203.2 99 (by decide)) _
                    have e621 : S174.2 99 x = S21.2 99 x := congrFun (hS174.2 99 (by decide)) _
                    have e622 : S21.2 99 x = S14.2 99 x := congrFun (hS21.2 99 (by decide)) _
                    have e623 : S14.2 99 x = S.2 99 x := congrFun (hS14.2 99 (by decide)) _
                    omega) (by
                    intro x
                    have e624 : S257.2 100 x = S221.2 100 x := congrFun (hS257.2 100 (by decide)) _
                    have e625 : S221.2 100 x = S211.2 100 x := congrFun (hS221.2 100 (by decide)) _
                    have e626 : S211.2 100 x = S203.2 100 x := congrFun (hS211.2 100 (by decide)) _
                    have e627 := hS203v x
                    have e628 : S174.2 100 x = S21.2 100 x := congrFun (hS174.2 100 (by decide)) _
                    have e629 : S21.2 100 x = S14.2 100 x := congrFun (hS21.2 100 (by decide)) _
                    have e630 : S14.2 100 x = S.2 100 x := congrFun (hS14.2 100 (by decide)) _
                    omega) (by
                    intro x
                    have e631 : S257.2 101 x = S221.2 101 x := congrFun (hS257.2 101 (by decide)) _
                    have e632 : S221.2 101 x = S211.2 101 x := congrFun (hS221.2 101 (by decide)) _
                    have e633 := hS211v x
                    have e634 : S203.2 101 x = S174.2 101 x := congrFun (hS203.2 101 (by decide)) _
                    have e635 : S174.2 101 x = S21.2 101 x := congrFun (hS174.2 101 (by decide)) _
                    have e636 : S21.2 101 x = S14.2 101 x := congrFun (hS21.2 101 (by decide)) _
                    have e637 : S14.2 101 x = S.2 101 x := congrFun (hS14.2 101 (by decide)) _
                    omega) (((Ch.tr (Ch.tr (Ch.tr (Ch.tr (Ch.tr (Ch.tr hS14 hS21) hS174) hS203) hS211) hS221) hS257)).1 43 (by decide)) (((Ch.tr (Ch.tr (Ch.tr (Ch.tr (Ch.tr (Ch.tr hS14 hS21) hS174) hS203) hS211) hS221) hS257)).2 88 (by decide)) (((Ch.tr (Ch.tr (Ch.tr (Ch.tr (Ch.tr (Ch.tr hS14 hS21) hS174) hS203) hS211) hS221) hS257)).2 91 (by decide)) (((Ch.tr (Ch.tr (Ch.tr (Ch.tr (Ch.tr (Ch.tr hS14 hS21) hS174) hS203) hS211) hS221) hS257)).2 59 (by decide)) (by omega) (fun i i0 i1 => by
                    have q := n221_1.2.2.1 (60 + i)
                    have q1 : S211.2 67 2 = S.2 67 2 := congrFun (((Ch.tr (Ch.tr (Ch.tr (Ch.tr hS14 hS21) hS174) hS203) hS211)).2 67 (by decide)) _
                    have q2 : S211.2 68 (60 + i) = S.2 68 (60 + i) := congrFun (((Ch.tr (Ch.tr (Ch.tr (Ch.tr hS14 hS21) hS174) hS203) hS211)).2 68 (by decide)) _
                    have q3 : S257.2 68 (60 + i) = S221.2 68 (60 + i) := congrFun ((hS257).2 68 (by decide)) _
                    omega))⟩
                      · have ex : x = S.2 99 (S.2 88 a1) := by omega
                        have ey : y = r102 := by omega
                        rw [ex, ey, hk2, h59, hvk]
                        unfold tyV
                        omega
                      · have ex : x = S.2 99 (S.2 88 a1) := by omega
                        have ey : y = r102 := by omega
                        rw [ex, ey, hk2, h59] at k3
                        omega
                      · by_cases h5 : S257.2 98 a1 = 5
                        · refine Or.inr ⟨by omega, Or.inr ⟨by omega, by omega, Or.inr ⟨by omega, ?_⟩⟩⟩
                          unfold rk
                          rw [show S257.2 100 a1 = 4 * (60 + S.2 99 (S.2 88 a1)) + r102 by omega, show (4 * (60 + S.2 99 (S.2 88 a1)) + r102 - 240) / 4 = S.2 99 (S.2 88 a1) by omega, show (4 * (60 + S.2 99 (S.2 88 a1)) + r102 - 240) % 4 = r102 by omega, show S257.2 68 = S221.2 68 from ((hS257).2 68 (by decide)), hk2, show S257.2 59 = S.2 59 from (((Ch.tr (Ch.tr (Ch.tr (Ch.tr (Ch.tr (Ch.tr hS14 hS21) hS174) hS203) hS211) hS221) hS257)).2 59 (by decide))]
                          omega
                        · exact Or.inl h5) (((FR.re (((Ch.tr (Ch.tr (Ch.tr (Ch.tr hS14 hS21) hS174) hS203) hS211)).2 67 (by decide)) (((Ch.tr (Ch.tr (Ch.tr (Ch.tr hS14 hS21) hS174) hS203) hS211)).2 68 (by decide)) (((Ch.tr (Ch.tr (Ch.tr (Ch.tr hS14 hS21) hS174) hS203) hS211)).2 69 (by decide)) (((Ch.tr (Ch.tr (Ch.tr (Ch.tr hS14 hS21) hS174) hS203) hS211)).2 70 (by decide))).tr (n221_1.fr (by have q : S211.2 67 2 = S.2 67 2 := congrFun (((Ch.tr (Ch.tr (Ch.tr (Ch.tr hS14 hS21) hS174) hS203) hS211)).2 67 (by decide)) _; omega))).tr ⟨fun x => Or.inr (congrFun ((hS257).2 67 (by decide)) _), fun x => Or.inr (congrFun ((hS257).2 68 (by decide)) _), fun x => by have q := hv9 x; omega, fun x => Or.inr (congrFun ((hS257).2 70 (by decide)) _)⟩) (by
                    intro x
                    have e638 : S257.2 98 x = S221.2 98 x := congrFun (hS257.2 98 (by decide)) _
                    have e639 := n221_3 x
                    have e640 : S211.2 98 x = S203.2 98 x := congrFun (hS211.2 98 (by decide)) _
                    have e641 : S203.2 98 x = S174.2 98 x := congrFun (hS203.2 98 (by decide)) _
                    have e642 : S174.2 98 x = S21.2 98 x := congrFun (hS174.2 98 (by decide)) _
                    have e643 : S21.2 98 x = S14.2 98 x := congrFun (hS21.2 98 (by decide)) _
                    have e644 := hS14v x
                    omega) (by omega) (by omega)
        · have e645 : S21.2 98 a1 = S14.2 98 a1 := congrFun (hS21.2 98 (by decide)) _
          have e646 : S14.2 98 a1 = ((-2)) := by have q := hS14v a1; omega
          have e647 : S21.2 67 2 = S14.2 67 2 := congrFun (hS21.2 67 (by decide)) _
          have e648 : S14.2 67 2 = S.2 67 2 := congrFun (hS14.2 67 (by decide)) _
          exact hK (0) S21 (Ch.wk (Ch.tr hS14 hS21) (by decide) (by decide)) (by omega) (Or.inl rfl) (FR.re (((Ch.tr hS14 hS21)).2 67 (by decide)) (((Ch.tr hS14 hS21)).2 68 (by decide)) (((Ch.tr hS14 hS21)).2 69 (by decide)) (((Ch.tr hS14 hS21)).2 70 (by decide))) (by
                intro x
                have e649 : S21.2 98 x = S14.2 98 x := congrFun (hS21.2 98 (by decide)) _
                have e650 := hS14v x
                omega) (by omega) (by omega)
      · clear n102_0 n102_1
        refine tX11_implicitOf (by omega) (fun r117 n117_0 n117_1 => ?_)
        refine ⟨by omega, ?_⟩
        refine ⟨fun h126 => ?_, fun h126 => ?_⟩
        · have e651 : S21.2 98 a1 = S14.2 98 a1 := congrFun (hS21.2 98 (by decide)) _
          have e652 : S14.2 98 a1 = ((-2)) := by have q := hS14v a1; omega
          have e653 : S21.2 67 2 = S14.2 67 2 := congrFun (hS21.2 67 (by decide)) _
          have e654 : S14.2 67 2 = S.2 67 2 := congrFun (hS14.2 67 (by decide)) _
          exact hK (0) S21 (Ch.wk (Ch.tr hS14 hS21) (by decide) (by decide)) (by omega) (Or.inl rfl) (FR.re (((Ch.tr hS14 hS21)).2 67 (by decide)) (((Ch.tr hS14 hS21)).2 68 (by decide)) (((Ch.tr hS14 hS21)).2 69 (by decide)) (((Ch.tr hS14 hS21)).2 70 (by decide))) (by
                intro x
                have e655 : S21.2 98 x = S14.2 98 x := congrFun (hS21.2 98 (by decide)) _
                have e656 := hS14v x
                omega) (by omega) (by omega)
        · have hr6 := n117_0.resolve_left (by omega)
          have hr7 := n117_1.resolve_left (by omega)
          clear n117_0 n117_1 h126
          have e657 : S21.1 54 43 = S14.1 54 43 := hS21.1 43 (by decide)
          have e658 : S14.1 54 43 = S.1 54 43 := hS14.1 43 (by decide)
          have e659 : S21.1 54 43 = S14.1 54 43 := hS21.1 43 (by decide)
          have e660 : S14.1 54 43 = S.1 54 43 := hS14.1 43 (by decide)
          have e661 : S21.1 54 51 = S14.1 54 51 := hS21.1 51 (by decide)
          have e662 : S14.1 54 51 = S.1 54 51 := hS14.1 51 (by decide)
          have e663 : S21.2 67 2 = S14.2 67 2 := congrFun (hS21.2 67 (by decide)) _
          have e664 : S14.2 67 2 = S.2 67 2 := congrFun (hS14.2 67 (by decide)) _
          have e665 : S21.1 54 56 = S14.1 54 56 := hS21.1 56 (by decide)
          have e666 : S14.1 54 56 = S.1 54 56 := hS14.1 56 (by decide)
          have e667 : S21.2 67 2 = S14.2 67 2 := congrFun (hS21.2 67 (by decide)) _
          have e668 : S14.2 67 2 = S.2 67 2 := congrFun (hS14.2 67 (by decide)) _
          have e669 : S21.2 59 (4 * (S21.2 68) (60 + ((S21.2 99 ((S.2 88 (a1)))))) + (r117)) = S14.2 59 (4 * (S21.2 68) (60 + ((S21.2 99 ((S.2 88 (a1)))))) + (r117)) := congrFun (hS21.2 59 (by decide)) _
          have e670 : S14.2 59 (4 * (S21.2 68) (60 + ((S21.2 99 ((S.2 88 (a1)))))) + (r117)) = S.2 59 (4 * (S21.2 68) (60 + ((S21.2 99 ((S.2 88 (a1)))))) + (r117)) := congrFun (hS14.2 59 (by decide)) _
          have e671 : S21.2 68 (60 + ((S21.2 99 ((S.2 88 (a1)))))) = S14.2 68 (60 + ((S21.2 99 ((S.2 88 (a1)))))) := congrFun (hS21.2 68 (by decide)) _
          have e672 : S14.2 68 (60 + ((S21.2 99 ((S.2 88 (a1)))))) = S.2 68 (60 + ((S21.2 99 ((S.2 88 (a1)))))) := congrFun (hS14.2 68 (by decide)) _
          have e673 : S21.2 67 2 = S14.2 67 2 := congrFun (hS21.2 67 (by decide)) _
          have e674 : S14.2 67 2 = S.2 67 2 := congrFun (hS14.2 67 (by decide)) _
          have e675 : S21.2 67 2 = S14.2 67 2 := congrFun (hS21.2 67 (by decide)) _
          have e676 : S14.2 67 2 = S.2 67 2 := congrFun (hS14.2 67 (by decide)) _
          have e677 : S21.2 91 (a1) = S14.2 91 (a1) := congrFun (hS21.2 91 (by decide)) _
          have e678 : S14.2 91 (a1) = S.2 91 (a1) := congrFun (hS14.2 91 (by decide)) _
          have e679 : S21.1 54 43 = S14.1 54 43 := hS21.1 43 (by decide)
          have e680 : S14.1 54 43 = S.1 54 43 := hS14.1 43 (by decide)
          have e681 : S21.2 88 ((a1) + 1) = S14.2 88 ((a1) + 1) := congrFun (hS21.2 88 (by decide)) _
          have e682 : S14.2 88 ((a1) + 1) = S.2 88 ((a1) + 1) := congrFun (hS14.2 88 (by decide)) _
          refine tX11_isListed (by omega) (by omega) (by omega) (PR.mv p4 (((Ch.tr hS14 hS21)).1 43 (by decide)) (((Ch.tr hS14 hS21)).1 51 (by decide)) (((Ch.tr hS14 hS21)).2 86 (by decide)) (((Ch.tr hS14 hS21)).2 87 (by decide)) (((Ch.tr hS14 hS21)).2 88 (by decide)) (((Ch.tr hS14 hS21)).2 90 (by decide)) (((Ch.tr hS14 hS21)).2 91 (by decide))) (PA.mv2 p5 (((Ch.tr hS14 hS21)).1 51 (by decide)) (((Ch.tr hS14 hS21)).1 56 (by decide)) (((Ch.tr hS14 hS21)).2 92 (by decide)) (((Ch.tr hS14 hS21)).2 93 (by decide)) (((Ch.tr hS14 hS21)).2 94 (by decide)) (((Ch.tr hS14 hS21)).2 95 (by decide))) (p6.mv (((Ch.tr hS14 hS21)).2 59 (by decide)) (((Ch.tr hS14 hS21)).2 67 (by decide)) (((Ch.tr hS14 hS21)).2 68 (by decide)) (((Ch.tr hS14 hS21)).2 69 (by decide))) (p7.mv (((Ch.tr hS14 hS21)).2 59 (by decide)) (((Ch.tr hS14 hS21)).2 67 (by decide)) (((Ch.tr hS14 hS21)).2 68 (by decide)) (((Ch.tr hS14 hS21)).2 69 (by decide)) (((Ch.tr hS14 hS21)).2 70 (by decide))) (by omega) (by omega) (by omega) (by omega) (by omega) (hr7) (fun r134 S134 hS134 n134_0 n134_1 n134_2 n134_3 n134_4 n134_5 n134_6 n134_7 n134_8 n134_9 n134_10 n134_11 => ?_)
          refine ⟨by omega, ?_⟩
          refine ⟨fun h137 => ?_, fun h137 => ?_⟩
          · first | have e683 : S134.2 98 a1 = S21.2 98 a1 := by have q := n134_5 a1; omega | have e683 := n134_5 a1
            have e684 : S21.2 98 a1 = S14.2 98 a1 := congrFun (hS21.2 98 (by decide)) _
            have e685 : S14.2 98 a1 = ((-2)) := by have q := hS14v a1; omega
            exact hK (0) S134 (Ch.wk (Ch.tr (Ch.tr hS14 hS21) hS134) (by decide) (by decide)) (by omega) (Or.inl rfl) ((FR.re (((Ch.tr hS14 hS21)).2 67 (by decide)) (((Ch.tr hS14 hS21)).2 68 (by decide)) (((Ch.tr hS14 hS21)).2 69 (by decide)) (((Ch.tr hS14 hS21)).2 70 (by decide))).tr n134_2) (by
                  intro x
                  have e686 := n134_5 x
                  have e687 : S21.2 98 x = S14.2 98 x := congrFun (hS21.2 98 (by decide)) _
                  have e688 := hS14v x
                  omega) (by omega) (by omega)
          · first | have e689 : S134.2 98 a1 = S21.2 98 a1 := by have q := n134_5 a1; omega | have e689 := n134_5 a1
            have e690 : S21.2 98 a1 = S14.2 98 a1 := congrFun (hS21.2 98 (by decide)) _
            have e691 : S14.2 98 a1 = ((-2)) := by have q := hS14v a1; omega
            first | have e692 : S134.2 98 a1 = S21.2 98 a1 := by have q := n134_5 a1; omega | have e692 := n134_5 a1
            have e693 : S21.2 98 a1 = S14.2 98 a1 := congrFun (hS21.2 98 (by decide)) _
            have e694 : S14.2 98 a1 = ((-2)) := by have q := hS14v a1; omega
            first | have e695 : S134.2 99 a1 = S21.2 99 a1 := by have q := n134_6 a1; omega | have e695 := n134_6 a1
            have e696 : S21.2 99 a1 = S14.2 99 a1 := congrFun (hS21.2 99 (by decide)) _
            have e697 : S14.2 99 a1 = S.2 99 a1 := congrFun (hS14.2 99 (by decide)) _
            first | have e698 : S134.2 100 a1 = S21.2 100 a1 := by have q := n134_7 a1; omega | have e698 := n134_7 a1
            have e699 : S21.2 100 a1 = S14.2 100 a1 := congrFun (hS21.2 100 (by decide)) _
            have e700 : S14.2 100 a1 = S.2 100 a1 := congrFun (hS14.2 100 (by decide)) _
            first | have e701 : S134.2 101 a1 = S21.2 101 a1 := by have q := n134_8 a1; omega | have e701 := n134_8 a1
            have e702 : S21.2 101 a1 = S14.2 101 a1 := congrFun (hS21.2 101 (by decide)) _
            have e703 : S14.2 101 a1 = S.2 101 a1 := congrFun (hS14.2 101 (by decide)) _
            have e704 : S134.2 91 a1 = S21.2 91 a1 := congrFun (hS134.2 91 (by decide)) _
            have e705 : S21.2 91 a1 = S14.2 91 a1 := congrFun (hS21.2 91 (by decide)) _
            have e706 : S14.2 91 a1 = S.2 91 a1 := congrFun (hS14.2 91 (by decide)) _
            have e707 : S134.1 54 43 = S21.1 54 43 := hS134.1 43 (by decide)
            have e708 : S21.1 54 43 = S14.1 54 43 := hS21.1 43 (by decide)
            have e709 : S14.1 54 43 = S.1 54 43 := hS14.1 43 (by decide)
            have e710 : S134.2 88 (a1 + 1) = S21.2 88 (a1 + 1) := congrFun (hS134.2 88 (by decide)) _
            have e711 : S21.2 88 (a1 + 1) = S14.2 88 (a1 + 1) := congrFun (hS21.2 88 (by decide)) _
            have e712 : S14.2 88 (a1 + 1) = S.2 88 (a1 + 1) := congrFun (hS14.2 88 (by decide)) _
            have hcA : S21.2 67 2 = S.2 67 2 := congrFun (((Ch.tr hS14 hS21)).2 67 (by decide)) _
            have hcB := n134_3
            exact hK (1) S134 (Ch.wk (Ch.tr (Ch.tr hS14 hS21) hS134) (by decide) (by decide)) (by omega) (by
                  rcases n134_1 with h | h
                  · exact Or.inl (by omega)
                  · rcases n134_9 with h2 | h2
                    · exact Or.inl (by omega)
                    · rcases n134_10 with h3 | h3
                      · exact Or.inl (by omega)
                      · exact Or.inr ⟨h.1, h.2, (EA_step p9x (⟨Or.inl (by omega), by omega, by omega, by omega⟩) (by
                  intro x
                  have e713 := n134_5 x
                  have e714 : S21.2 98 x = S14.2 98 x := congrFun (hS21.2 98 (by decide)) _
                  have e715 := hS14v x
                  omega) (by
                  intro x
                  have e716 := n134_6 x
                  have e717 : S21.2 99 x = S14.2 99 x := congrFun (hS21.2 99 (by decide)) _
                  have e718 : S14.2 99 x = S.2 99 x := congrFun (hS14.2 99 (by decide)) _
                  omega) (by
                  intro x
                  have e719 := n134_7 x
                  have e720 : S21.2 100 x = S14.2 100 x := congrFun (hS21.2 100 (by decide)) _
                  have e721 : S14.2 100 x = S.2 100 x := congrFun (hS14.2 100 (by decide)) _
                  omega) (by
                  intro x
                  have e722 := n134_8 x
                  have e723 : S21.2 101 x = S14.2 101 x := congrFun (hS21.2 101 (by decide)) _
                  have e724 : S14.2 101 x = S.2 101 x := congrFun (hS14.2 101 (by decide)) _
                  omega) (((Ch.tr (Ch.tr hS14 hS21) hS134)).1 43 (by decide)) (((Ch.tr (Ch.tr hS14 hS21) hS134)).2 88 (by decide)) (((Ch.tr (Ch.tr hS14 hS21) hS134)).2 91 (by decide)) (((Ch.tr (Ch.tr hS14 hS21) hS134)).2 59 (by decide)) (by omega) (fun i i0 i1 => by
                  have q := n134_4 i
                  have q1 : S21.2 67 2 = S.2 67 2 := congrFun (((Ch.tr hS14 hS21)).2 67 (by decide)) _
                  have q2 : S21.2 68 (60 + i) = S.2 68 (60 + i) := congrFun (((Ch.tr hS14 hS21)).2 68 (by decide)) _
                  omega))⟩) ((FR.re (((Ch.tr hS14 hS21)).2 67 (by decide)) (((Ch.tr hS14 hS21)).2 68 (by decide)) (((Ch.tr hS14 hS21)).2 69 (by decide)) (((Ch.tr hS14 hS21)).2 70 (by decide))).tr n134_2) (by
                  intro x
                  have e725 := n134_5 x
                  have e726 : S21.2 98 x = S14.2 98 x := congrFun (hS21.2 98 (by decide)) _
                  have e727 := hS14v x
                  omega) (by omega) (by omega)
    · replace hE1 := hE1.resolve_left (by omega)
      clear hro
      refine ⟨by omega, by omega, ?_⟩
      intro q728
      have e729 : S21.2 100 ((S.2 88 (a1))) = S14.2 100 ((S.2 88 (a1))) := congrFun (hS21.2 100 (by decide)) _
      have e730 : S14.2 100 ((S.2 88 (a1))) = S.2 100 ((S.2 88 (a1))) := congrFun (hS14.2 100 (by decide)) _
      have etd : Int.tdiv (S21.2 100 (S.2 88 a1)) 4 = 60 + S.2 99 (S.2 88 a1) := by
        rw [Int.tdiv_eq_ediv_of_nonneg (by omega)]
        omega
      refine ⟨by omega, ?_⟩
      have e731 : S21.1 54 43 = S14.1 54 43 := hS21.1 43 (by decide)
      have e732 : S14.1 54 43 = S.1 54 43 := hS14.1 43 (by decide)
      have e733 : S21.1 54 43 = S14.1 54 43 := hS21.1 43 (by decide)
      have e734 : S14.1 54 43 = S.1 54 43 := hS14.1 43 (by decide)
      have e735 : S21.1 54 51 = S14.1 54 51 := hS21.1 51 (by decide)
      have e736 : S14.1 54 51 = S.1 54 51 := hS14.1 51 (by decide)
      have e737 : S21.2 67 2 = S14.2 67 2 := congrFun (hS21.2 67 (by decide)) _
      have e738 : S14.2 67 2 = S.2 67 2 := congrFun (hS14.2 67 (by decide)) _
      have e739 : S21.1 54 56 = S14.1 54 56 := hS21.1 56 (by decide)
      have e740 : S14.1 54 56 = S.1 54 56 := hS14.1 56 (by decide)
      have e741 : S21.2 67 2 = S14.2 67 2 := congrFun (hS21.2 67 (by decide)) _
      have e742 : S14.2 67 2 = S.2 67 2 := congrFun (hS14.2 67 (by decide)) _
      have e743 : S21.2 59 (4 * (S21.2 68) (60 + ((S21.2 99 ((S.2 88 (a1)))))) + ((S21.2 100 ((S.2 88 (a1))) - Int.tdiv (S21.2 100 ((S.2 88 (a1)))) (4) * 4))) = S14.2 59 (4 * (S21.2 68) (60 + ((S21.2 99 ((S.2 88 (a1)))))) + ((S21.2 100 ((S.2 88 (a1))) - Int.tdiv (S21.2 100 ((S.2 88 (a1)))) (4) * 4))) := congrFun (hS21.2 59 (by decide)) _
      have e744 : S14.2 59 (4 * (S21.2 68) (60 + ((S21.2 99 ((S.2 88 (a1)))))) + ((S21.2 100 ((S.2 88 (a1))) - Int.tdiv (S21.2 100 ((S.2 88 (a1)))) (4) * 4))) = S.2 59 (4 * (S21.2 68) (60 + ((S21.2 99 ((S.2 88 (a1)))))) + ((S21.2 100 ((S.2 88 (a1))) - Int.tdiv (S21.2 100 ((S.2 88 (a1)))) (4) * 4))) := congrFun (hS14.2 59 (by decide)) _
      have e745 : S21.2 68 (60 + ((S21.2 99 ((S.2 88 (a1)))))) = S14.2 68 (60 + ((S21.2 99 ((S.2 88 (a1)))))) := congrFun (hS21.2 68 (by decide)) _
      have e746 : S14.2 68 (60 + ((S21.2 99 ((S.2 88 (a1)))))) = S.2 68 (60 + ((S21.2 99 ((S.2 88 (a1)))))) := congrFun (hS14.2 68 (by decide)) _
      have e747 : S21.2 67 2 = S14.2 67 2 := congrFun (hS21.2 67 (by decide)) _
      have e748 : S14.2 67 2 = S.2 67 2 := congrFun (hS14.2 67 (by decide)) _
      have e749 : S21.2 67 2 = S14.2 67 2 := congrFun (hS21.2 67 (by decide)) _
      have e750 : S14.2 67 2 = S.2 67 2 := congrFun (hS14.2 67 (by decide)) _
      have e751 : S21.2 91 (a1) = S14.2 91 (a1) := congrFun (hS21.2 91 (by decide)) _
      have e752 : S14.2 91 (a1) = S.2 91 (a1) := congrFun (hS14.2 91 (by decide)) _
      have e753 : S21.1 54 43 = S14.1 54 43 := hS21.1 43 (by decide)
      have e754 : S14.1 54 43 = S.1 54 43 := hS14.1 43 (by decide)
      have e755 : S21.2 88 ((a1) + 1) = S14.2 88 ((a1) + 1) := congrFun (hS21.2 88 (by decide)) _
      have e756 : S14.2 88 ((a1) + 1) = S.2 88 ((a1) + 1) := congrFun (hS14.2 88 (by decide)) _
      refine tX11_isListed (by omega) (by omega) (by omega) (PR.mv p4 (((Ch.tr hS14 hS21)).1 43 (by decide)) (((Ch.tr hS14 hS21)).1 51 (by decide)) (((Ch.tr hS14 hS21)).2 86 (by decide)) (((Ch.tr hS14 hS21)).2 87 (by decide)) (((Ch.tr hS14 hS21)).2 88 (by decide)) (((Ch.tr hS14 hS21)).2 90 (by decide)) (((Ch.tr hS14 hS21)).2 91 (by decide))) (PA.mv2 p5 (((Ch.tr hS14 hS21)).1 51 (by decide)) (((Ch.tr hS14 hS21)).1 56 (by decide)) (((Ch.tr hS14 hS21)).2 92 (by decide)) (((Ch.tr hS14 hS21)).2 93 (by decide)) (((Ch.tr hS14 hS21)).2 94 (by decide)) (((Ch.tr hS14 hS21)).2 95 (by decide))) (p6.mv (((Ch.tr hS14 hS21)).2 59 (by decide)) (((Ch.tr hS14 hS21)).2 67 (by decide)) (((Ch.tr hS14 hS21)).2 68 (by decide)) (((Ch.tr hS14 hS21)).2 69 (by decide))) (p7.mv (((Ch.tr hS14 hS21)).2 59 (by decide)) (((Ch.tr hS14 hS21)).2 67 (by decide)) (((Ch.tr hS14 hS21)).2 68 (by decide)) (((Ch.tr hS14 hS21)).2 69 (by decide)) (((Ch.tr hS14 hS21)).2 70 (by decide))) (by omega) (by omega) (by omega) (by omega) (by omega) (by rw [etd, e99z, show S21.2 100 (S.2 88 a1) = S.2 100 (S.2 88 a1) from congrFun (((Ch.tr hS14 hS21)).2 100 (by decide)) _, show S21.2 68 = S.2 68 from (((Ch.tr hS14 hS21)).2 68 (by decide)), show S21.2 59 = S.2 59 from (((Ch.tr hS14 hS21)).2 59 (by decide)), show S.2 100 (S.2 88 a1) - (60 + S.2 99 (S.2 88 a1)) * 4 = S.2 100 (S.2 88 a1) - 4 * (60 + S.2 99 (S.2 88 a1)) by omega]; exact hE1.2.2.2.2) (fun r71 S71 hS71 n71_0 n71_1 n71_2 n71_3 n71_4 n71_5 n71_6 n71_7 n71_8 n71_9 n71_10 n71_11 => ?_)
      refine ⟨by omega, ?_⟩
      first | have e757 : S71.2 98 a1 = S21.2 98 a1 := by have q := n71_5 a1; omega | have e757 := n71_5 a1
      have e758 : S21.2 98 a1 = S14.2 98 a1 := congrFun (hS21.2 98 (by decide)) _
      have e759 : S14.2 98 a1 = ((-2)) := by have q := hS14v a1; omega
      first | have e760 : S71.2 98 a1 = S21.2 98 a1 := by have q := n71_5 a1; omega | have e760 := n71_5 a1
      have e761 : S21.2 98 a1 = S14.2 98 a1 := congrFun (hS21.2 98 (by decide)) _
      have e762 : S14.2 98 a1 = ((-2)) := by have q := hS14v a1; omega
      first | have e763 : S71.2 99 a1 = S21.2 99 a1 := by have q := n71_6 a1; omega | have e763 := n71_6 a1
      have e764 : S21.2 99 a1 = S14.2 99 a1 := congrFun (hS21.2 99 (by decide)) _
      have e765 : S14.2 99 a1 = S.2 99 a1 := congrFun (hS14.2 99 (by decide)) _
      first | have e766 : S71.2 100 a1 = S21.2 100 a1 := by have q := n71_7 a1; omega | have e766 := n71_7 a1
      have e767 : S21.2 100 a1 = S14.2 100 a1 := congrFun (hS21.2 100 (by decide)) _
      have e768 : S14.2 100 a1 = S.2 100 a1 := congrFun (hS14.2 100 (by decide)) _
      first | have e769 : S71.2 101 a1 = S21.2 101 a1 := by have q := n71_8 a1; omega | have e769 := n71_8 a1
      have e770 : S21.2 101 a1 = S14.2 101 a1 := congrFun (hS21.2 101 (by decide)) _
      have e771 : S14.2 101 a1 = S.2 101 a1 := congrFun (hS14.2 101 (by decide)) _
      have e772 : S71.2 91 a1 = S21.2 91 a1 := congrFun (hS71.2 91 (by decide)) _
      have e773 : S21.2 91 a1 = S14.2 91 a1 := congrFun (hS21.2 91 (by decide)) _
      have e774 : S14.2 91 a1 = S.2 91 a1 := congrFun (hS14.2 91 (by decide)) _
      have e775 : S71.1 54 43 = S21.1 54 43 := hS71.1 43 (by decide)
      have e776 : S21.1 54 43 = S14.1 54 43 := hS21.1 43 (by decide)
      have e777 : S14.1 54 43 = S.1 54 43 := hS14.1 43 (by decide)
      have e778 : S71.2 88 (a1 + 1) = S21.2 88 (a1 + 1) := congrFun (hS71.2 88 (by decide)) _
      have e779 : S21.2 88 (a1 + 1) = S14.2 88 (a1 + 1) := congrFun (hS21.2 88 (by decide)) _
      have e780 : S14.2 88 (a1 + 1) = S.2 88 (a1 + 1) := congrFun (hS14.2 88 (by decide)) _
      have hcA : S21.2 67 2 = S.2 67 2 := congrFun (((Ch.tr hS14 hS21)).2 67 (by decide)) _
      have hcB := n71_3
      exact hK (r71) S71 (Ch.wk (Ch.tr (Ch.tr hS14 hS21) hS71) (by decide) (by decide)) (by omega) (by
            rcases n71_1 with h | h
            · exact Or.inl (by omega)
            · rcases n71_9 with h2 | h2
              · exact Or.inl (by omega)
              · rcases n71_10 with h3 | h3
                · exact Or.inl (by omega)
                · exact Or.inr ⟨h.1, h.2, (EA_step p9x (⟨Or.inl (by omega), by omega, by omega, by omega⟩) (by
            intro x
            have e781 := n71_5 x
            have e782 : S21.2 98 x = S14.2 98 x := congrFun (hS21.2 98 (by decide)) _
            have e783 := hS14v x
            omega) (by
            intro x
            have e784 := n71_6 x
            have e785 : S21.2 99 x = S14.2 99 x := congrFun (hS21.2 99 (by decide)) _
            have e786 : S14.2 99 x = S.2 99 x := congrFun (hS14.2 99 (by decide)) _
            omega) (by
            intro x
            have e787 := n71_7 x
            have e788 : S21.2 100 x = S14.2 100 x := congrFun (hS21.2 100 (by decide)) _
            have e789 : S14.2 100 x = S.2 100 x := congrFun (hS14.2 100 (by decide)) _
            omega) (by
            intro x
            have e790 := n71_8 x
            have e791 : S21.2 101 x = S14.2 101 x := congrFun (hS21.2 101 (by decide)) _
            have e792 : S14.2 101 x = S.2 101 x := congrFun (hS14.2 101 (by decide)) _
            omega) (((Ch.tr (Ch.tr hS14 hS21) hS71)).1 43 (by decide)) (((Ch.tr (Ch.tr hS14 hS21) hS71)).2 88 (by decide)) (((Ch.tr (Ch.tr hS14 hS21) hS71)).2 91 (by decide)) (((Ch.tr (Ch.tr hS14 hS21) hS71)).2 59 (by decide)) (by omega) (fun i i0 i1 => by
            have q := n71_4 i
            have q1 : S21.2 67 2 = S.2 67 2 := congrFun (((Ch.tr hS14 hS21)).2 67 (by decide)) _
            have q2 : S21.2 68 (60 + i) = S.2 68 (60 + i) := congrFun (((Ch.tr hS14 hS21)).2 68 (by decide)) _
            omega))⟩) ((FR.re (((Ch.tr hS14 hS21)).2 67 (by decide)) (((Ch.tr hS14 hS21)).2 68 (by decide)) (((Ch.tr hS14 hS21)).2 69 (by decide)) (((Ch.tr hS14 hS21)).2 70 (by decide))).tr n71_2) (by
            intro x
            have e793 := n71_5 x
            have e794 : S21.2 98 x = S14.2 98 x := congrFun (hS21.2 98 (by decide)) _
            have e795 := hS14v x
            omega) (by omega) (by omega)
  · refine ⟨by omega, by omega, ?_⟩
    intro S35 hS35e
    have hS35 : Ch [] [100] S21 S35 := Ch_A hS35e
    have hS35v : ∀ x, (x = a1 ∧ S35.2 100 x = (-2)) ∨ (¬ x = a1 ∧ S35.2 100 x = S21.2 100 x) := pA_at hS35e
    have e796 : S35.1 54 43 = S21.1 54 43 := hS35.1 43 (by decide)
    have e797 : S21.1 54 43 = S14.1 54 43 := hS21.1 43 (by decide)
    have e798 : S14.1 54 43 = S.1 54 43 := hS14.1 43 (by decide)
    have e799 : S35.1 54 43 = S21.1 54 43 := hS35.1 43 (by decide)
    have e800 : S21.1 54 43 = S14.1 54 43 := hS21.1 43 (by decide)
    have e801 : S14.1 54 43 = S.1 54 43 := hS14.1 43 (by decide)
    have e802 : S35.1 54 51 = S21.1 54 51 := hS35.1 51 (by decide)
    have e803 : S21.1 54 51 = S14.1 54 51 := hS21.1 51 (by decide)
    have e804 : S14.1 54 51 = S.1 54 51 := hS14.1 51 (by decide)
    have e805 : S35.2 67 2 = S21.2 67 2 := congrFun (hS35.2 67 (by decide)) _
    have e806 : S21.2 67 2 = S14.2 67 2 := congrFun (hS21.2 67 (by decide)) _
    have e807 : S14.2 67 2 = S.2 67 2 := congrFun (hS14.2 67 (by decide)) _
    have e808 : S35.1 54 56 = S21.1 54 56 := hS35.1 56 (by decide)
    have e809 : S21.1 54 56 = S14.1 54 56 := hS21.1 56 (by decide)
    have e810 : S14.1 54 56 = S.1 54 56 := hS14.1 56 (by decide)
    have e811 : S35.2 91 (a1) = S21.2 91 (a1) := congrFun (hS35.2 91 (by decide)) _
    have e812 : S21.2 91 (a1) = S14.2 91 (a1) := congrFun (hS21.2 91 (by decide)) _
    have e813 : S14.2 91 (a1) = S.2 91 (a1) := congrFun (hS14.2 91 (by decide)) _
    have e814 : S35.1 54 43 = S21.1 54 43 := hS35.1 43 (by decide)
    have e815 : S21.1 54 43 = S14.1 54 43 := hS21.1 43 (by decide)
    have e816 : S14.1 54 43 = S.1 54 43 := hS14.1 43 (by decide)
    have e817 : S35.2 88 ((a1) + 1) = S21.2 88 ((a1) + 1) := congrFun (hS35.2 88 (by decide)) _
    have e818 : S21.2 88 ((a1) + 1) = S14.2 88 ((a1) + 1) := congrFun (hS21.2 88 (by decide)) _
    have e819 : S14.2 88 ((a1) + 1) = S.2 88 ((a1) + 1) := congrFun (hS14.2 88 (by decide)) _
    refine tX11_isObjectElement (by omega) (by omega) (by omega) (PR.mv p4 (((Ch.tr (Ch.tr hS14 hS21) hS35)).1 43 (by decide)) (((Ch.tr (Ch.tr hS14 hS21) hS35)).1 51 (by decide)) (((Ch.tr (Ch.tr hS14 hS21) hS35)).2 86 (by decide)) (((Ch.tr (Ch.tr hS14 hS21) hS35)).2 87 (by decide)) (((Ch.tr (Ch.tr hS14 hS21) hS35)).2 88 (by decide)) (((Ch.tr (Ch.tr hS14 hS21) hS35)).2 90 (by decide)) (((Ch.tr (Ch.tr hS14 hS21) hS35)).2 91 (by decide))) (PA.mv2 p5 (((Ch.tr (Ch.tr hS14 hS21) hS35)).1 51 (by decide)) (((Ch.tr (Ch.tr hS14 hS21) hS35)).1 56 (by decide)) (((Ch.tr (Ch.tr hS14 hS21) hS35)).2 92 (by decide)) (((Ch.tr (Ch.tr hS14 hS21) hS35)).2 93 (by decide)) (((Ch.tr (Ch.tr hS14 hS21) hS35)).2 94 (by decide)) (((Ch.tr (Ch.tr hS14 hS21) hS35)).2 95 (by decide))) (p6.mv (((Ch.tr (Ch.tr hS14 hS21) hS35)).2 59 (by decide)) (((Ch.tr (Ch.tr hS14 hS21) hS35)).2 67 (by decide)) (((Ch.tr (Ch.tr hS14 hS21) hS35)).2 68 (by decide)) (((Ch.tr (Ch.tr hS14 hS21) hS35)).2 69 (by decide))) (by omega) (by omega) (by omega) (by omega) (fun r39 S39 hS39 n39_0 n39_1 n39_2 n39_3 n39_4 n39_5 n39_6 => ?_)
    refine ⟨by omega, ?_⟩
    first | have e820 : S39.2 98 a1 = S35.2 98 a1 := by have q := n39_3 a1; omega | have e820 := n39_3 a1
    have e821 : S35.2 98 a1 = S21.2 98 a1 := congrFun (hS35.2 98 (by decide)) _
    have e822 : S21.2 98 a1 = S14.2 98 a1 := congrFun (hS21.2 98 (by decide)) _
    have e823 : S14.2 98 a1 = ((-2)) := by have q := hS14v a1; omega
    first | have e824 : S39.2 98 a1 = S35.2 98 a1 := by have q := n39_3 a1; omega | have e824 := n39_3 a1
    have e825 : S35.2 98 a1 = S21.2 98 a1 := congrFun (hS35.2 98 (by decide)) _
    have e826 : S21.2 98 a1 = S14.2 98 a1 := congrFun (hS21.2 98 (by decide)) _
    have e827 : S14.2 98 a1 = ((-2)) := by have q := hS14v a1; omega
    first | have e828 : S39.2 99 a1 = S35.2 99 a1 := by have q := n39_4 a1; omega | have e828 := n39_4 a1
    have e829 : S35.2 99 a1 = S21.2 99 a1 := congrFun (hS35.2 99 (by decide)) _
    have e830 : S21.2 99 a1 = S14.2 99 a1 := congrFun (hS21.2 99 (by decide)) _
    have e831 : S14.2 99 a1 = S.2 99 a1 := congrFun (hS14.2 99 (by decide)) _
    have e832 : S39.2 100 a1 = S35.2 100 a1 := congrFun (hS39.2 100 (by decide)) _
    have e833 : S35.2 100 a1 = ((-2)) := by have q := hS35v a1; omega
    have e834 : S21.2 100 a1 = S14.2 100 a1 := congrFun (hS21.2 100 (by decide)) _
    have e835 : S14.2 100 a1 = S.2 100 a1 := congrFun (hS14.2 100 (by decide)) _
    have e836 : S39.2 101 a1 = S35.2 101 a1 := congrFun (hS39.2 101 (by decide)) _
    have e837 : S35.2 101 a1 = S21.2 101 a1 := congrFun (hS35.2 101 (by decide)) _
    have e838 : S21.2 101 a1 = S14.2 101 a1 := congrFun (hS21.2 101 (by decide)) _
    have e839 : S14.2 101 a1 = S.2 101 a1 := congrFun (hS14.2 101 (by decide)) _
    have e840 : S39.2 91 a1 = S35.2 91 a1 := congrFun (hS39.2 91 (by decide)) _
    have e841 : S35.2 91 a1 = S21.2 91 a1 := congrFun (hS35.2 91 (by decide)) _
    have e842 : S21.2 91 a1 = S14.2 91 a1 := congrFun (hS21.2 91 (by decide)) _
    have e843 : S14.2 91 a1 = S.2 91 a1 := congrFun (hS14.2 91 (by decide)) _
    have e844 : S39.1 54 43 = S35.1 54 43 := hS39.1 43 (by decide)
    have e845 : S35.1 54 43 = S21.1 54 43 := hS35.1 43 (by decide)
    have e846 : S21.1 54 43 = S14.1 54 43 := hS21.1 43 (by decide)
    have e847 : S14.1 54 43 = S.1 54 43 := hS14.1 43 (by decide)
    have e848 : S39.2 88 (a1 + 1) = S35.2 88 (a1 + 1) := congrFun (hS39.2 88 (by decide)) _
    have e849 : S35.2 88 (a1 + 1) = S21.2 88 (a1 + 1) := congrFun (hS35.2 88 (by decide)) _
    have e850 : S21.2 88 (a1 + 1) = S14.2 88 (a1 + 1) := congrFun (hS21.2 88 (by decide)) _
    have e851 : S14.2 88 (a1 + 1) = S.2 88 (a1 + 1) := congrFun (hS14.2 88 (by decide)) _
    have hcA : S35.2 67 2 = S.2 67 2 := congrFun (((Ch.tr (Ch.tr hS14 hS21) hS35)).2 67 (by decide)) _
    have hcB := n39_1.1
    have hOLp : OLg S35 2 60 := p7.mv (((Ch.tr (Ch.tr hS14 hS21) hS35)).2 59 (by decide)) (((Ch.tr (Ch.tr hS14 hS21) hS35)).2 67 (by decide)) (((Ch.tr (Ch.tr hS14 hS21) hS35)).2 68 (by decide)) (((Ch.tr (Ch.tr hS14 hS21) hS35)).2 69 (by decide)) (((Ch.tr (Ch.tr hS14 hS21) hS35)).2 70 (by decide))
    have hOKp : OKg S35 2 60 := p6.mv (((Ch.tr (Ch.tr hS14 hS21) hS35)).2 59 (by decide)) (((Ch.tr (Ch.tr hS14 hS21) hS35)).2 67 (by decide)) (((Ch.tr (Ch.tr hS14 hS21) hS35)).2 68 (by decide)) (((Ch.tr (Ch.tr hS14 hS21) hS35)).2 69 (by decide))
    exact hK (r39) S39 (Ch.wk (Ch.tr (Ch.tr (Ch.tr hS14 hS21) hS35) hS39) (by decide) (by decide)) (by omega) (by
          rcases n39_5 with h | h
          · exact Or.inl h
          · exact Or.inr ⟨n39_2, OLg_OE hOLp hOKp ((hS39).2 59 (by decide)) n39_1, (EA_step p9x (⟨Or.inl (by omega), by omega, by omega, by omega⟩) (by
          intro x
          have e852 := n39_3 x
          have e853 : S35.2 98 x = S21.2 98 x := congrFun (hS35.2 98 (by decide)) _
          have e854 : S21.2 98 x = S14.2 98 x := congrFun (hS21.2 98 (by decide)) _
          have e855 := hS14v x
          omega) (by
          intro x
          have e856 := n39_4 x
          have e857 : S35.2 99 x = S21.2 99 x := congrFun (hS35.2 99 (by decide)) _
          have e858 : S21.2 99 x = S14.2 99 x := congrFun (hS21.2 99 (by decide)) _
          have e859 : S14.2 99 x = S.2 99 x := congrFun (hS14.2 99 (by decide)) _
          omega) (by
          intro x
          have e860 : S39.2 100 x = S35.2 100 x := congrFun (hS39.2 100 (by decide)) _
          have e861 := hS35v x
          have e862 : S21.2 100 x = S14.2 100 x := congrFun (hS21.2 100 (by decide)) _
          have e863 : S14.2 100 x = S.2 100 x := congrFun (hS14.2 100 (by decide)) _
          omega) (by
          intro x
          have e864 : S39.2 101 x = S35.2 101 x := congrFun (hS39.2 101 (by decide)) _
          have e865 : S35.2 101 x = S21.2 101 x := congrFun (hS35.2 101 (by decide)) _
          have e866 : S21.2 101 x = S14.2 101 x := congrFun (hS21.2 101 (by decide)) _
          have e867 : S14.2 101 x = S.2 101 x := congrFun (hS14.2 101 (by decide)) _
          omega) (((Ch.tr (Ch.tr (Ch.tr hS14 hS21) hS35) hS39)).1 43 (by decide)) (((Ch.tr (Ch.tr (Ch.tr hS14 hS21) hS35) hS39)).2 88 (by decide)) (((Ch.tr (Ch.tr (Ch.tr hS14 hS21) hS35) hS39)).2 91 (by decide)) (((Ch.tr (Ch.tr (Ch.tr hS14 hS21) hS35) hS39)).2 59 (by decide)) (by omega) (fun i i0 i1 => by
          have q := n39_1.2.2.1 (60 + i)
          have q1 : S35.2 67 2 = S.2 67 2 := congrFun (((Ch.tr (Ch.tr hS14 hS21) hS35)).2 67 (by decide)) _
          have q2 : S35.2 68 (60 + i) = S.2 68 (60 + i) := congrFun (((Ch.tr (Ch.tr hS14 hS21) hS35)).2 68 (by decide)) _
          omega))⟩) ((FR.re (((Ch.tr (Ch.tr hS14 hS21) hS35)).2 67 (by decide)) (((Ch.tr (Ch.tr hS14 hS21) hS35)).2 68 (by decide)) (((Ch.tr (Ch.tr hS14 hS21) hS35)).2 69 (by decide)) (((Ch.tr (Ch.tr hS14 hS21) hS35)).2 70 (by decide))).tr (n39_1.fr (by have q : S35.2 67 2 = S.2 67 2 := congrFun (((Ch.tr (Ch.tr hS14 hS21) hS35)).2 67 (by decide)) _; omega))) (by
          intro x
          have e868 := n39_3 x
          have e869 : S35.2 98 x = S21.2 98 x := congrFun (hS35.2 98 (by decide)) _
          have e870 : S21.2 98 x = S14.2 98 x := congrFun (hS21.2 98 (by decide)) _
          have e871 := hS14v x
          omega) (by omega) (by omega)

