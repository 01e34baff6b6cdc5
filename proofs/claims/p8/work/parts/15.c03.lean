set_option maxRecDepth 100000 in
set_option maxHeartbeats 4000000 in
theorem tX11_hasMeaning {a1 : Int} {S : St} {K : Int → St → Prop} (p1 : iv 0 199 a1) (p2 : a1 < (S.1 54 43)) (p3 : (S.1 54 43) ≤ 200) (p4 : PR S) (p5 : PA S) (p6 : OKg S 2 60) (p7 : OLg S 2 60) (p8 : (S.1 54 51) ≤ 600) (p9 : iv 0 30 ((S.2 67) 2)) (p10 : (S.1 54 56) ≤ 3000) (p11 : PO S) (p12 : EA S a1) (hK : ∀ (r : Int) (S' : St), Ch [67] [67, 68, 69, 70, 98, 99, 100, 101, 102, 103, 104] S S' → (iv 0 1 r) → (r = 0 ∨ (OKg S' 2 60 ∧ OLg S' 2 60 ∧ EA S' (a1 + 1))) → (FR S S') → (∀ x, x = a1 ∨ (S'.2 98) x = (S.2 98) x) → (r = 0 ∨ ¬ (S.2 88) a1 = -2 ∨ (S'.2 98) a1 = 4 ∨ (S'.2 98) a1 = 5) → K r S') : wX11_hasMeaning a1 S K := by
  unfold wX11_hasMeaning
  intro g1
  have hpr := p4.at (x := a1) (by omega) (by omega)
  have p9x := p12
  refine ⟨by omega, by omega, ?_⟩
  intro q1
  intro x6 hx6
  subst hx6
  refine ⟨by omega, by omega, ?_⟩
  intro S14 hS14e
  have hS14 : Ch [] [98] S S14 := Ch_A hS14e
  have hS14v : ∀ x, (x = a1 ∧ S14.2 98 x = (-2)) ∨ (¬ x = a1 ∧ S14.2 98 x = S.2 98 x) := pA_at hS14e
  refine ⟨by omega, by omega, ?_⟩
  intro S21 hS21e
  have hS21 : Ch [] [102] S14 S21 := Ch_A hS21e
  have hS21v : ∀ x, (x = a1 ∧ S21.2 102 x = 0) ∨ (¬ x = a1 ∧ S21.2 102 x = S14.2 102 x) := pA_at hS21e
  refine ⟨fun h25 => ?_, fun h25 => ?_⟩
  · have hEp := ((p12 (S.2 88 a1)).resolve_left (by omega)).resolve_left (by omega)
    have hpo := (((p11 a1).resolve_left (by omega)).resolve_left (by omega)).resolve_left (by omega)
    unfold EI at hEp
    obtain ⟨hE1, hE2, hE3, hE4⟩ := hEp
    have hpq := p4.at (x := S.2 88 a1) (by omega) (by omega)
    refine ⟨by omega, by omega, ?_⟩
    intro q2
    have e3 : S21.2 99 ((S.2 88 (a1))) = S14.2 99 ((S.2 88 (a1))) := congrFun (hS21.2 99 (by decide)) _
    have e4 : S14.2 99 ((S.2 88 (a1))) = S.2 99 ((S.2 88 (a1))) := congrFun (hS14.2 99 (by decide)) _
    intro x49 hx49
    subst hx49
    refine ⟨by omega, by omega, ?_⟩
    intro q5
    have e6 : S21.2 98 ((S.2 88 (a1))) = S14.2 98 ((S.2 88 (a1))) := congrFun (hS21.2 98 (by decide)) _
    first | have e7 : S14.2 98 ((S.2 88 (a1))) = S.2 98 ((S.2 88 (a1))) := by have q := hS14v ((S.2 88 (a1))); omega | have e7 : S14.2 98 ((S.2 88 (a1))) = ((-2)) := by have q := hS14v ((S.2 88 (a1))); omega | have e7 := hS14v ((S.2 88 (a1)))
    refine ⟨fun h57 => ?_, fun h57 => ?_⟩
    · refine ⟨by omega, by omega, ?_⟩
      intro q8
      have e9 : S21.2 68 ((60 + (S21.2 99 ((S.2 88 (a1)))))) = S14.2 68 ((60 + (S21.2 99 ((S.2 88 (a1)))))) := congrFun (hS21.2 68 (by decide)) _
      have e10 : S14.2 68 ((60 + (S21.2 99 ((S.2 88 (a1)))))) = S.2 68 ((60 + (S21.2 99 ((S.2 88 (a1)))))) := congrFun (hS14.2 68 (by decide)) _
      intro x84 hx84
      subst hx84
      refine ⟨by omega, by omega, ?_⟩
      intro q11
      have e12 : S21.2 86 (a1) = S14.2 86 (a1) := congrFun (hS21.2 86 (by decide)) _
      have e13 : S14.2 86 (a1) = S.2 86 (a1) := congrFun (hS14.2 86 (by decide)) _
      refine ⟨by omega, by omega, ?_⟩
      intro q14
      have e15 : S21.2 87 (a1) = S14.2 87 (a1) := congrFun (hS21.2 87 (by decide)) _
      have e16 : S14.2 87 (a1) = S.2 87 (a1) := congrFun (hS14.2 87 (by decide)) _
      have e17 : S21.2 59 (4 * ((S21.2 68 ((60 + (S21.2 99 ((S.2 88 (a1)))))))) + r) = S14.2 59 (4 * ((S21.2 68 ((60 + (S21.2 99 ((S.2 88 (a1)))))))) + r) := congrFun (hS21.2 59 (by decide)) _
      have e18 : S14.2 59 (4 * ((S21.2 68 ((60 + (S21.2 99 ((S.2 88 (a1)))))))) + r) = S.2 59 (4 * ((S21.2 68 ((60 + (S21.2 99 ((S.2 88 (a1)))))))) + r) := congrFun (hS14.2 59 (by decide)) _
      refine tX11_fieldNamed (by omega) (by omega) (by omega) (by omega) (by omega) (fun r102 n102_0 n102_1 => ?_)
      refine ⟨by omega, ?_⟩
      refine ⟨fun h111 => ?_, fun h111 => ?_⟩
      · refine ⟨by omega, by omega, ?_⟩
        intro q19
        have e20 : S21.2 103 (((4 * (S21.2 99 ((S.2 88 (a1))))) + r102)) = S14.2 103 (((4 * (S21.2 99 ((S.2 88 (a1))))) + r102)) := congrFun (hS21.2 103 (by decide)) _
        have e21 : S14.2 103 (((4 * (S21.2 99 ((S.2 88 (a1))))) + r102)) = S.2 103 (((4 * (S21.2 99 ((S.2 88 (a1))))) + r102)) := congrFun (hS14.2 103 (by decide)) _
        refine ⟨fun h158 => ?_, fun h158 => ?_⟩
        · refine ⟨by omega, by omega, ?_⟩
          intro S174 hS174e
          have hS174 : Ch [] [103] S21 S174 := Ch_A hS174e
          have hS174v : ∀ x, (x = ((4 * (S21.2 99 ((S.2 88 (a1))))) + r102) ∧ S174.2 103 x = 1) ∨ (¬ x = ((4 * (S21.2 99 ((S.2 88 (a1))))) + r102) ∧ S174.2 103 x = S21.2 103 x) := pA_at hS174e
          refine ⟨by omega, by omega, ?_⟩
          intro q22
          have e23 : S174.2 59 (((4 * (S21.2 68 ((60 + (S21.2 99 ((S.2 88 (a1)))))))) + r102)) = S21.2 59 (((4 * (S21.2 68 ((60 + (S21.2 99 ((S.2 88 (a1)))))))) + r102)) := congrFun (hS174.2 59 (by decide)) _
          have e24 : S21.2 59 (((4 * (S21.2 68 ((60 + (S21.2 99 ((S.2 88 (a1)))))))) + r102)) = S14.2 59 (((4 * (S21.2 68 ((60 + (S21.2 99 ((S.2 88 (a1)))))))) + r102)) := congrFun (hS21.2 59 (by decide)) _
          have e25 : S14.2 59 (((4 * (S21.2 68 ((60 + (S21.2 99 ((S.2 88 (a1)))))))) + r102)) = S.2 59 (((4 * (S21.2 68 ((60 + (S21.2 99 ((S.2 88 (a1)))))))) + r102)) := congrFun (hS14.2 59 (by decide)) _
          intro x187 hx187
          subst hx187
          refine ⟨by omega, by omega, ?_⟩
          refine ⟨by omega, ?_⟩
          intro S203 hS203e
          have hS203 : Ch [] [100] S174 S203 := Ch_A hS203e
          have hS203v : ∀ x, (x = a1 ∧ S203.2 100 x = ((4 * (60 + (S21.2 99 ((S.2 88 (a1)))))) + r102)) ∨ (¬ x = a1 ∧ S203.2 100 x = S174.2 100 x) := pA_at hS203e
          refine ⟨by omega, by omega, ?_⟩
          intro S211 hS211e
          have hS211 : Ch [] [101] S203 S211 := Ch_A hS211e
          have hS211v : ∀ x, (x = a1 ∧ S211.2 101 x = (-2)) ∨ (¬ x = a1 ∧ S211.2 101 x = S203.2 101 x) := pA_at hS211e
          refine ⟨fun h215 => ?_, fun h215 => ?_⟩
          · refine ⟨by omega, by omega, ?_⟩
            refine ⟨by omega, ?_⟩
            intro S268 hS268e
            have hS268 : Ch [] [98] S211 S268 := Ch_A hS268e
            have hS268v : ∀ x, (x = a1 ∧ S268.2 98 x = (S174.2 59 (((4 * (S21.2 68 ((60 + (S21.2 99 ((S.2 88 (a1)))))))) + r102)))) ∨ (¬ x = a1 ∧ S268.2 98 x = S211.2 98 x) := pA_at hS268e
            refine ⟨by omega, by omega, ?_⟩
            intro S275 hS275e
            have hS275 : Ch [] [99] S268 S275 := Ch_A hS275e
            have hS275v : ∀ x, (x = a1 ∧ S275.2 99 x = (S21.2 99 ((S.2 88 (a1))))) ∨ (¬ x = a1 ∧ S275.2 99 x = S268.2 99 x) := pA_at hS275e
            refine ⟨fun h279 => ?_, fun h279 => ?_⟩
            · refine ⟨by omega, by omega, ?_⟩
              intro q26
              have e27 : S275.2 91 (a1) = S268.2 91 (a1) := congrFun (hS275.2 91 (by decide)) _
              have e28 : S268.2 91 (a1) = S211.2 91 (a1) := congrFun (hS268.2 91 (by decide)) _
              have e29 : S211.2 91 (a1) = S203.2 91 (a1) := congrFun (hS211.2 91 (by decide)) _
              have e30 : S203.2 91 (a1) = S174.2 91 (a1) := congrFun (hS203.2 91 (by decide)) _
              have e31 : S174.2 91 (a1) = S21.2 91 (a1) := congrFun (hS174.2 91 (by decide)) _
              have e32 : S21.2 91 (a1) = S14.2 91 (a1) := congrFun (hS21.2 91 (by decide)) _
              have e33 : S14.2 91 (a1) = S.2 91 (a1) := congrFun (hS14.2 91 (by decide)) _
              refine ⟨fun h311 => ?_, fun h311 => ?_⟩
              · have e34 : S275.2 98 a1 = S268.2 98 a1 := congrFun (hS275.2 98 (by decide)) _
                have e35 : S268.2 98 a1 = ((S174.2 59 (((4 * (S21.2 68 ((60 + (S21.2 99 ((S.2 88 (a1)))))))) + r102)))) := by have q := hS268v a1; omega
                have e36 : S211.2 98 a1 = S203.2 98 a1 := congrFun (hS211.2 98 (by decide)) _
                have e37 : S203.2 98 a1 = S174.2 98 a1 := congrFun (hS203.2 98 (by decide)) _
                have e38 : S174.2 98 a1 = S21.2 98 a1 := congrFun (hS174.2 98 (by decide)) _
                have e39 : S21.2 98 a1 = S14.2 98 a1 := congrFun (hS21.2 98 (by decide)) _
                have e40 : S14.2 98 a1 = ((-2)) := by have q := hS14v a1; omega
                exact hK (0) S275 (Ch.wk (Ch.tr (Ch.tr (Ch.tr (Ch.tr (Ch.tr (Ch.tr hS14 hS21) hS174) hS203) hS211) hS268) hS275) (by decide) (by decide)) (by omega) (Or.inl rfl) (FR.re (((Ch.tr (Ch.tr (Ch.tr (Ch.tr (Ch.tr (Ch.tr hS14 hS21) hS174) hS203) hS211) hS268) hS275)).2 67 (by decide)) (((Ch.tr (Ch.tr (Ch.tr (Ch.tr (Ch.tr (Ch.tr hS14 hS21) hS174) hS203) hS211) hS268) hS275)).2 68 (by decide)) (((Ch.tr (Ch.tr (Ch.tr (Ch.tr (Ch.tr (Ch.tr hS14 hS21) hS174) hS203) hS211) hS268) hS275)).2 69 (by decide)) (((Ch.tr (Ch.tr (Ch.tr (Ch.tr (Ch.tr (Ch.tr hS14 hS21) hS174) hS203) hS211) hS268) hS275)).2 70 (by decide))) (by
                      intro x
                      have e41 : S275.2 98 x = S268.2 98 x := congrFun (hS275.2 98 (by decide)) _
                      have e42 := hS268v x
                      have e43 : S211.2 98 x = S203.2 98 x := congrFun (hS211.2 98 (by decide)) _
                      have e44 : S203.2 98 x = S174.2 98 x := congrFun (hS203.2 98 (by decide)) _
                      have e45 : S174.2 98 x = S21.2 98 x := congrFun (hS174.2 98 (by decide)) _
                      have e46 : S21.2 98 x = S14.2 98 x := congrFun (hS21.2 98 (by decide)) _
                      have e47 := hS14v x
                      omega) (by omega)
              · have e48 : S275.1 54 43 = S268.1 54 43 := hS275.1 43 (by decide)
                have e49 : S268.1 54 43 = S211.1 54 43 := hS268.1 43 (by decide)
                have e50 : S211.1 54 43 = S203.1 54 43 := hS211.1 43 (by decide)
                have e51 : S203.1 54 43 = S174.1 54 43 := hS203.1 43 (by decide)
                have e52 : S174.1 54 43 = S21.1 54 43 := hS174.1 43 (by decide)
                have e53 : S21.1 54 43 = S14.1 54 43 := hS21.1 43 (by decide)
                have e54 : S14.1 54 43 = S.1 54 43 := hS14.1 43 (by decide)
                have e55 : S275.1 54 43 = S268.1 54 43 := hS275.1 43 (by decide)
                have e56 : S268.1 54 43 = S211.1 54 43 := hS268.1 43 (by decide)
                have e57 : S211.1 54 43 = S203.1 54 43 := hS211.1 43 (by decide)
                have e58 : S203.1 54 43 = S174.1 54 43 := hS203.1 43 (by decide)
                have e59 : S174.1 54 43 = S21.1 54 43 := hS174.1 43 (by decide)
                have e60 : S21.1 54 43 = S14.1 54 43 := hS21.1 43 (by decide)
                have e61 : S14.1 54 43 = S.1 54 43 := hS14.1 43 (by decide)
                have e62 : S275.1 54 43 = S268.1 54 43 := hS275.1 43 (by decide)
                have e63 : S268.1 54 43 = S211.1 54 43 := hS268.1 43 (by decide)
                have e64 : S211.1 54 43 = S203.1 54 43 := hS211.1 43 (by decide)
                have e65 : S203.1 54 43 = S174.1 54 43 := hS203.1 43 (by decide)
                have e66 : S174.1 54 43 = S21.1 54 43 := hS174.1 43 (by decide)
                have e67 : S21.1 54 43 = S14.1 54 43 := hS21.1 43 (by decide)
                have e68 : S14.1 54 43 = S.1 54 43 := hS14.1 43 (by decide)
                have e69 : S275.2 88 ((a1) + 1) = S268.2 88 ((a1) + 1) := congrFun (hS275.2 88 (by decide)) _
                have e70 : S268.2 88 ((a1) + 1) = S211.2 88 ((a1) + 1) := congrFun (hS268.2 88 (by decide)) _
                have e71 : S211.2 88 ((a1) + 1) = S203.2 88 ((a1) + 1) := congrFun (hS211.2 88 (by decide)) _
                have e72 : S203.2 88 ((a1) + 1) = S174.2 88 ((a1) + 1) := congrFun (hS203.2 88 (by decide)) _
                have e73 : S174.2 88 ((a1) + 1) = S21.2 88 ((a1) + 1) := congrFun (hS174.2 88 (by decide)) _
                have e74 : S21.2 88 ((a1) + 1) = S14.2 88 ((a1) + 1) := congrFun (hS21.2 88 (by decide)) _
                have e75 : S14.2 88 ((a1) + 1) = S.2 88 ((a1) + 1) := congrFun (hS14.2 88 (by decide)) _
                refine tX11_hasChild (by omega) (by omega) (by omega) (fun r316 n316_0 => ?_)
                refine ⟨by omega, ?_⟩
                refine ⟨fun h319 => ?_, fun h319 => ?_⟩
                · refine tX11_pieceOfText  (fun r326 S326 hS326 n326_0 => ?_)
                  have e76 : S326.2 69 (4 * (60 + ((S21.2 99 ((S.2 88 (a1)))))) + (r102)) = S275.2 69 (4 * (60 + ((S21.2 99 ((S.2 88 (a1)))))) + (r102)) := congrFun (hS326.2 69 (by decide)) _
                  have e77 : S275.2 69 (4 * (60 + ((S21.2 99 ((S.2 88 (a1)))))) + (r102)) = S268.2 69 (4 * (60 + ((S21.2 99 ((S.2 88 (a1)))))) + (r102)) := congrFun (hS275.2 69 (by decide)) _
                  have e78 : S268.2 69 (4 * (60 + ((S21.2 99 ((S.2 88 (a1)))))) + (r102)) = S211.2 69 (4 * (60 + ((S21.2 99 ((S.2 88 (a1)))))) + (r102)) := congrFun (hS268.2 69 (by decide)) _
                  have e79 : S211.2 69 (4 * (60 + ((S21.2 99 ((S.2 88 (a1)))))) + (r102)) = S203.2 69 (4 * (60 + ((S21.2 99 ((S.2 88 (a1)))))) + (r102)) := congrFun (hS211.2 69 (by decide)) _
                  have e80 : S203.2 69 (4 * (60 + ((S21.2 99 ((S.2 88 (a1)))))) + (r102)) = S174.2 69 (4 * (60 + ((S21.2 99 ((S.2 88 (a1)))))) + (r102)) := congrFun (hS203.2 69 (by decide)) _
                  have e81 : S174.2 69 (4 * (60 + ((S21.2 99 ((S.2 88 (a1)))))) + (r102)) = S21.2 69 (4 * (60 + ((S21.2 99 ((S.2 88 (a1)))))) + (r102)) := congrFun (hS174.2 69 (by decide)) _
                  have e82 : S21.2 69 (4 * (60 + ((S21.2 99 ((S.2 88 (a1)))))) + (r102)) = S14.2 69 (4 * (60 + ((S21.2 99 ((S.2 88 (a1)))))) + (r102)) := congrFun (hS21.2 69 (by decide)) _
                  have e83 : S14.2 69 (4 * (60 + ((S21.2 99 ((S.2 88 (a1)))))) + (r102)) = S.2 69 (4 * (60 + ((S21.2 99 ((S.2 88 (a1)))))) + (r102)) := congrFun (hS14.2 69 (by decide)) _
                  have e84 : S326.2 59 (4 * (S326.2 68) (60 + ((S21.2 99 ((S.2 88 (a1)))))) + (r102)) = S275.2 59 (4 * (S326.2 68) (60 + ((S21.2 99 ((S.2 88 (a1)))))) + (r102)) := congrFun (hS326.2 59 (by decide)) _
                  have e85 : S275.2 59 (4 * (S326.2 68) (60 + ((S21.2 99 ((S.2 88 (a1)))))) + (r102)) = S268.2 59 (4 * (S326.2 68) (60 + ((S21.2 99 ((S.2 88 (a1)))))) + (r102)) := congrFun (hS275.2 59 (by decide)) _
                  have e86 : S268.2 59 (4 * (S326.2 68) (60 + ((S21.2 99 ((S.2 88 (a1)))))) + (r102)) = S211.2 59 (4 * (S326.2 68) (60 + ((S21.2 99 ((S.2 88 (a1)))))) + (r102)) := congrFun (hS268.2 59 (by decide)) _
                  have e87 : S211.2 59 (4 * (S326.2 68) (60 + ((S21.2 99 ((S.2 88 (a1)))))) + (r102)) = S203.2 59 (4 * (S326.2 68) (60 + ((S21.2 99 ((S.2 88 (a1)))))) + (r102)) := congrFun (hS211.2 59 (by decide)) _
                  have e88 : S203.2 59 (4 * (S326.2 68) (60 + ((S21.2 99 ((S.2 88 (a1)))))) + (r102)) = S174.2 59 (4 * (S326.2 68) (60 + ((S21.2 99 ((S.2 88 (a1)))))) + (r102)) := congrFun (hS203.2 59 (by decide)) _
                  have e89 : S174.2 59 (4 * (S326.2 68) (60 + ((S21.2 99 ((S.2 88 (a1)))))) + (r102)) = S21.2 59 (4 * (S326.2 68) (60 + ((S21.2 99 ((S.2 88 (a1)))))) + (r102)) := congrFun (hS174.2 59 (by decide)) _
                  have e90 : S21.2 59 (4 * (S326.2 68) (60 + ((S21.2 99 ((S.2 88 (a1)))))) + (r102)) = S14.2 59 (4 * (S326.2 68) (60 + ((S21.2 99 ((S.2 88 (a1)))))) + (r102)) := congrFun (hS21.2 59 (by decide)) _
                  have e91 : S14.2 59 (4 * (S326.2 68) (60 + ((S21.2 99 ((S.2 88 (a1)))))) + (r102)) = S.2 59 (4 * (S326.2 68) (60 + ((S21.2 99 ((S.2 88 (a1)))))) + (r102)) := congrFun (hS14.2 59 (by decide)) _
                  have e92 : S326.2 68 (60 + ((S21.2 99 ((S.2 88 (a1)))))) = S275.2 68 (60 + ((S21.2 99 ((S.2 88 (a1)))))) := congrFun (hS326.2 68 (by decide)) _
                  have e93 : S275.2 68 (60 + ((S21.2 99 ((S.2 88 (a1)))))) = S268.2 68 (60 + ((S21.2 99 ((S.2 88 (a1)))))) := congrFun (hS275.2 68 (by decide)) _
                  have e94 : S268.2 68 (60 + ((S21.2 99 ((S.2 88 (a1)))))) = S211.2 68 (60 + ((S21.2 99 ((S.2 88 (a1)))))) := congrFun (hS268.2 68 (by decide)) _
                  have e95 : S211.2 68 (60 + ((S21.2 99 ((S.2 88 (a1)))))) = S203.2 68 (60 + ((S21.2 99 ((S.2 88 (a1)))))) := congrFun (hS211.2 68 (by decide)) _
                  have e96 : S203.2 68 (60 + ((S21.2 99 ((S.2 88 (a1)))))) = S174.2 68 (60 + ((S21.2 99 ((S.2 88 (a1)))))) := congrFun (hS203.2 68 (by decide)) _
                  have e97 : S174.2 68 (60 + ((S21.2 99 ((S.2 88 (a1)))))) = S21.2 68 (60 + ((S21.2 99 ((S.2 88 (a1)))))) := congrFun (hS174.2 68 (by decide)) _
                  have e98 : S21.2 68 (60 + ((S21.2 99 ((S.2 88 (a1)))))) = S14.2 68 (60 + ((S21.2 99 ((S.2 88 (a1)))))) := congrFun (hS21.2 68 (by decide)) _
                  have e99 : S14.2 68 (60 + ((S21.2 99 ((S.2 88 (a1)))))) = S.2 68 (60 + ((S21.2 99 ((S.2 88 (a1)))))) := congrFun (hS14.2 68 (by decide)) _
                  refine tX11_becomes (by omega) (by omega) (fun r333 S333 hS333 n333_0 n333_1 n333_2 n333_3 => ?_)
                  refine ⟨by omega, ?_⟩
                  have e100 : S333.2 98 a1 = S326.2 98 a1 := congrFun (hS333.2 98 (by decide)) _
                  have e101 : S326.2 98 a1 = S275.2 98 a1 := congrFun (hS326.2 98 (by decide)) _
                  have e102 : S275.2 98 a1 = S268.2 98 a1 := congrFun (hS275.2 98 (by decide)) _
                  have e103 : S268.2 98 a1 = ((S174.2 59 (((4 * (S21.2 68 ((60 + (S21.2 99 ((S.2 88 (a1)))))))) + r102)))) := by have q := hS268v a1; omega
                  have e104 : S211.2 98 a1 = S203.2 98 a1 := congrFun (hS211.2 98 (by decide)) _
                  have e105 : S203.2 98 a1 = S174.2 98 a1 := congrFun (hS203.2 98 (by decide)) _
                  have e106 : S174.2 98 a1 = S21.2 98 a1 := congrFun (hS174.2 98 (by decide)) _
                  have e107 : S21.2 98 a1 = S14.2 98 a1 := congrFun (hS21.2 98 (by decide)) _
                  have e108 : S14.2 98 a1 = ((-2)) := by have q := hS14v a1; omega
                  have e109 : S333.2 98 a1 = S326.2 98 a1 := congrFun (hS333.2 98 (by decide)) _
                  have e110 : S326.2 98 a1 = S275.2 98 a1 := congrFun (hS326.2 98 (by decide)) _
                  have e111 : S275.2 98 a1 = S268.2 98 a1 := congrFun (hS275.2 98 (by decide)) _
                  have e112 : S268.2 98 a1 = ((S174.2 59 (((4 * (S21.2 68 ((60 + (S21.2 99 ((S.2 88 (a1)))))))) + r102)))) := by have q := hS268v a1; omega
                  have e113 : S211.2 98 a1 = S203.2 98 a1 := congrFun (hS211.2 98 (by decide)) _
                  have e114 : S203.2 98 a1 = S174.2 98 a1 := congrFun (hS203.2 98 (by decide)) _
                  have e115 : S174.2 98 a1 = S21.2 98 a1 := congrFun (hS174.2 98 (by decide)) _
                  have e116 : S21.2 98 a1 = S14.2 98 a1 := congrFun (hS21.2 98 (by decide)) _
                  have e117 : S14.2 98 a1 = ((-2)) := by have q := hS14v a1; omega
                  have e118 : S333.2 99 a1 = S326.2 99 a1 := congrFun (hS333.2 99 (by decide)) _
                  have e119 : S326.2 99 a1 = S275.2 99 a1 := congrFun (hS326.2 99 (by decide)) _
                  have e120 : S275.2 99 a1 = ((S21.2 99 ((S.2 88 (a1))))) := by have q := hS275v a1; omega
                  have e121 : S268.2 99 a1 = S211.2 99 a1 := congrFun (hS268.2 99 (by decide)) _
                  have e122 : S211.2 99 a1 = S203.2 99 a1 := congrFun (hS211.2 99 (by decide)) _
                  have e123 : S203.2 99 a1 = S174.2 99 a1 := congrFun (hS203.2 99 (by decide)) _
                  have e124 : S174.2 99 a1 = S21.2 99 a1 := congrFun (hS174.2 99 (by decide)) _
                  have e125 : S21.2 99 a1 = S14.2 99 a1 := congrFun (hS21.2 99 (by decide)) _
                  have e126 : S14.2 99 a1 = S.2 99 a1 := congrFun (hS14.2 99 (by decide)) _
                  have e127 : S333.2 100 a1 = S326.2 100 a1 := congrFun (hS333.2 100 (by decide)) _
                  have e128 : S326.2 100 a1 = S275.2 100 a1 := congrFun (hS326.2 100 (by decide)) _
                  have e129 : S275.2 100 a1 = S268.2 100 a1 := congrFun (hS275.2 100 (by decide)) _
                  have e130 : S268.2 100 a1 = S211.2 100 a1 := congrFun (hS268.2 100 (by decide)) _
                  have e131 : S211.2 100 a1 = S203.2 100 a1 := congrFun (hS211.2 100 (by decide)) _
                  have e132 : S203.2 100 a1 = (((4 * (60 + (S21.2 99 ((S.2 88 (a1)))))) + r102)) := by have q := hS203v a1; omega
                  have e133 : S174.2 100 a1 = S21.2 100 a1 := congrFun (hS174.2 100 (by decide)) _
                  have e134 : S21.2 100 a1 = S14.2 100 a1 := congrFun (hS21.2 100 (by decide)) _
                  have e135 : S14.2 100 a1 = S.2 100 a1 := congrFun (hS14.2 100 (by decide)) _
                  have e136 : S333.2 101 a1 = S326.2 101 a1 := congrFun (hS333.2 101 (by decide)) _
                  have e137 : S326.2 101 a1 = S275.2 101 a1 := congrFun (hS326.2 101 (by decide)) _
                  have e138 : S275.2 101 a1 = S268.2 101 a1 := congrFun (hS275.2 101 (by decide)) _
                  have e139 : S268.2 101 a1 = S211.2 101 a1 := congrFun (hS268.2 101 (by decide)) _
                  have e140 : S211.2 101 a1 = ((-2)) := by have q := hS211v a1; omega
                  have e141 : S203.2 101 a1 = S174.2 101 a1 := congrFun (hS203.2 101 (by decide)) _
                  have e142 : S174.2 101 a1 = S21.2 101 a1 := congrFun (hS174.2 101 (by decide)) _
                  have e143 : S21.2 101 a1 = S14.2 101 a1 := congrFun (hS21.2 101 (by decide)) _
                  have e144 : S14.2 101 a1 = S.2 101 a1 := congrFun (hS14.2 101 (by decide)) _
                  have e145 : S333.2 91 a1 = S326.2 91 a1 := congrFun (hS333.2 91 (by decide)) _
                  have e146 : S326.2 91 a1 = S275.2 91 a1 := congrFun (hS326.2 91 (by decide)) _
                  have e147 : S275.2 91 a1 = S268.2 91 a1 := congrFun (hS275.2 91 (by decide)) _
                  have e148 : S268.2 91 a1 = S211.2 91 a1 := congrFun (hS268.2 91 (by decide)) _
                  have e149 : S211.2 91 a1 = S203.2 91 a1 := congrFun (hS211.2 91 (by decide)) _
                  have e150 : S203.2 91 a1 = S174.2 91 a1 := congrFun (hS203.2 91 (by decide)) _
                  have e151 : S174.2 91 a1 = S21.2 91 a1 := congrFun (hS174.2 91 (by decide)) _
                  have e152 : S21.2 91 a1 = S14.2 91 a1 := congrFun (hS21.2 91 (by decide)) _
                  have e153 : S14.2 91 a1 = S.2 91 a1 := congrFun (hS14.2 91 (by decide)) _
                  have e154 : S333.1 54 43 = S326.1 54 43 := hS333.1 43 (by decide)
                  have e155 : S326.1 54 43 = S275.1 54 43 := hS326.1 43 (by decide)
                  have e156 : S275.1 54 43 = S268.1 54 43 := hS275.1 43 (by decide)
                  have e157 : S268.1 54 43 = S211.1 54 43 := hS268.1 43 (by decide)
                  have e158 : S211.1 54 43 = S203.1 54 43 := hS211.1 43 (by decide)
                  have e159 : S203.1 54 43 = S174.1 54 43 := hS203.1 43 (by decide)
                  have e160 : S174.1 54 43 = S21.1 54 43 := hS174.1 43 (by decide)
                  have e161 : S21.1 54 43 = S14.1 54 43 := hS21.1 43 (by decide)
                  have e162 : S14.1 54 43 = S.1 54 43 := hS14.1 43 (by decide)
                  have e163 : S333.2 88 (a1 + 1) = S326.2 88 (a1 + 1) := congrFun (hS333.2 88 (by decide)) _
                  have e164 : S326.2 88 (a1 + 1) = S275.2 88 (a1 + 1) := congrFun (hS326.2 88 (by decide)) _
                  have e165 : S275.2 88 (a1 + 1) = S268.2 88 (a1 + 1) := congrFun (hS275.2 88 (by decide)) _
                  have e166 : S268.2 88 (a1 + 1) = S211.2 88 (a1 + 1) := congrFun (hS268.2 88 (by decide)) _
                  have e167 : S211.2 88 (a1 + 1) = S203.2 88 (a1 + 1) := congrFun (hS211.2 88 (by decide)) _
                  have e168 : S203.2 88 (a1 + 1) = S174.2 88 (a1 + 1) := congrFun (hS203.2 88 (by decide)) _
                  have e169 : S174.2 88 (a1 + 1) = S21.2 88 (a1 + 1) := congrFun (hS174.2 88 (by decide)) _
                  have e170 : S21.2 88 (a1 + 1) = S14.2 88 (a1 + 1) := congrFun (hS21.2 88 (by decide)) _
                  have e171 : S14.2 88 (a1 + 1) = S.2 88 (a1 + 1) := congrFun (hS14.2 88 (by decide)) _
                  have hcA : S333.2 67 2 = S.2 67 2 := congrFun (((Ch.tr (Ch.tr (Ch.tr (Ch.tr (Ch.tr (Ch.tr (Ch.tr (Ch.tr hS14 hS21) hS174) hS203) hS211) hS268) hS275) hS326) hS333)).2 67 (by decide)) _
                  have e68 : S326.2 68 (60 + S.2 99 (S.2 88 a1)) = S.2 68 (60 + S.2 99 (S.2 88 a1)) := congrFun (((Ch.tr (Ch.tr (Ch.tr (Ch.tr (Ch.tr (Ch.tr (Ch.tr hS14 hS21) hS174) hS203) hS211) hS268) hS275) hS326)).2 68 (by decide)) _
                  have hkk : S.2 59 (4 * S.2 68 (60 + S.2 99 (S.2 88 a1)) + r102) ≤ 1 := by omega
                  have h59 : S326.2 59 = S.2 59 := (((Ch.tr (Ch.tr (Ch.tr (Ch.tr (Ch.tr (Ch.tr (Ch.tr hS14 hS21) hS174) hS203) hS211) hS268) hS275) hS326)).2 59 (by decide))
                  have hOKp : OKg S326 2 60 := p6.mv (((Ch.tr (Ch.tr (Ch.tr (Ch.tr (Ch.tr (Ch.tr (Ch.tr hS14 hS21) hS174) hS203) hS211) hS268) hS275) hS326)).2 59 (by decide)) (((Ch.tr (Ch.tr (Ch.tr (Ch.tr (Ch.tr (Ch.tr (Ch.tr hS14 hS21) hS174) hS203) hS211) hS268) hS275) hS326)).2 67 (by decide)) (((Ch.tr (Ch.tr (Ch.tr (Ch.tr (Ch.tr (Ch.tr (Ch.tr hS14 hS21) hS174) hS203) hS211) hS268) hS275) hS326)).2 68 (by decide)) (((Ch.tr (Ch.tr (Ch.tr (Ch.tr (Ch.tr (Ch.tr (Ch.tr hS14 hS21) hS174) hS203) hS211) hS268) hS275) hS326)).2 69 (by decide))
                  have hOLp : OLg S326 2 60 := p7.mv (((Ch.tr (Ch.tr (Ch.tr (Ch.tr (Ch.tr (Ch.tr (Ch.tr hS14 hS21) hS174) hS203) hS211) hS268) hS275) hS326)).2 59 (by decide)) (((Ch.tr (Ch.tr (Ch.tr (Ch.tr (Ch.tr (Ch.tr (Ch.tr hS14 hS21) hS174) hS203) hS211) hS268) hS275) hS326)).2 67 (by decide)) (((Ch.tr (Ch.tr (Ch.tr (Ch.tr (Ch.tr (Ch.tr (Ch.tr hS14 hS21) hS174) hS203) hS211) hS268) hS275) hS326)).2 68 (by decide)) (((Ch.tr (Ch.tr (Ch.tr (Ch.tr (Ch.tr (Ch.tr (Ch.tr hS14 hS21) hS174) hS203) hS211) hS268) hS275) hS326)).2 69 (by decide)) (((Ch.tr (Ch.tr (Ch.tr (Ch.tr (Ch.tr (Ch.tr (Ch.tr hS14 hS21) hS174) hS203) hS211) hS268) hS275) hS326)).2 70 (by decide))
                  exact hK (r333) S333 (Ch.wk (Ch.tr (Ch.tr (Ch.tr (Ch.tr (Ch.tr (Ch.tr (Ch.tr (Ch.tr hS14 hS21) hS174) hS203) hS211) hS268) hS275) hS326) hS333) (by decide) (by decide)) (by omega) (Or.inr ⟨OKg_bec hOKp ((hS333).2 59 (by decide)) ((hS333).2 67 (by decide)) ((hS333).2 68 (by decide)) n333_1 (by omega) (by omega) (by rw [e68, h59]; exact hkk) n333_3, OLg_bec hOLp hOKp ((hS333).2 59 (by decide)) ((hS333).2 67 (by decide)) ((hS333).2 68 (by decide)) n333_1 n333_2 (by omega) (by omega) (by rw [e68, h59]; omega), (EA_step p9x (⟨Or.inl (by omega), by omega, by omega, by omega⟩) (by
                        intro x
                        have e172 : S333.2 98 x = S326.2 98 x := congrFun (hS333.2 98 (by decide)) _
                        have e173 : S326.2 98 x = S275.2 98 x := congrFun (hS326.2 98 (by decide)) _
                        have e174 : S275.2 98 x = S268.2 98 x := congrFun (hS275.2 98 (by decide)) _
                        have e175 := hS268v x
                        have e176 : S211.2 98 x = S203.2 98 x := congrFun (hS211.2 98 (by decide)) _
                        have e177 : S203.2 98 x = S174.2 98 x := congrFun (hS203.2 98 (by decide)) _
                        have e178 : S174.2 98 x = S21.2 98 x := congrFun (hS174.2 98 (by decide)) _
                        have e179 : S21.2 98 x = S14.2 98 x := congrFun (hS21.2 98 (by decide)) _
                        have e180 := hS14v x
                        omega) (by
                        intro x
                        have e181 : S333.2 99 x = S326.2 99 x := congrFun (hS333.2 99 (by decide)) _
                        have e182 : S326.2 99 x = S275.2 99 x := congrFun (hS326.2 99 (by decide)) _
                        have e183 := hS275v x
                        have e184 : S268.2 99 x = S211.2 99 x := congrFun (hS268.2 99 (by decide)) _
                        have e185 : S211.2 99 x = S203.2 99 x := congrFun (hS211.2 99 (by decide)) _
                        have e186 : S203.2 99 x = S174.2 99 x := congrFun (hS203.2 99 (by decide)) _
                        have e187 : S174.2 99 x = S21.2 99 x := congrFun (hS174.2 99 (by decide)) _
                        have e188 : S21.2 99 x = S14.2 99 x := congrFun (hS21.2 99 (by decide)) _
                        have e189 : S14.2 99 x = S.2 99 x := congrFun (hS14.2 99 (by decide)) _
                        omega) (by
                        intro x
                        have e190 : S333.2 100 x = S326.2 100 x := congrFun (hS333.2 100 (by decide)) _
                        have e191 : S326.2 100 x = S275.2 100 x := congrFun (hS326.2 100 (by decide)) _
                        have e192 : S275.2 100 x = S268.2 100 x := congrFun (hS275.2 100 (by decide)) _
                        have e193 : S268.2 100 x = S211.2 100 x := congrFun (hS268.2 100 (by decide)) _
                        have e194 : S211.2 100 x = S203.2 100 x := congrFun (hS211.2 100 (by decide)) _
                        have e195 := hS203v x
                        have e196 : S174.2 100 x = S21.2 100 x := congrFun (hS174.2 100 (by decide)) _
                        have e197 : S21.2 100 x = S14.2 100 x := congrFun (hS21.2 100 (by decide)) _
                        have e198 : S14.2 100 x = S.2 100 x := congrFun (hS14.2 100 (by decide)) _
                        omega) (by
                        intro x
                        have e199 : S333.2 101 x = S326.2 101 x := congrFun (hS333.2 101 (by decide)) _
                        have e200 : S326.2 101 x = S275.2 101 x := congrFun (hS326.2 101 (by decide)) _
                        have e201 : S275.2 101 x = S268.2 101 x := congrFun (hS275.2 101 (by decide)) _
                        have e202 : S268.2 101 x = S211.2 101 x := congrFun (hS268.2 101 (by decide)) _
                        have e203 := hS211v x
                        have e204 : S203.2 101 x = S174.2 101 x := congrFun (hS203.2 101 (by decide)) _
                        have e205 : S174.2 101 x = S21.2 101 x := congrFun (hS174.2 101 (by decide)) _
                        have e206 : S21.2 101 x = S14.2 101 x := congrFun (hS21.2 101 (by decide)) _
                        have e207 : S14.2 101 x = S.2 101 x := congrFun (hS14.2 101 (by decide)) _
                        omega) (((Ch.tr (Ch.tr (Ch.tr (Ch.tr (Ch.tr (Ch.tr (Ch.tr (Ch.tr hS14 hS21) hS174) hS203) hS211) hS268) hS275) hS326) hS333)).1 43 (by decide)) (((Ch.tr (Ch.tr (Ch.tr (Ch.tr (Ch.tr (Ch.tr (Ch.tr (Ch.tr hS14 hS21) hS174) hS203) hS211) hS268) hS275) hS326) hS333)).2 88 (by decide)) (((Ch.tr (Ch.tr (Ch.tr (Ch.tr (Ch.tr (Ch.tr (Ch.tr (Ch.tr hS14 hS21) hS174) hS203) hS211) hS268) hS275) hS326) hS333)).2 91 (by decide)) (((Ch.tr (Ch.tr (Ch.tr (Ch.tr (Ch.tr (Ch.tr (Ch.tr (Ch.tr hS14 hS21) hS174) hS203) hS211) hS268) hS275) hS326) hS333)).2 59 (by decide)) (by omega) (fun i i0 i1 => congrFun (((Ch.tr (Ch.tr (Ch.tr (Ch.tr (Ch.tr (Ch.tr (Ch.tr (Ch.tr hS14 hS21) hS174) hS203) hS211) hS268) hS275) hS326) hS333)).2 68 (by decide)) _))⟩) ((FR.re (((Ch.tr (Ch.tr (Ch.tr (Ch.tr (Ch.tr (Ch.tr (Ch.tr hS14 hS21) hS174) hS203) hS211) hS268) hS275) hS326)).2 67 (by decide)) (((Ch.tr (Ch.tr (Ch.tr (Ch.tr (Ch.tr (Ch.tr (Ch.tr hS14 hS21) hS174) hS203) hS211) hS268) hS275) hS326)).2 68 (by decide)) (((Ch.tr (Ch.tr (Ch.tr (Ch.tr (Ch.tr (Ch.tr (Ch.tr hS14 hS21) hS174) hS203) hS211) hS268) hS275) hS326)).2 69 (by decide)) (((Ch.tr (Ch.tr (Ch.tr (Ch.tr (Ch.tr (Ch.tr (Ch.tr hS14 hS21) hS174) hS203) hS211) hS268) hS275) hS326)).2 70 (by decide))).tr ⟨fun x => Or.inr (congrFun ((hS333).2 67 (by decide)) _), fun x => Or.inr (congrFun ((hS333).2 68 (by decide)) _), fun x => by have q := n333_1 x; omega, fun x => by have q := n333_2 x; omega⟩) (by
                        intro x
                        have e208 : S333.2 98 x = S326.2 98 x := congrFun (hS333.2 98 (by decide)) _
                        have e209 : S326.2 98 x = S275.2 98 x := congrFun (hS326.2 98 (by decide)) _
                        have e210 : S275.2 98 x = S268.2 98 x := congrFun (hS275.2 98 (by decide)) _
                        have e211 := hS268v x
                        have e212 : S211.2 98 x = S203.2 98 x := congrFun (hS211.2 98 (by decide)) _
                        have e213 : S203.2 98 x = S174.2 98 x := congrFun (hS203.2 98 (by decide)) _
                        have e214 : S174.2 98 x = S21.2 98 x := congrFun (hS174.2 98 (by decide)) _
                        have e215 : S21.2 98 x = S14.2 98 x := congrFun (hS21.2 98 (by decide)) _
                        have e216 := hS14v x
                        omega) (by omega)
                · have e217 : S275.2 98 a1 = S268.2 98 a1 := congrFun (hS275.2 98 (by decide)) _
                  have e218 : S268.2 98 a1 = ((S174.2 59 (((4 * (S21.2 68 ((60 + (S21.2 99 ((S.2 88 (a1)))))))) + r102)))) := by have q := hS268v a1; omega
                  have e219 : S211.2 98 a1 = S203.2 98 a1 := congrFun (hS211.2 98 (by decide)) _
                  have e220 : S203.2 98 a1 = S174.2 98 a1 := congrFun (hS203.2 98 (by decide)) _
                  have e221 : S174.2 98 a1 = S21.2 98 a1 := congrFun (hS174.2 98 (by decide)) _
                  have e222 : S21.2 98 a1 = S14.2 98 a1 := congrFun (hS21.2 98 (by decide)) _
                  have e223 : S14.2 98 a1 = ((-2)) := by have q := hS14v a1; omega
                  exact hK (0) S275 (Ch.wk (Ch.tr (Ch.tr (Ch.tr (Ch.tr (Ch.tr (Ch.tr hS14 hS21) hS174) hS203) hS211) hS268) hS275) (by decide) (by decide)) (by omega) (Or.inl rfl) (FR.re (((Ch.tr (Ch.tr (Ch.tr (Ch.tr (Ch.tr (Ch.tr hS14 hS21) hS174) hS203) hS211) hS268) hS275)).2 67 (by decide)) (((Ch.tr (Ch.tr (Ch.tr (Ch.tr (Ch.tr (Ch.tr hS14 hS21) hS174) hS203) hS211) hS268) hS275)).2 68 (by decide)) (((Ch.tr (Ch.tr (Ch.tr (Ch.tr (Ch.tr (Ch.tr hS14 hS21) hS174) hS203) hS211) hS268) hS275)).2 69 (by decide)) (((Ch.tr (Ch.tr (Ch.tr (Ch.tr (Ch.tr (Ch.tr hS14 hS21) hS174) hS203) hS211) hS268) hS275)).2 70 (by decide))) (by
                        intro x
                        have e224 : S275.2 98 x = S268.2 98 x := congrFun (hS275.2 98 (by decide)) _
                        have e225 := hS268v x
                        have e226 : S211.2 98 x = S203.2 98 x := congrFun (hS211.2 98 (by decide)) _
                        have e227 : S203.2 98 x = S174.2 98 x := congrFun (hS203.2 98 (by decide)) _
                        have e228 : S174.2 98 x = S21.2 98 x := congrFun (hS174.2 98 (by decide)) _
                        have e229 : S21.2 98 x = S14.2 98 x := congrFun (hS21.2 98 (by decide)) _
                        have e230 := hS14v x
                        omega) (by omega)
            · refine ⟨by omega, by omega, ?_⟩
              intro q231
              have e232 : S275.2 91 (a1) = S268.2 91 (a1) := congrFun (hS275.2 91 (by decide)) _
              have e233 : S268.2 91 (a1) = S211.2 91 (a1) := congrFun (hS268.2 91 (by decide)) _
              have e234 : S211.2 91 (a1) = S203.2 91 (a1) := congrFun (hS211.2 91 (by decide)) _
              have e235 : S203.2 91 (a1) = S174.2 91 (a1) := congrFun (hS203.2 91 (by decide)) _
              have e236 : S174.2 91 (a1) = S21.2 91 (a1) := congrFun (hS174.2 91 (by decide)) _
              have e237 : S21.2 91 (a1) = S14.2 91 (a1) := congrFun (hS21.2 91 (by decide)) _
              have e238 : S14.2 91 (a1) = S.2 91 (a1) := congrFun (hS14.2 91 (by decide)) _
              refine ⟨fun h288 => ?_, fun h288 => ?_⟩
              · have e239 : S275.2 98 a1 = S268.2 98 a1 := congrFun (hS275.2 98 (by decide)) _
                have e240 : S268.2 98 a1 = ((S174.2 59 (((4 * (S21.2 68 ((60 + (S21.2 99 ((S.2 88 (a1)))))))) + r102)))) := by have q := hS268v a1; omega
                have e241 : S211.2 98 a1 = S203.2 98 a1 := congrFun (hS211.2 98 (by decide)) _
                have e242 : S203.2 98 a1 = S174.2 98 a1 := congrFun (hS203.2 98 (by decide)) _
                have e243 : S174.2 98 a1 = S21.2 98 a1 := congrFun (hS174.2 98 (by decide)) _
                have e244 : S21.2 98 a1 = S14.2 98 a1 := congrFun (hS21.2 98 (by decide)) _
                have e245 : S14.2 98 a1 = ((-2)) := by have q := hS14v a1; omega
                exact hK (0) S275 (Ch.wk (Ch.tr (Ch.tr (Ch.tr (Ch.tr (Ch.tr (Ch.tr hS14 hS21) hS174) hS203) hS211) hS268) hS275) (by decide) (by decide)) (by omega) (Or.inl rfl) (FR.re (((Ch.tr (Ch.tr (Ch.tr (Ch.tr (Ch.tr (Ch.tr hS14 hS21) hS174) hS203) hS211) hS268) hS275)).2 67 (by decide)) (((Ch.tr (Ch.tr (Ch.tr (Ch.tr (Ch.tr (Ch.tr hS14 hS21) hS174) hS203) hS211) hS268) hS275)).2 68 (by decide)) (((Ch.tr (Ch.tr (Ch.tr (Ch.tr (Ch.tr (Ch.tr hS14 hS21) hS174) hS203) hS211) hS268) hS275)).2 69 (by decide)) (((Ch.tr (Ch.tr (Ch.tr (Ch.tr (Ch.tr (Ch.tr hS14 hS21) hS174) hS203) hS211) hS268) hS275)).2 70 (by decide))) (by
                      intro x
                      have e246 : S275.2 98 x = S268.2 98 x := congrFun (hS275.2 98 (by decide)) _
                      have e247 := hS268v x
                      have e248 : S211.2 98 x = S203.2 98 x := congrFun (hS211.2 98 (by decide)) _
                      have e249 : S203.2 98 x = S174.2 98 x := congrFun (hS203.2 98 (by decide)) _
                      have e250 : S174.2 98 x = S21.2 98 x := congrFun (hS174.2 98 (by decide)) _
                      have e251 : S21.2 98 x = S14.2 98 x := congrFun (hS21.2 98 (by decide)) _
                      have e252 := hS14v x
                      omega) (by omega)
              · refine tX11_isBlankWithin  (fun r293 n293_0 => ?_)
                refine ⟨by omega, ?_⟩
                refine ⟨fun h296 => ?_, fun h296 => ?_⟩
                · have e253 : S275.2 98 a1 = S268.2 98 a1 := congrFun (hS275.2 98 (by decide)) _
                  have e254 : S268.2 98 a1 = ((S174.2 59 (((4 * (S21.2 68 ((60 + (S21.2 99 ((S.2 88 (a1)))))))) + r102)))) := by have q := hS268v a1; omega
                  have e255 : S211.2 98 a1 = S203.2 98 a1 := congrFun (hS211.2 98 (by decide)) _
                  have e256 : S203.2 98 a1 = S174.2 98 a1 := congrFun (hS203.2 98 (by decide)) _
                  have e257 : S174.2 98 a1 = S21.2 98 a1 := congrFun (hS174.2 98 (by decide)) _
                  have e258 : S21.2 98 a1 = S14.2 98 a1 := congrFun (hS21.2 98 (by decide)) _
                  have e259 : S14.2 98 a1 = ((-2)) := by have q := hS14v a1; omega
                  exact hK (0) S275 (Ch.wk (Ch.tr (Ch.tr (Ch.tr (Ch.tr (Ch.tr (Ch.tr hS14 hS21) hS174) hS203) hS211) hS268) hS275) (by decide) (by decide)) (by omega) (Or.inl rfl) (FR.re (((Ch.tr (Ch.tr (Ch.tr (Ch.tr (Ch.tr (Ch.tr hS14 hS21) hS174) hS203) hS211) hS268) hS275)).2 67 (by decide)) (((Ch.tr (Ch.tr (Ch.tr (Ch.tr (Ch.tr (Ch.tr hS14 hS21) hS174) hS203) hS211) hS268) hS275)).2 68 (by decide)) (((Ch.tr (Ch.tr (Ch.tr (Ch.tr (Ch.tr (Ch.tr hS14 hS21) hS174) hS203) hS211) hS268) hS275)).2 69 (by decide)) (((Ch.tr (Ch.tr (Ch.tr (Ch.tr (Ch.tr (Ch.tr hS14 hS21) hS174) hS203) hS211) hS268) hS275)).2 70 (by decide))) (by
                        intro x
                        have e260 : S275.2 98 x = S268.2 98 x := congrFun (hS275.2 98 (by decide)) _
                        have e261 := hS268v x
                        have e262 : S211.2 98 x = S203.2 98 x := congrFun (hS211.2 98 (by decide)) _
                        have e263 : S203.2 98 x = S174.2 98 x := congrFun (hS203.2 98 (by decide)) _
                        have e264 : S174.2 98 x = S21.2 98 x := congrFun (hS174.2 98 (by decide)) _
                        have e265 : S21.2 98 x = S14.2 98 x := congrFun (hS21.2 98 (by decide)) _
                        have e266 := hS14v x
                        omega) (by omega)
                · have e267 : S275.2 98 a1 = S268.2 98 a1 := congrFun (hS275.2 98 (by decide)) _
                  have e268 : S268.2 98 a1 = ((S174.2 59 (((4 * (S21.2 68 ((60 + (S21.2 99 ((S.2 88 (a1)))))))) + r102)))) := by have q := hS268v a1; omega
                  have e269 : S211.2 98 a1 = S203.2 98 a1 := congrFun (hS211.2 98 (by decide)) _
                  have e270 : S203.2 98 a1 = S174.2 98 a1 := congrFun (hS203.2 98 (by decide)) _
                  have e271 : S174.2 98 a1 = S21.2 98 a1 := congrFun (hS174.2 98 (by decide)) _
                  have e272 : S21.2 98 a1 = S14.2 98 a1 := congrFun (hS21.2 98 (by decide)) _
                  have e273 : S14.2 98 a1 = ((-2)) := by have q := hS14v a1; omega
                  have e274 : S275.2 98 a1 = S268.2 98 a1 := congrFun (hS275.2 98 (by decide)) _
                  have e275 : S268.2 98 a1 = ((S174.2 59 (((4 * (S21.2 68 ((60 + (S21.2 99 ((S.2 88 (a1)))))))) + r102)))) := by have q := hS268v a1; omega
                  have e276 : S211.2 98 a1 = S203.2 98 a1 := congrFun (hS211.2 98 (by decide)) _
                  have e277 : S203.2 98 a1 = S174.2 98 a1 := congrFun (hS203.2 98 (by decide)) _
                  have e278 : S174.2 98 a1 = S21.2 98 a1 := congrFun (hS174.2 98 (by decide)) _
                  have e279 : S21.2 98 a1 = S14.2 98 a1 := congrFun (hS21.2 98 (by decide)) _
                  have e280 : S14.2 98 a1 = ((-2)) := by have q := hS14v a1; omega
                  have e281 : S275.2 99 a1 = ((S21.2 99 ((S.2 88 (a1))))) := by have q := hS275v a1; omega
                  have e282 : S268.2 99 a1 = S211.2 99 a1 := congrFun (hS268.2 99 (by decide)) _
                  have e283 : S211.2 99 a1 = S203.2 99 a1 := congrFun (hS211.2 99 (by decide)) _
                  have e284 : S203.2 99 a1 = S174.2 99 a1 := congrFun (hS203.2 99 (by decide)) _
                  have e285 : S174.2 99 a1 = S21.2 99 a1 := congrFun (hS174.2 99 (by decide)) _
                  have e286 : S21.2 99 a1 = S14.2 99 a1 := congrFun (hS21.2 99 (by decide)) _
                  have e287 : S14.2 99 a1 = S.2 99 a1 := congrFun (hS14.2 99 (by decide)) _
                  have e288 : S275.2 100 a1 = S268.2 100 a1 := congrFun (hS275.2 100 (by decide)) _
                  have e289 : S268.2 100 a1 = S211.2 100 a1 := congrFun (hS268.2 100 (by decide)) _
                  have e290 : S211.2 100 a1 = S203.2 100 a1 := congrFun (hS211.2 100 (by decide)) _
                  have e291 : S203.2 100 a1 = (((4 * (60 + (S21.2 99 ((S.2 88 (a1)))))) + r102)) := by have q := hS203v a1; omega
                  have e292 : S174.2 100 a1 = S21.2 100 a1 := congrFun (hS174.2 100 (by decide)) _
                  have e293 : S21.2 100 a1 = S14.2 100 a1 := congrFun (hS21.2 100 (by decide)) _
                  have e294 : S14.2 100 a1 = S.2 100 a1 := congrFun (hS14.2 100 (by decide)) _
                  have e295 : S275.2 101 a1 = S268.2 101 a1 := congrFun (hS275.2 101 (by decide)) _
                  have e296 : S268.2 101 a1 = S211.2 101 a1 := congrFun (hS268.2 101 (by decide)) _
                  have e297 : S211.2 101 a1 = ((-2)) := by have q := hS211v a1; omega
                  have e298 : S203.2 101 a1 = S174.2 101 a1 := congrFun (hS203.2 101 (by decide)) _
                  have e299 : S174.2 101 a1 = S21.2 101 a1 := congrFun (hS174.2 101 (by decide)) _
                  have e300 : S21.2 101 a1 = S14.2 101 a1 := congrFun (hS21.2 101 (by decide)) _
                  have e301 : S14.2 101 a1 = S.2 101 a1 := congrFun (hS14.2 101 (by decide)) _
                  have e302 : S275.2 91 a1 = S268.2 91 a1 := congrFun (hS275.2 91 (by decide)) _
                  have e303 : S268.2 91 a1 = S211.2 91 a1 := congrFun (hS268.2 91 (by decide)) _
                  have e304 : S211.2 91 a1 = S203.2 91 a1 := congrFun (hS211.2 91 (by decide)) _
                  have e305 : S203.2 91 a1 = S174.2 91 a1 := congrFun (hS203.2 91 (by decide)) _
                  have e306 : S174.2 91 a1 = S21.2 91 a1 := congrFun (hS174.2 91 (by decide)) _
                  have e307 : S21.2 91 a1 = S14.2 91 a1 := congrFun (hS21.2 91 (by decide)) _
                  have e308 : S14.2 91 a1 = S.2 91 a1 := congrFun (hS14.2 91 (by decide)) _
                  have e309 : S275.1 54 43 = S268.1 54 43 := hS275.1 43 (by decide)
                  have e310 : S268.1 54 43 = S211.1 54 43 := hS268.1 43 (by decide)
                  have e311 : S211.1 54 43 = S203.1 54 43 := hS211.1 43 (by decide)
                  have e312 : S203.1 54 43 = S174.1 54 43 := hS203.1 43 (by decide)
                  have e313 : S174.1 54 43 = S21.1 54 43 := hS174.1 43 (by decide)
                  have e314 : S21.1 54 43 = S14.1 54 43 := hS21.1 43 (by decide)
                  have e315 : S14.1 54 43 = S.1 54 43 := hS14.1 43 (by decide)
                  have e316 : S275.2 88 (a1 + 1) = S268.2 88 (a1 + 1) := congrFun (hS275.2 88 (by decide)) _
                  have e317 : S268.2 88 (a1 + 1) = S211.2 88 (a1 + 1) := congrFun (hS268.2 88 (by decide)) _
                  have e318 : S211.2 88 (a1 + 1) = S203.2 88 (a1 + 1) := congrFun (hS211.2 88 (by decide)) _
                  have e319 : S203.2 88 (a1 + 1) = S174.2 88 (a1 + 1) := congrFun (hS203.2 88 (by decide)) _
                  have e320 : S174.2 88 (a1 + 1) = S21.2 88 (a1 + 1) := congrFun (hS174.2 88 (by decide)) _
                  have e321 : S21.2 88 (a1 + 1) = S14.2 88 (a1 + 1) := congrFun (hS21.2 88 (by decide)) _
                  have e322 : S14.2 88 (a1 + 1) = S.2 88 (a1 + 1) := congrFun (hS14.2 88 (by decide)) _
                  have hcA : S275.2 67 2 = S.2 67 2 := congrFun (((Ch.tr (Ch.tr (Ch.tr (Ch.tr (Ch.tr (Ch.tr hS14 hS21) hS174) hS203) hS211) hS268) hS275)).2 67 (by decide)) _
                  exact hK (1) S275 (Ch.wk (Ch.tr (Ch.tr (Ch.tr (Ch.tr (Ch.tr (Ch.tr hS14 hS21) hS174) hS203) hS211) hS268) hS275) (by decide) (by decide)) (by omega) (Or.inr ⟨p6.mv (((Ch.tr (Ch.tr (Ch.tr (Ch.tr (Ch.tr (Ch.tr hS14 hS21) hS174) hS203) hS211) hS268) hS275)).2 59 (by decide)) (((Ch.tr (Ch.tr (Ch.tr (Ch.tr (Ch.tr (Ch.tr hS14 hS21) hS174) hS203) hS211) hS268) hS275)).2 67 (by decide)) (((Ch.tr (Ch.tr (Ch.tr (Ch.tr (Ch.tr (Ch.tr hS14 hS21) hS174) hS203) hS211) hS268) hS275)).2 68 (by decide)) (((Ch.tr (Ch.tr (Ch.tr (Ch.tr (Ch.tr (Ch.tr hS14 hS21) hS174) hS203) hS211) hS268) hS275)).2 69 (by decide)), p7.mv (((Ch.tr (Ch.tr (Ch.tr (Ch.tr (Ch.tr (Ch.tr hS14 hS21) hS174) hS203) hS211) hS268) hS275)).2 59 (by decide)) (((Ch.tr (Ch.tr (Ch.tr (Ch.tr (Ch.tr (Ch.tr hS14 hS21) hS174) hS203) hS211) hS268) hS275)).2 67 (by decide)) (((Ch.tr (Ch.tr (Ch.tr (Ch.tr (Ch.tr (Ch.tr hS14 hS21) hS174) hS203) hS211) hS268) hS275)).2 68 (by decide)) (((Ch.tr (Ch.tr (Ch.tr (Ch.tr (Ch.tr (Ch.tr hS14 hS21) hS174) hS203) hS211) hS268) hS275)).2 69 (by decide)) (((Ch.tr (Ch.tr (Ch.tr (Ch.tr (Ch.tr (Ch.tr hS14 hS21) hS174) hS203) hS211) hS268) hS275)).2 70 (by decide)), (EA_step p9x (⟨Or.inr ⟨by omega, by omega, by omega, by omega, by rw [show S275.2 99 a1 = S.2 99 (S.2 88 a1) by omega, show S275.2 100 a1 - 4 * (60 + S.2 99 (S.2 88 a1)) = r102 by omega, show S275.2 68 = S.2 68 from (((Ch.tr (Ch.tr (Ch.tr (Ch.tr (Ch.tr (Ch.tr hS14 hS21) hS174) hS203) hS211) hS268) hS275)).2 68 (by decide)), show S275.2 59 = S.2 59 from (((Ch.tr (Ch.tr (Ch.tr (Ch.tr (Ch.tr (Ch.tr hS14 hS21) hS174) hS203) hS211) hS268) hS275)).2 59 (by decide))]; omega⟩, by omega, by omega, by omega⟩) (by
                        intro x
                        have e323 : S275.2 98 x = S268.2 98 x := congrFun (hS275.2 98 (by decide)) _
                        have e324 := hS268v x
                        have e325 : S211.2 98 x = S203.2 98 x := congrFun (hS211.2 98 (by decide)) _
                        have e326 : S203.2 98 x = S174.2 98 x := congrFun (hS203.2 98 (by decide)) _
                        have e327 : S174.2 98 x = S21.2 98 x := congrFun (hS174.2 98 (by decide)) _
                        have e328 : S21.2 98 x = S14.2 98 x := congrFun (hS21.2 98 (by decide)) _
                        have e329 := hS14v x
                        omega) (by
                        intro x
                        have e330 := hS275v x
                        have e331 : S268.2 99 x = S211.2 99 x := congrFun (hS268.2 99 (by decide)) _
                        have e332 : S211.2 99 x = S203.2 99 x := congrFun (hS211.2 99 (by decide)) _
                        have e333 : S203.2 99 x = S174.2 99 x := congrFun (hS203.2 99 (by decide)) _
                        have e334 : S174.2 99 x = S21.2 99 x := congrFun (hS174.2 99 (by decide)) _
                        have e335 : S21.2 99 x = S14.2 99 x := congrFun (hS21.2 99 (by decide)) _
                        have e336 : S14.2 99 x = S.2 99 x := congrFun (hS14.2 99 (by decide)) _
                        omega) (by
                        intro x
                        have e337 : S275.2 100 x = S268.2 100 x := congrFun (hS275.2 100 (by decide)) _
                        have e338 : S268.2 100 x = S211.2 100 x := congrFun (hS268.2 100 (by decide)) _
                        have e339 : S211.2 100 x = S203.2 100 x := congrFun (hS211.2 100 (by decide)) _
                        have e340 := hS203v x
                        have e341 : S174.2 100 x = S21.2 100 x := congrFun (hS174.2 100 (by decide)) _
                        have e342 : S21.2 100 x = S14.2 100 x := congrFun (hS21.2 100 (by decide)) _
                        have e343 : S14.2 100 x = S.2 100 x := congrFun (hS14.2 100 (by decide)) _
                        omega) (by
                        intro x
                        have e344 : S275.2 101 x = S268.2 101 x := congrFun (hS275.2 101 (by decide)) _
                        have e345 : S268.2 101 x = S211.2 101 x := congrFun (hS268.2 101 (by decide)) _
                        have e346 := hS211v x
                        have e347 : S203.2 101 x = S174.2 101 x := congrFun (hS203.2 101 (by decide)) _
                        have e348 : S174.2 101 x = S21.2 101 x := congrFun (hS174.2 101 (by decide)) _
                        have e349 : S21.2 101 x = S14.2 101 x := congrFun (hS21.2 101 (by decide)) _
                        have e350 : S14.2 101 x = S.2 101 x := congrFun (hS14.2 101 (by decide)) _
                        omega) (((Ch.tr (Ch.tr (Ch.tr (Ch.tr (Ch.tr (Ch.tr hS14 hS21) hS174) hS203) hS211) hS268) hS275)).1 43 (by decide)) (((Ch.tr (Ch.tr (Ch.tr (Ch.tr (Ch.tr (Ch.tr hS14 hS21) hS174) hS203) hS211) hS268) hS275)).2 88 (by decide)) (((Ch.tr (Ch.tr (Ch.tr (Ch.tr (Ch.tr (Ch.tr hS14 hS21) hS174) hS203) hS211) hS268) hS275)).2 91 (by decide)) (((Ch.tr (Ch.tr (Ch.tr (Ch.tr (Ch.tr (Ch.tr hS14 hS21) hS174) hS203) hS211) hS268) hS275)).2 59 (by decide)) (by omega) (fun i i0 i1 => congrFun (((Ch.tr (Ch.tr (Ch.tr (Ch.tr (Ch.tr (Ch.tr hS14 hS21) hS174) hS203) hS211) hS268) hS275)).2 68 (by decide)) _))⟩) (FR.re (((Ch.tr (Ch.tr (Ch.tr (Ch.tr (Ch.tr (Ch.tr hS14 hS21) hS174) hS203) hS211) hS268) hS275)).2 67 (by decide)) (((Ch.tr (Ch.tr (Ch.tr (Ch.tr (Ch.tr (Ch.tr hS14 hS21) hS174) hS203) hS211) hS268) hS275)).2 68 (by decide)) (((Ch.tr (Ch.tr (Ch.tr (Ch.tr (Ch.tr (Ch.tr hS14 hS21) hS174) hS203) hS211) hS268) hS275)).2 69 (by decide)) (((Ch.tr (Ch.tr (Ch.tr (Ch.tr (Ch.tr (Ch.tr hS14 hS21) hS174) hS203) hS211) hS268) hS275)).2 70 (by decide))) (by
                        intro x
                        have e351 : S275.2 98 x = S268.2 98 x := congrFun (hS275.2 98 (by decide)) _
                        have e352 := hS268v x
                        have e353 : S211.2 98 x = S203.2 98 x := congrFun (hS211.2 98 (by decide)) _
                        have e354 : S203.2 98 x = S174.2 98 x := congrFun (hS203.2 98 (by decide)) _
                        have e355 : S174.2 98 x = S21.2 98 x := congrFun (hS174.2 98 (by decide)) _
                        have e356 : S21.2 98 x = S14.2 98 x := congrFun (hS21.2 98 (by decide)) _
                        have e357 := hS14v x
                        omega) (by omega)
          · have e358 : S211.1 54 43 = S203.1 54 43 := hS211.1 43 (by decide)
            have e359 : S203.1 54 43 = S174.1 54 43 := hS203.1 43 (by decide)
            have e360 : S174.1 54 43 = S21.1 54 43 := hS174.1 43 (by decide)
            have e361 : S21.1 54 43 = S14.1 54 43 := hS21.1 43 (by decide)
            have e362 : S14.1 54 43 = S.1 54 43 := hS14.1 43 (by decide)
            have e363 : S211.1 54 43 = S203.1 54 43 := hS211.1 43 (by decide)
            have e364 : S203.1 54 43 = S174.1 54 43 := hS203.1 43 (by decide)
            have e365 : S174.1 54 43 = S21.1 54 43 := hS174.1 43 (by decide)
            have e366 : S21.1 54 43 = S14.1 54 43 := hS21.1 43 (by decide)
            have e367 : S14.1 54 43 = S.1 54 43 := hS14.1 43 (by decide)
            have e368 : S211.1 54 51 = S203.1 54 51 := hS211.1 51 (by decide)
            have e369 : S203.1 54 51 = S174.1 54 51 := hS203.1 51 (by decide)
            have e370 : S174.1 54 51 = S21.1 54 51 := hS174.1 51 (by decide)
            have e371 : S21.1 54 51 = S14.1 54 51 := hS21.1 51 (by decide)
            have e372 : S14.1 54 51 = S.1 54 51 := hS14.1 51 (by decide)
            have e373 : S211.2 67 2 = S203.2 67 2 := congrFun (hS211.2 67 (by decide)) _
            have e374 : S203.2 67 2 = S174.2 67 2 := congrFun (hS203.2 67 (by decide)) _
            have e375 : S174.2 67 2 = S21.2 67 2 := congrFun (hS174.2 67 (by decide)) _
            have e376 : S21.2 67 2 = S14.2 67 2 := congrFun (hS21.2 67 (by decide)) _
            have e377 : S14.2 67 2 = S.2 67 2 := congrFun (hS14.2 67 (by decide)) _
            have e378 : S211.1 54 56 = S203.1 54 56 := hS211.1 56 (by decide)
            have e379 : S203.1 54 56 = S174.1 54 56 := hS203.1 56 (by decide)
            have e380 : S174.1 54 56 = S21.1 54 56 := hS174.1 56 (by decide)
            have e381 : S21.1 54 56 = S14.1 54 56 := hS21.1 56 (by decide)
            have e382 : S14.1 54 56 = S.1 54 56 := hS14.1 56 (by decide)
            have e383 : S211.2 91 (a1) = S203.2 91 (a1) := congrFun (hS211.2 91 (by decide)) _
            have e384 : S203.2 91 (a1) = S174.2 91 (a1) := congrFun (hS203.2 91 (by decide)) _
            have e385 : S174.2 91 (a1) = S21.2 91 (a1) := congrFun (hS174.2 91 (by decide)) _
            have e386 : S21.2 91 (a1) = S14.2 91 (a1) := congrFun (hS21.2 91 (by decide)) _
            have e387 : S14.2 91 (a1) = S.2 91 (a1) := congrFun (hS14.2 91 (by decide)) _
            have e388 : S211.1 54 43 = S203.1 54 43 := hS211.1 43 (by decide)
            have e389 : S203.1 54 43 = S174.1 54 43 := hS203.1 43 (by decide)
            have e390 : S174.1 54 43 = S21.1 54 43 := hS174.1 43 (by decide)
            have e391 : S21.1 54 43 = S14.1 54 43 := hS21.1 43 (by decide)
            have e392 : S14.1 54 43 = S.1 54 43 := hS14.1 43 (by decide)
            have e393 : S211.2 88 ((a1) + 1) = S203.2 88 ((a1) + 1) := congrFun (hS211.2 88 (by decide)) _
            have e394 : S203.2 88 ((a1) + 1) = S174.2 88 ((a1) + 1) := congrFun (hS203.2 88 (by decide)) _
            have e395 : S174.2 88 ((a1) + 1) = S21.2 88 ((a1) + 1) := congrFun (hS174.2 88 (by decide)) _
            have e396 : S21.2 88 ((a1) + 1) = S14.2 88 ((a1) + 1) := congrFun (hS21.2 88 (by decide)) _
            have e397 : S14.2 88 ((a1) + 1) = S.2 88 ((a1) + 1) := congrFun (hS14.2 88 (by decide)) _
            refine tX11_isObjectElement (by omega) (by omega) (by omega) (by omega) (by omega) (by omega) (by omega) (by omega) (by omega) (by omega) (fun r221 S221 hS221 n221_0 n221_1 n221_2 n221_3 n221_4 n221_5 => ?_)
            refine ⟨by omega, by omega, ?_⟩
            intro q398
            have e399 : S221.2 100 (a1) = S211.2 100 (a1) := congrFun (hS221.2 100 (by decide)) _
            have e400 : S211.2 100 (a1) = S203.2 100 (a1) := congrFun (hS211.2 100 (by decide)) _
            have e401 : S203.2 100 (a1) = (((4 * (60 + (S21.2 99 ((S.2 88 (a1)))))) + r102)) := by have q := hS203v (a1); omega
            have e402 : S174.2 100 (a1) = S21.2 100 (a1) := congrFun (hS174.2 100 (by decide)) _
            have e403 : S21.2 100 (a1) = S14.2 100 (a1) := congrFun (hS21.2 100 (by decide)) _
            have e404 : S14.2 100 (a1) = S.2 100 (a1) := congrFun (hS14.2 100 (by decide)) _
            refine ⟨by omega, by omega, ?_⟩
            intro q405
            first | have e406 : S221.2 98 (a1) = S211.2 98 (a1) := by have q := n221_3 (a1); omega | have e406 := n221_3 (a1)
            have e407 : S211.2 98 (a1) = S203.2 98 (a1) := congrFun (hS211.2 98 (by decide)) _
            have e408 : S203.2 98 (a1) = S174.2 98 (a1) := congrFun (hS203.2 98 (by decide)) _
            have e409 : S174.2 98 (a1) = S21.2 98 (a1) := congrFun (hS174.2 98 (by decide)) _
            have e410 : S21.2 98 (a1) = S14.2 98 (a1) := congrFun (hS21.2 98 (by decide)) _
            have e411 : S14.2 98 (a1) = ((-2)) := by have q := hS14v (a1); omega
            refine ⟨fun h243 => ?_, fun h243 => ?_⟩
            · refine ⟨by omega, by omega, ?_⟩
              intro S257 hS257e
              have hS257 : Ch [] [69] S221 S257 := Ch_A hS257e
              have hS257v : ∀ x, (x = S221.2 100 (a1) ∧ S257.2 69 x = (-2)) ∨ (¬ x = S221.2 100 (a1) ∧ S257.2 69 x = S221.2 69 x) := pA_at hS257e
              refine ⟨by omega, ?_⟩
              have e412 : S257.2 98 a1 = S221.2 98 a1 := congrFun (hS257.2 98 (by decide)) _
              first | have e413 : S221.2 98 a1 = S211.2 98 a1 := by have q := n221_3 a1; omega | have e413 := n221_3 a1
              have e414 : S211.2 98 a1 = S203.2 98 a1 := congrFun (hS211.2 98 (by decide)) _
              have e415 : S203.2 98 a1 = S174.2 98 a1 := congrFun (hS203.2 98 (by decide)) _
              have e416 : S174.2 98 a1 = S21.2 98 a1 := congrFun (hS174.2 98 (by decide)) _
              have e417 : S21.2 98 a1 = S14.2 98 a1 := congrFun (hS21.2 98 (by decide)) _
              have e418 : S14.2 98 a1 = ((-2)) := by have q := hS14v a1; omega
              have e419 : S257.2 98 a1 = S221.2 98 a1 := congrFun (hS257.2 98 (by decide)) _
              first | have e420 : S221.2 98 a1 = S211.2 98 a1 := by have q := n221_3 a1; omega | have e420 := n221_3 a1
              have e421 : S211.2 98 a1 = S203.2 98 a1 := congrFun (hS211.2 98 (by decide)) _
              have e422 : S203.2 98 a1 = S174.2 98 a1 := congrFun (hS203.2 98 (by decide)) _
              have e423 : S174.2 98 a1 = S21.2 98 a1 := congrFun (hS174.2 98 (by decide)) _
              have e424 : S21.2 98 a1 = S14.2 98 a1 := congrFun (hS21.2 98 (by decide)) _
              have e425 : S14.2 98 a1 = ((-2)) := by have q := hS14v a1; omega
              have e426 : S257.2 99 a1 = S221.2 99 a1 := congrFun (hS257.2 99 (by decide)) _
              first | have e427 : S221.2 99 a1 = S211.2 99 a1 := by have q := n221_4 a1; omega | have e427 := n221_4 a1
              have e428 : S211.2 99 a1 = S203.2 99 a1 := congrFun (hS211.2 99 (by decide)) _
              have e429 : S203.2 99 a1 = S174.2 99 a1 := congrFun (hS203.2 99 (by decide)) _
              have e430 : S174.2 99 a1 = S21.2 99 a1 := congrFun (hS174.2 99 (by decide)) _
              have e431 : S21.2 99 a1 = S14.2 99 a1 := congrFun (hS21.2 99 (by decide)) _
              have e432 : S14.2 99 a1 = S.2 99 a1 := congrFun (hS14.2 99 (by decide)) _
              have e433 : S257.2 100 a1 = S221.2 100 a1 := congrFun (hS257.2 100 (by decide)) _
              have e434 : S221.2 100 a1 = S211.2 100 a1 := congrFun (hS221.2 100 (by decide)) _
              have e435 : S211.2 100 a1 = S203.2 100 a1 := congrFun (hS211.2 100 (by decide)) _
              have e436 : S203.2 100 a1 = (((4 * (60 + (S21.2 99 ((S.2 88 (a1)))))) + r102)) := by have q := hS203v a1; omega
              have e437 : S174.2 100 a1 = S21.2 100 a1 := congrFun (hS174.2 100 (by decide)) _
              have e438 : S21.2 100 a1 = S14.2 100 a1 := congrFun (hS21.2 100 (by decide)) _
              have e439 : S14.2 100 a1 = S.2 100 a1 := congrFun (hS14.2 100 (by decide)) _
              have e440 : S257.2 101 a1 = S221.2 101 a1 := congrFun (hS257.2 101 (by decide)) _
              have e441 : S221.2 101 a1 = S211.2 101 a1 := congrFun (hS221.2 101 (by decide)) _
              have e442 : S211.2 101 a1 = ((-2)) := by have q := hS211v a1; omega
              have e443 : S203.2 101 a1 = S174.2 101 a1 := congrFun (hS203.2 101 (by decide)) _
              have e444 : S174.2 101 a1 = S21.2 101 a1 := congrFun (hS174.2 101 (by decide)) _
              have e445 : S21.2 101 a1 = S14.2 101 a1 := congrFun (hS21.2 101 (by decide)) _
              have e446 : S14.2 101 a1 = S.2 101 a1 := congrFun (hS14.2 101 (by decide)) _
              have e447 : S257.2 91 a1 = S221.2 91 a1 := congrFun (hS257.2 91 (by decide)) _
              have e448 : S221.2 91 a1 = S211.2 91 a1 := congrFun (hS221.2 91 (by decide)) _
              have e449 : S211.2 91 a1 = S203.2 91 a1 := congrFun (hS211.2 91 (by decide)) _
              have e450 : S203.2 91 a1 = S174.2 91 a1 := congrFun (hS203.2 91 (by decide)) _
              have e451 : S174.2 91 a1 = S21.2 91 a1 := congrFun (hS174.2 91 (by decide)) _
              have e452 : S21.2 91 a1 = S14.2 91 a1 := congrFun (hS21.2 91 (by decide)) _
              have e453 : S14.2 91 a1 = S.2 91 a1 := congrFun (hS14.2 91 (by decide)) _
              have e454 : S257.1 54 43 = S221.1 54 43 := hS257.1 43 (by decide)
              have e455 : S221.1 54 43 = S211.1 54 43 := hS221.1 43 (by decide)
              have e456 : S211.1 54 43 = S203.1 54 43 := hS211.1 43 (by decide)
              have e457 : S203.1 54 43 = S174.1 54 43 := hS203.1 43 (by decide)
              have e458 : S174.1 54 43 = S21.1 54 43 := hS174.1 43 (by decide)
              have e459 : S21.1 54 43 = S14.1 54 43 := hS21.1 43 (by decide)
              have e460 : S14.1 54 43 = S.1 54 43 := hS14.1 43 (by decide)
              have e461 : S257.2 88 (a1 + 1) = S221.2 88 (a1 + 1) := congrFun (hS257.2 88 (by decide)) _
              have e462 : S221.2 88 (a1 + 1) = S211.2 88 (a1 + 1) := congrFun (hS221.2 88 (by decide)) _
              have e463 : S211.2 88 (a1 + 1) = S203.2 88 (a1 + 1) := congrFun (hS211.2 88 (by decide)) _
              have e464 : S203.2 88 (a1 + 1) = S174.2 88 (a1 + 1) := congrFun (hS203.2 88 (by decide)) _
              have e465 : S174.2 88 (a1 + 1) = S21.2 88 (a1 + 1) := congrFun (hS174.2 88 (by decide)) _
              have e466 : S21.2 88 (a1 + 1) = S14.2 88 (a1 + 1) := congrFun (hS21.2 88 (by decide)) _
              have e467 : S14.2 88 (a1 + 1) = S.2 88 (a1 + 1) := congrFun (hS14.2 88 (by decide)) _
              have hcA : S211.2 67 2 = S.2 67 2 := congrFun (((Ch.tr (Ch.tr (Ch.tr (Ch.tr hS14 hS21) hS174) hS203) hS211)).2 67 (by decide)) _
              have hcB := n221_1.1
              have hcC : S257.2 67 2 = S221.2 67 2 := congrFun ((hS257).2 67 (by decide)) _
              have hOLp : OLg S211 2 60 := p7.mv (((Ch.tr (Ch.tr (Ch.tr (Ch.tr hS14 hS21) hS174) hS203) hS211)).2 59 (by decide)) (((Ch.tr (Ch.tr (Ch.tr (Ch.tr hS14 hS21) hS174) hS203) hS211)).2 67 (by decide)) (((Ch.tr (Ch.tr (Ch.tr (Ch.tr hS14 hS21) hS174) hS203) hS211)).2 68 (by decide)) (((Ch.tr (Ch.tr (Ch.tr (Ch.tr hS14 hS21) hS174) hS203) hS211)).2 69 (by decide)) (((Ch.tr (Ch.tr (Ch.tr (Ch.tr hS14 hS21) hS174) hS203) hS211)).2 70 (by decide))
              have hOKp : OKg S211 2 60 := p6.mv (((Ch.tr (Ch.tr (Ch.tr (Ch.tr hS14 hS21) hS174) hS203) hS211)).2 59 (by decide)) (((Ch.tr (Ch.tr (Ch.tr (Ch.tr hS14 hS21) hS174) hS203) hS211)).2 67 (by decide)) (((Ch.tr (Ch.tr (Ch.tr (Ch.tr hS14 hS21) hS174) hS203) hS211)).2 68 (by decide)) (((Ch.tr (Ch.tr (Ch.tr (Ch.tr hS14 hS21) hS174) hS203) hS211)).2 69 (by decide))
              have hOL2 := OLg_OE hOLp hOKp ((hS221).2 59 (by decide)) n221_1
              have hfo : S221.2 100 a1 = 4 * (60 + S.2 99 (S.2 88 a1)) + r102 := by
                rw [show S221.2 100 = S203.2 100 from (((Ch.tr hS211 hS221)).2 100 (by decide))]
                have q := hS203v a1
                omega
              have hk2 : S221.2 68 (60 + S.2 99 (S.2 88 a1)) = S.2 68 (60 + S.2 99 (S.2 88 a1)) := by
                have q := n221_1.2.2.1 (60 + S.2 99 (S.2 88 a1))
                have q1 : S211.2 67 2 = S.2 67 2 := congrFun (((Ch.tr (Ch.tr (Ch.tr (Ch.tr hS14 hS21) hS174) hS203) hS211)).2 67 (by decide)) _
                have q2 : S211.2 68 (60 + S.2 99 (S.2 88 a1)) = S.2 68 (60 + S.2 99 (S.2 88 a1)) := congrFun (((Ch.tr (Ch.tr (Ch.tr (Ch.tr hS14 hS21) hS174) hS203) hS211)).2 68 (by decide)) _
                omega
              have h59 : S221.2 59 = S.2 59 := (((Ch.tr (Ch.tr (Ch.tr (Ch.tr (Ch.tr hS14 hS21) hS174) hS203) hS211) hS221)).2 59 (by decide))
              have hv9 : ∀ x : Int, x = 4 * (60 + S.2 99 (S.2 88 a1)) + r102 ∨ S257.2 69 x = S221.2 69 x := by
                intro x
                have q := hS257v x
                rw [hfo] at q
                omega
              have hvk : S257.2 69 (4 * (60 + S.2 99 (S.2 88 a1)) + r102) = ((-2)) := by
                have q := hS257v (4 * (60 + S.2 99 (S.2 88 a1)) + r102)
                rw [hfo] at q
                omega
              exact hK (r221) S257 (Ch.wk (Ch.tr (Ch.tr (Ch.tr (Ch.tr (Ch.tr (Ch.tr hS14 hS21) hS174) hS203) hS211) hS221) hS257) (by decide) (by decide)) (by omega) (by
                    rcases n221_5 with h | h
                    · exact Or.inl h
                    · refine Or.inr ⟨OK_slot n221_2 ((hS257).2 59 (by decide)) ((hS257).2 67 (by decide)) ((hS257).2 68 (by decide)) hv9 (fun x y x0 x1 y0 y1 q => ?_), OL_slot hOL2 n221_2 ((hS257).2 59 (by decide)) ((hS257).2 67 (by decide)) ((hS257).2 68 (by decide)) hv9 (fun x => Or.inr (congrFun ((hS257).2 70 (by decide)) _)) (fun x y z x0 x1 y0 y1 q k3 z0 z1 => ?_), (EA_step p9x (⟨Or.inl (by omega), by omega, ?_, by omega⟩) (by
                    intro x
                    have e468 : S257.2 98 x = S221.2 98 x := congrFun (hS257.2 98 (by decide)) _
                    have e469 := n221_3 x
                    have e470 : S211.2 98 x = S203.2 98 x := congrFun (hS211.2 98 (by decide)) _
                    have e471 : S203.2 98 x = S174.2 98 x := congrFun (hS203.2 98 (by decide)) _
                    have e472 : S174.2 98 x = S21.2 98 x := congrFun (hS174.2 98 (by decide)) _
                    have e473 : S21.2 98 x = S14.2 98 x := congrFun (hS21.2 98 (by decide)) _
                    have e474 := hS14v x
                    omega) (by
                    intro x
                    have e475 : S257.2 99 x = S221.2 99 x := congrFun (hS257.2 99 (by decide)) _
                    have e476 := n221_4 x
                    have e477 : S211.2 99 x = S203.2 99 x := congrFun (hS211.2 99 (by decide)) _
                    have e478 : S203.2 99 x = S174.2 99 x := congrFun (hS203.2 99 (by decide)) _
                    have e479 : S174.2 99 x = S21.2 99 x := congrFun (hS174.2 99 (by decide)) _
                    have e480 : S21.2 99 x = S14.2 99 x := congrFun (hS21.2 99 (by decide)) _
                    have e481 : S14.2 99 x = S.2 99 x := congrFun (hS14.2 99 (by decide)) _
                    omega) (by
                    intro x
                    have e482 : S257.2 100 x = S221.2 100 x := congrFun (hS257.2 100 (by decide)) _
                    have e483 : S221.2 100 x = S211.2 100 x := congrFun (hS221.2 100 (by decide)) _
                    have e484 : S211.2 100 x = S203.2 100 x := congrFun (hS211.2 100 (by decide)) _
                    have e485 := hS203v x
                    have e486 : S174.2 100 x = S21.2 100 x := congrFun (hS174.2 100 (by decide)) _
                    have e487 : S21.2 100 x = S14.2 100 x := congrFun (hS21.2 100 (by decide)) _
                    have e488 : S14.2 100 x = S.2 100 x := congrFun (hS14.2 100 (by decide)) _
                    omega) (by
                    intro x
                    have e489 : S257.2 101 x = S221.2 101 x := congrFun (hS257.2 101 (by decide)) _
                    have e490 : S221.2 101 x = S211.2 101 x := congrFun (hS221.2 101 (by decide)) _
                    have e491 := hS211v x
                    have e492 : S203.2 101 x = S174.2 101 x := congrFun (hS203.2 101 (by decide)) _
                    have e493 : S174.2 101 x = S21.2 101 x := congrFun (hS174.2 101 (by decide)) _
                    have e494 : S21.2 101 x = S14.2 101 x := congrFun (hS21.2 101 (by decide)) _
                    have e495 : S14.2 101 x = S.2 101 x := congrFun (hS14.2 101 (by decide)) _
                    omega) (((Ch.tr (Ch.tr (Ch.tr (Ch.tr (Ch.tr (Ch.tr hS14 hS21) hS174) hS203) hS211) hS221) hS257)).1 43 (by decide)) (((Ch.tr (Ch.tr (Ch.tr (Ch.tr (Ch.tr (Ch.tr hS14 hS21) hS174) hS203) hS211) hS221) hS257)).2 88 (by decide)) (((Ch.tr (Ch.tr (Ch.tr (Ch.tr (Ch.tr (Ch.tr hS14 hS21) hS174) hS203) hS211) hS221) hS257)).2 91 (by decide)) (((Ch.tr (Ch.tr (Ch.tr (Ch.tr (Ch.tr (Ch.tr hS14 hS21) hS174) hS203) hS211) hS221) hS257)).2 59 (by decide)) (by omega) (fun i i0 i1 => by
                    have q := n221_1.2.2.1 (60 + i)
                    have q1 : S211.2 67 2 = S.2 67 2 := congrFun (((Ch.tr (Ch.tr (Ch.tr (Ch.tr hS14 hS21) hS174) hS203) hS211)).2 67 (by decide)) _
                    have q2 : S211.2 68 (60 + i) = S.2 68 (60 + i) := congrFun (((Ch.tr (Ch.tr (Ch.tr (Ch.tr hS14 hS21) hS174) hS203) hS211)).2 68 (by decide)) _
                    have q3 : S257.2 68 (60 + i) = S221.2 68 (60 + i) := congrFun ((hS257).2 68 (by decide)) _
                    omega))⟩
                      · have ex : x = S.2 99 (S.2 88 a1) := by omega
                        have ey : y = r102 := by omega
                        rw [ex, ey, hk2, h59, hvk]
                        unfold tyV
                        omega
                      · have ex : x = S.2 99 (S.2 88 a1) := by omega
                        have ey : y = r102 := by omega
                        rw [ex, ey, hk2, h59] at k3
                        omega
                      · by_cases h5 : S257.2 98 a1 = 5
                        · refine Or.inr ⟨by omega, Or.inr ⟨by omega, by omega, Or.inr ?_⟩⟩
                          unfold rk
                          rw [show S257.2 100 a1 = 4 * (60 + S.2 99 (S.2 88 a1)) + r102 by omega, show (4 * (60 + S.2 99 (S.2 88 a1)) + r102 - 240) / 4 = S.2 99 (S.2 88 a1) by omega, show (4 * (60 + S.2 99 (S.2 88 a1)) + r102 - 240) % 4 = r102 by omega, show S257.2 68 = S221.2 68 from ((hS257).2 68 (by decide)), hk2, show S257.2 59 = S.2 59 from (((Ch.tr (Ch.tr (Ch.tr (Ch.tr (Ch.tr (Ch.tr hS14 hS21) hS174) hS203) hS211) hS221) hS257)).2 59 (by decide))]
                          omega
                        · exact Or.inl h5) (((FR.re (((Ch.tr (Ch.tr (Ch.tr (Ch.tr hS14 hS21) hS174) hS203) hS211)).2 67 (by decide)) (((Ch.tr (Ch.tr (Ch.tr (Ch.tr hS14 hS21) hS174) hS203) hS211)).2 68 (by decide)) (((Ch.tr (Ch.tr (Ch.tr (Ch.tr hS14 hS21) hS174) hS203) hS211)).2 69 (by decide)) (((Ch.tr (Ch.tr (Ch.tr (Ch.tr hS14 hS21) hS174) hS203) hS211)).2 70 (by decide))).tr (n221_1.fr (by have q : S211.2 67 2 = S.2 67 2 := congrFun (((Ch.tr (Ch.tr (Ch.tr (Ch.tr hS14 hS21) hS174) hS203) hS211)).2 67 (by decide)) _; omega))).tr ⟨fun x => Or.inr (congrFun ((hS257).2 67 (by decide)) _), fun x => Or.inr (congrFun ((hS257).2 68 (by decide)) _), fun x => by have q := hv9 x; omega, fun x => Or.inr (congrFun ((hS257).2 70 (by decide)) _)⟩) (by
                    intro x
                    have e496 : S257.2 98 x = S221.2 98 x := congrFun (hS257.2 98 (by decide)) _
                    have e497 := n221_3 x
                    have e498 : S211.2 98 x = S203.2 98 x := congrFun (hS211.2 98 (by decide)) _
                    have e499 : S203.2 98 x = S174.2 98 x := congrFun (hS203.2 98 (by decide)) _
                    have e500 : S174.2 98 x = S21.2 98 x := congrFun (hS174.2 98 (by decide)) _
                    have e501 : S21.2 98 x = S14.2 98 x := congrFun (hS21.2 98 (by decide)) _
                    have e502 := hS14v x
                    omega) (by omega)
            · refine ⟨by omega, by omega, ?_⟩
              intro q503
              first | have e504 : S221.2 99 (a1) = S211.2 99 (a1) := by have q := n221_4 (a1); omega | have e504 := n221_4 (a1)
              have e505 : S211.2 99 (a1) = S203.2 99 (a1) := congrFun (hS211.2 99 (by decide)) _
              have e506 : S203.2 99 (a1) = S174.2 99 (a1) := congrFun (hS203.2 99 (by decide)) _
              have e507 : S174.2 99 (a1) = S21.2 99 (a1) := congrFun (hS174.2 99 (by decide)) _
              have e508 : S21.2 99 (a1) = S14.2 99 (a1) := congrFun (hS21.2 99 (by decide)) _
              have e509 : S14.2 99 (a1) = S.2 99 (a1) := congrFun (hS14.2 99 (by decide)) _
              refine ⟨by omega, by omega, ?_⟩
              refine ⟨by omega, ?_⟩
              intro S257 hS257e
              have hS257 : Ch [] [69] S221 S257 := Ch_A hS257e
              have hS257v : ∀ x, (x = S221.2 100 (a1) ∧ S257.2 69 x = S221.2 99 (a1)) ∨ (¬ x = S221.2 100 (a1) ∧ S257.2 69 x = S221.2 69 x) := pA_at hS257e
              refine ⟨by omega, ?_⟩
              have e510 : S257.2 98 a1 = S221.2 98 a1 := congrFun (hS257.2 98 (by decide)) _
              first | have e511 : S221.2 98 a1 = S211.2 98 a1 := by have q := n221_3 a1; omega | have e511 := n221_3 a1
              have e512 : S211.2 98 a1 = S203.2 98 a1 := congrFun (hS211.2 98 (by decide)) _
              have e513 : S203.2 98 a1 = S174.2 98 a1 := congrFun (hS203.2 98 (by decide)) _
              have e514 : S174.2 98 a1 = S21.2 98 a1 := congrFun (hS174.2 98 (by decide)) _
              have e515 : S21.2 98 a1 = S14.2 98 a1 := congrFun (hS21.2 98 (by decide)) _
              have e516 : S14.2 98 a1 = ((-2)) := by have q := hS14v a1; omega
              have e517 : S257.2 98 a1 = S221.2 98 a1 := congrFun (hS257.2 98 (by decide)) _
              first | have e518 : S221.2 98 a1 = S211.2 98 a1 := by have q := n221_3 a1; omega | have e518 := n221_3 a1
              have e519 : S211.2 98 a1 = S203.2 98 a1 := congrFun (hS211.2 98 (by decide)) _
              have e520 : S203.2 98 a1 = S174.2 98 a1 := congrFun (hS203.2 98 (by decide)) _
              have e521 : S174.2 98 a1 = S21.2 98 a1 := congrFun (hS174.2 98 (by decide)) _
              have e522 : S21.2 98 a1 = S14.2 98 a1 := congrFun (hS21.2 98 (by decide)) _
              have e523 : S14.2 98 a1 = ((-2)) := by have q := hS14v a1; omega
              have e524 : S257.2 99 a1 = S221.2 99 a1 := congrFun (hS257.2 99 (by decide)) _
              first | have e525 : S221.2 99 a1 = S211.2 99 a1 := by have q := n221_4 a1; omega | have e525 := n221_4 a1
              have e526 : S211.2 99 a1 = S203.2 99 a1 := congrFun (hS211.2 99 (by decide)) _
              have e527 : S203.2 99 a1 = S174.2 99 a1 := congrFun (hS203.2 99 (by decide)) _
              have e528 : S174.2 99 a1 = S21.2 99 a1 := congrFun (hS174.2 99 (by decide)) _
              have e529 : S21.2 99 a1 = S14.2 99 a1 := congrFun (hS21.2 99 (by decide)) _
              have e530 : S14.2 99 a1 = S.2 99 a1 := congrFun (hS14.2 99 (by decide)) _
              have e531 : S257.2 100 a1 = S221.2 100 a1 := congrFun (hS257.2 100 (by decide)) _
              have e532 : S221.2 100 a1 = S211.2 100 a1 := congrFun (hS221.2 100 (by decide)) _
              have e533 : S211.2 100 a1 = S203.2 100 a1 := congrFun (hS211.2 100 (by decide)) _
              have e534 : S203.2 100 a1 = (((4 * (60 + (S21.2 99 ((S.2 88 (a1)))))) + r102)) := by have q := hS203v a1; omega
              have e535 : S174.2 100 a1 = S21.2 100 a1 := congrFun (hS174.2 100 (by decide)) _
              have e536 : S21.2 100 a1 = S14.2 100 a1 := congrFun (hS21.2 100 (by decide)) _
              have e537 : S14.2 100 a1 = S.2 100 a1 := congrFun (hS14.2 100 (by decide)) _
              have e538 : S257.2 101 a1 = S221.2 101 a1 := congrFun (hS257.2 101 (by decide)) _
              have e539 : S221.2 101 a1 = S211.2 101 a1 := congrFun (hS221.2 101 (by decide)) _
              have e540 : S211.2 101 a1 = ((-2)) := by have q := hS211v a1; omega
              have e541 : S203.2 101 a1 = S174.2 101 a1 := congrFun (hS203.2 101 (by decide)) _
              have e542 : S174.2 101 a1 = S21.2 101 a1 := congrFun (hS174.2 101 (by decide)) _
              have e543 : S21.2 101 a1 = S14.2 101 a1 := congrFun (hS21.2 101 (by decide)) _
              have e544 : S14.2 101 a1 = S.2 101 a1 := congrFun (hS14.2 101 (by decide)) _
              have e545 : S257.2 91 a1 = S221.2 91 a1 := congrFun (hS257.2 91 (by decide)) _
              have e546 : S221.2 91 a1 = S211.2 91 a1 := congrFun (hS221.2 91 (by decide)) _
              have e547 : S211.2 91 a1 = S203.2 91 a1 := congrFun (hS211.2 91 (by decide)) _
              have e548 : S203.2 91 a1 = S174.2 91 a1 := congrFun (hS203.2 91 (by decide)) _
              have e549 : S174.2 91 a1 = S21.2 91 a1 := congrFun (hS174.2 91 (by decide)) _
              have e550 : S21.2 91 a1 = S14.2 91 a1 := congrFun (hS21.2 91 (by decide)) _
              have e551 : S14.2 91 a1 = S.2 91 a1 := congrFun (hS14.2 91 (by decide)) _
              have e552 : S257.1 54 43 = S221.1 54 43 := hS257.1 43 (by decide)
              have e553 : S221.1 54 43 = S211.1 54 43 := hS221.1 43 (by decide)
              have e554 : S211.1 54 43 = S203.1 54 43 := hS211.1 43 (by decide)
              have e555 : S203.1 54 43 = S174.1 54 43 := hS203.1 43 (by decide)
              have e556 : S174.1 54 43 = S21.1 54 43 := hS174.1 43 (by decide)
              have e557 : S21.1 54 43 = S14.1 54 43 := hS21.1 43 (by decide)
              have e558 : S14.1 54 43 = S.1 54 43 := hS14.1 43 (by decide)
              have e559 : S257.2 88 (a1 + 1) = S221.2 88 (a1 + 1) := congrFun (hS257.2 88 (by decide)) _
              have e560 : S221.2 88 (a1 + 1) = S211.2 88 (a1 + 1) := congrFun (hS221.2 88 (by decide)) _
              have e561 : S211.2 88 (a1 + 1) = S203.2 88 (a1 + 1) := congrFun (hS211.2 88 (by decide)) _
              have e562 : S203.2 88 (a1 + 1) = S174.2 88 (a1 + 1) := congrFun (hS203.2 88 (by decide)) _
              have e563 : S174.2 88 (a1 + 1) = S21.2 88 (a1 + 1) := congrFun (hS174.2 88 (by decide)) _
              have e564 : S21.2 88 (a1 + 1) = S14.2 88 (a1 + 1) := congrFun (hS21.2 88 (by decide)) _
              have e565 : S14.2 88 (a1 + 1) = S.2 88 (a1 + 1) := congrFun (hS14.2 88 (by decide)) _
              have hcA : S211.2 67 2 = S.2 67 2 := congrFun (((Ch.tr (Ch.tr (Ch.tr (Ch.tr hS14 hS21) hS174) hS203) hS211)).2 67 (by decide)) _
              have hcB := n221_1.1
              have hcC : S257.2 67 2 = S221.2 67 2 := congrFun ((hS257).2 67 (by decide)) _
              have hOLp : OLg S211 2 60 := p7.mv (((Ch.tr (Ch.tr (Ch.tr (Ch.tr hS14 hS21) hS174) hS203) hS211)).2 59 (by decide)) (((Ch.tr (Ch.tr (Ch.tr (Ch.tr hS14 hS21) hS174) hS203) hS211)).2 67 (by decide)) (((Ch.tr (Ch.tr (Ch.tr (Ch.tr hS14 hS21) hS174) hS203) hS211)).2 68 (by decide)) (((Ch.tr (Ch.tr (Ch.tr (Ch.tr hS14 hS21) hS174) hS203) hS211)).2 69 (by decide)) (((Ch.tr (Ch.tr (Ch.tr (Ch.tr hS14 hS21) hS174) hS203) hS211)).2 70 (by decide))
              have hOKp : OKg S211 2 60 := p6.mv (((Ch.tr (Ch.tr (Ch.tr (Ch.tr hS14 hS21) hS174) hS203) hS211)).2 59 (by decide)) (((Ch.tr (Ch.tr (Ch.tr (Ch.tr hS14 hS21) hS174) hS203) hS211)).2 67 (by decide)) (((Ch.tr (Ch.tr (Ch.tr (Ch.tr hS14 hS21) hS174) hS203) hS211)).2 68 (by decide)) (((Ch.tr (Ch.tr (Ch.tr (Ch.tr hS14 hS21) hS174) hS203) hS211)).2 69 (by decide))
              have hOL2 := OLg_OE hOLp hOKp ((hS221).2 59 (by decide)) n221_1
              have hfo : S221.2 100 a1 = 4 * (60 + S.2 99 (S.2 88 a1)) + r102 := by
                rw [show S221.2 100 = S203.2 100 from (((Ch.tr hS211 hS221)).2 100 (by decide))]
                have q := hS203v a1
                omega
              have hk2 : S221.2 68 (60 + S.2 99 (S.2 88 a1)) = S.2 68 (60 + S.2 99 (S.2 88 a1)) := by
                have q := n221_1.2.2.1 (60 + S.2 99 (S.2 88 a1))
                have q1 : S211.2 67 2 = S.2 67 2 := congrFun (((Ch.tr (Ch.tr (Ch.tr (Ch.tr hS14 hS21) hS174) hS203) hS211)).2 67 (by decide)) _
                have q2 : S211.2 68 (60 + S.2 99 (S.2 88 a1)) = S.2 68 (60 + S.2 99 (S.2 88 a1)) := congrFun (((Ch.tr (Ch.tr (Ch.tr (Ch.tr hS14 hS21) hS174) hS203) hS211)).2 68 (by decide)) _
                omega
              have h59 : S221.2 59 = S.2 59 := (((Ch.tr (Ch.tr (Ch.tr (Ch.tr (Ch.tr hS14 hS21) hS174) hS203) hS211) hS221)).2 59 (by decide))
              have hv9 : ∀ x : Int, x = 4 * (60 + S.2 99 (S.2 88 a1)) + r102 ∨ S257.2 69 x = S221.2 69 x := by
                intro x
                have q := hS257v x
                rw [hfo] at q
                omega
              have hvk : S257.2 69 (4 * (60 + S.2 99 (S.2 88 a1)) + r102) = (S221.2 99 (a1)) := by
                have q := hS257v (4 * (60 + S.2 99 (S.2 88 a1)) + r102)
                rw [hfo] at q
                omega
              exact hK (r221) S257 (Ch.wk (Ch.tr (Ch.tr (Ch.tr (Ch.tr (Ch.tr (Ch.tr hS14 hS21) hS174) hS203) hS211) hS221) hS257) (by decide) (by decide)) (by omega) (by
                    rcases n221_5 with h | h
                    · exact Or.inl h
                    · refine Or.inr ⟨OK_slot n221_2 ((hS257).2 59 (by decide)) ((hS257).2 67 (by decide)) ((hS257).2 68 (by decide)) hv9 (fun x y x0 x1 y0 y1 q => ?_), OL_slot hOL2 n221_2 ((hS257).2 59 (by decide)) ((hS257).2 67 (by decide)) ((hS257).2 68 (by decide)) hv9 (fun x => Or.inr (congrFun ((hS257).2 70 (by decide)) _)) (fun x y z x0 x1 y0 y1 q k3 z0 z1 => ?_), (EA_step p9x (⟨Or.inl (by omega), by omega, ?_, by omega⟩) (by
                    intro x
                    have e566 : S257.2 98 x = S221.2 98 x := congrFun (hS257.2 98 (by decide)) _
                    have e567 := n221_3 x
                    have e568 : S211.2 98 x = S203.2 98 x := congrFun (hS211.2 98 (by decide)) _
                    have e569 : S203.2 98 x = S174.2 98 x := congrFun (hS203.2 98 (by decide)) _
                    have e570 : S174.2 98 x = S21.2 98 x := congrFun (hS174.2 98 (by decide)) _
                    have e571 : S21.2 98 x = S14.2 98 x := congrFun (hS21.2 98 (by decide)) _
                    have e572 := hS14v x
                    omega) (by
                    intro x
                    have e573 : S257.2 99 x = S221.2 99 x := congrFun (hS257.2 99 (by decide)) _
                    have e574 := n221_4 x
                    have e575 : S211.2 99 x = S203.2 99 x := congrFun (hS211.2 99 (by decide)) _
                    have e576 : S203.2 99 x = S174.2 99 x := congrFun (hS203.2 99 (by decide)) _
                    have e577 : S174.2 99 x = S21.2 99 x := congrFun (hS174.2 99 (by decide)) _
                    have e578 : S21.2 99 x = S14.2 99 x := congrFun (hS21.2 99 (by decide)) _
                    have e579 : S14.2 99 x = S.2 99 x := congrFun (hS14.2 99 (by decide)) _
                    omega) (by
                    intro x
                    have e580 : S257.2 100 x = S221.2 100 x := congrFun (hS257.2 100 (by decide)) _
                    have e581 : S221.2 100 x = S211.2 100 x := congrFun (hS221.2 100 (by decide)) _
                    have e582 : S211.2 100 x = S203.2 100 x := congrFun (hS211.2 100 (by decide)) _
                    have e583 := hS203v x
                    have e584 : S174.2 100 x = S21.2 100 x := congrFun (hS174.2 100 (by decide)) _
                    have e585 : S21.2 100 x = S14.2 100 x := congrFun (hS21.2 100 (by decide)) _
                    have e586 : S14.2 100 x = S.2 100 x := congrFun (hS14.2 100 (by decide)) _
                    omega) (by
                    intro x
                    have e587 : S257.2 101 x = S221.2 101 x := congrFun (hS257.2 101 (by decide)) _
                    have e588 : S221.2 101 x = S211.2 101 x := congrFun (hS221.2 101 (by decide)) _
                    have e589 := hS211v x
                    have e590 : S203.2 101 x = S174.2 101 x := congrFun (hS203.2 101 (by decide)) _
                    have e591 : S174.2 101 x = S21.2 101 x := congrFun (hS174.2 101 (by decide)) _
                    have e592 : S21.2 101 x = S14.2 101 x := congrFun (hS21.2 101 (by decide)) _
                    have e593 : S14.2 101 x = S.2 101 x := congrFun (hS14.2 101 (by decide)) _
                    omega) (((Ch.tr (Ch.tr (Ch.tr (Ch.tr (Ch.tr (Ch.tr hS14 hS21) hS174) hS203) hS211) hS221) hS257)).1 43 (by decide)) (((Ch.tr (Ch.tr (Ch.tr (Ch.tr (Ch.tr (Ch.tr hS14 hS21) hS174) hS203) hS211) hS221) hS257)).2 88 (by decide)) (((Ch.tr (Ch.tr (Ch.tr (Ch.tr (Ch.tr (Ch.tr hS14 hS21) hS174) hS203) hS211) hS221) hS257)).2 91 (by decide)) (((Ch.tr (Ch.tr (Ch.tr (Ch.tr (Ch.tr (Ch.tr hS14 hS21) hS174) hS203) hS211) hS221) hS257)).2 59 (by decide)) (by omega) (fun i i0 i1 => by
                    have q := n221_1.2.2.1 (60 + i)
                    have q1 : S211.2 67 2 = S.2 67 2 := congrFun (((Ch.tr (Ch.tr (Ch.tr (Ch.tr hS14 hS21) hS174) hS203) hS211)).2 67 (by decide)) _
                    have q2 : S211.2 68 (60 + i) = S.2 68 (60 + i) := congrFun (((Ch.tr (Ch.tr (Ch.tr (Ch.tr hS14 hS21) hS174) hS203) hS211)).2 68 (by decide)) _
                    have q3 : S257.2 68 (60 + i) = S221.2 68 (60 + i) := congrFun ((hS257).2 68 (by decide)) _
                    omega))⟩
                      · have ex : x = S.2 99 (S.2 88 a1) := by omega
                        have ey : y = r102 := by omega
                        rw [ex, ey, hk2, h59, hvk]
                        unfold tyV
                        omega
                      · have ex : x = S.2 99 (S.2 88 a1) := by omega
                        have ey : y = r102 := by omega
                        rw [ex, ey, hk2, h59] at k3
                        omega
                      · by_cases h5 : S257.2 98 a1 = 5
                        · refine Or.inr ⟨by omega, Or.inr ⟨by omega, by omega, Or.inr ?_⟩⟩
                          unfold rk
                          rw [show S257.2 100 a1 = 4 * (60 + S.2 99 (S.2 88 a1)) + r102 by omega, show (4 * (60 + S.2 99 (S.2 88 a1)) + r102 - 240) / 4 = S.2 99 (S.2 88 a1) by omega, show (4 * (60 + S.2 99 (S.2 88 a1)) + r102 - 240) % 4 = r102 by omega, show S257.2 68 = S221.2 68 from ((hS257).2 68 (by decide)), hk2, show S257.2 59 = S.2 59 from (((Ch.tr (Ch.tr (Ch.tr (Ch.tr (Ch.tr (Ch.tr hS14 hS21) hS174) hS203) hS211) hS221) hS257)).2 59 (by decide))]
                          omega
                        · exact Or.inl h5) (((FR.re (((Ch.tr (Ch.tr (Ch.tr (Ch.tr hS14 hS21) hS174) hS203) hS211)).2 67 (by decide)) (((Ch.tr (Ch.tr (Ch.tr (Ch.tr hS14 hS21) hS174) hS203) hS211)).2 68 (by decide)) (((Ch.tr (Ch.tr (Ch.tr (Ch.tr hS14 hS21) hS174) hS203) hS211)).2 69 (by decide)) (((Ch.tr (Ch.tr (Ch.tr (Ch.tr hS14 hS21) hS174) hS203) hS211)).2 70 (by decide))).tr (n221_1.fr (by have q : S211.2 67 2 = S.2 67 2 := congrFun (((Ch.tr (Ch.tr (Ch.tr (Ch.tr hS14 hS21) hS174) hS203) hS211)).2 67 (by decide)) _; omega))).tr ⟨fun x => Or.inr (congrFun ((hS257).2 67 (by decide)) _), fun x => Or.inr (congrFun ((hS257).2 68 (by decide)) _), fun x => by have q := hv9 x; omega, fun x => Or.inr (congrFun ((hS257).2 70 (by decide)) _)⟩) (by
                    intro x
                    have e594 : S257.2 98 x = S221.2 98 x := congrFun (hS257.2 98 (by decide)) _
                    have e595 := n221_3 x
                    have e596 : S211.2 98 x = S203.2 98 x := congrFun (hS211.2 98 (by decide)) _
                    have e597 : S203.2 98 x = S174.2 98 x := congrFun (hS203.2 98 (by decide)) _
                    have e598 : S174.2 98 x = S21.2 98 x := congrFun (hS174.2 98 (by decide)) _
                    have e599 : S21.2 98 x = S14.2 98 x := congrFun (hS21.2 98 (by decide)) _
                    have e600 := hS14v x
                    omega) (by omega)
        · have e601 : S21.2 98 a1 = S14.2 98 a1 := congrFun (hS21.2 98 (by decide)) _
          have e602 : S14.2 98 a1 = ((-2)) := by have q := hS14v a1; omega
          exact hK (0) S21 (Ch.wk (Ch.tr hS14 hS21) (by decide) (by decide)) (by omega) (Or.inl rfl) (FR.re (((Ch.tr hS14 hS21)).2 67 (by decide)) (((Ch.tr hS14 hS21)).2 68 (by decide)) (((Ch.tr hS14 hS21)).2 69 (by decide)) (((Ch.tr hS14 hS21)).2 70 (by decide))) (by
                intro x
                have e603 : S21.2 98 x = S14.2 98 x := congrFun (hS21.2 98 (by decide)) _
                have e604 := hS14v x
                omega) (by omega)
      · have e605 : S21.2 59 (4 * ((S21.2 68 ((60 + (S21.2 99 ((S.2 88 (a1)))))))) + r) = S14.2 59 (4 * ((S21.2 68 ((60 + (S21.2 99 ((S.2 88 (a1)))))))) + r) := congrFun (hS21.2 59 (by decide)) _
        have e606 : S14.2 59 (4 * ((S21.2 68 ((60 + (S21.2 99 ((S.2 88 (a1)))))))) + r) = S.2 59 (4 * ((S21.2 68 ((60 + (S21.2 99 ((S.2 88 (a1)))))))) + r) := congrFun (hS14.2 59 (by decide)) _
        refine tX11_implicitOf (by omega) (fun r117 n117_0 n117_1 => ?_)
        refine ⟨by omega, ?_⟩
        refine ⟨fun h126 => ?_, fun h126 => ?_⟩
        · have e607 : S21.2 98 a1 = S14.2 98 a1 := congrFun (hS21.2 98 (by decide)) _
          have e608 : S14.2 98 a1 = ((-2)) := by have q := hS14v a1; omega
          exact hK (0) S21 (Ch.wk (Ch.tr hS14 hS21) (by decide) (by decide)) (by omega) (Or.inl rfl) (FR.re (((Ch.tr hS14 hS21)).2 67 (by decide)) (((Ch.tr hS14 hS21)).2 68 (by decide)) (((Ch.tr hS14 hS21)).2 69 (by decide)) (((Ch.tr hS14 hS21)).2 70 (by decide))) (by
                intro x
                have e609 : S21.2 98 x = S14.2 98 x := congrFun (hS21.2 98 (by decide)) _
                have e610 := hS14v x
                omega) (by omega)
        · have e611 : S21.1 54 43 = S14.1 54 43 := hS21.1 43 (by decide)
          have e612 : S14.1 54 43 = S.1 54 43 := hS14.1 43 (by decide)
          have e613 : S21.1 54 43 = S14.1 54 43 := hS21.1 43 (by decide)
          have e614 : S14.1 54 43 = S.1 54 43 := hS14.1 43 (by decide)
          have e615 : S21.1 54 51 = S14.1 54 51 := hS21.1 51 (by decide)
          have e616 : S14.1 54 51 = S.1 54 51 := hS14.1 51 (by decide)
          have e617 : S21.2 67 2 = S14.2 67 2 := congrFun (hS21.2 67 (by decide)) _
          have e618 : S14.2 67 2 = S.2 67 2 := congrFun (hS14.2 67 (by decide)) _
          have e619 : S21.1 54 56 = S14.1 54 56 := hS21.1 56 (by decide)
          have e620 : S14.1 54 56 = S.1 54 56 := hS14.1 56 (by decide)
          have e621 : S21.2 67 2 = S14.2 67 2 := congrFun (hS21.2 67 (by decide)) _
          have e622 : S14.2 67 2 = S.2 67 2 := congrFun (hS14.2 67 (by decide)) _
          have e623 : S21.2 59 (4 * (S21.2 68) (60 + ((S21.2 99 ((S.2 88 (a1)))))) + (r117)) = S14.2 59 (4 * (S21.2 68) (60 + ((S21.2 99 ((S.2 88 (a1)))))) + (r117)) := congrFun (hS21.2 59 (by decide)) _
          have e624 : S14.2 59 (4 * (S21.2 68) (60 + ((S21.2 99 ((S.2 88 (a1)))))) + (r117)) = S.2 59 (4 * (S21.2 68) (60 + ((S21.2 99 ((S.2 88 (a1)))))) + (r117)) := congrFun (hS14.2 59 (by decide)) _
          have e625 : S21.2 68 (60 + ((S21.2 99 ((S.2 88 (a1)))))) = S14.2 68 (60 + ((S21.2 99 ((S.2 88 (a1)))))) := congrFun (hS21.2 68 (by decide)) _
          have e626 : S14.2 68 (60 + ((S21.2 99 ((S.2 88 (a1)))))) = S.2 68 (60 + ((S21.2 99 ((S.2 88 (a1)))))) := congrFun (hS14.2 68 (by decide)) _
          have e627 : S21.2 67 2 = S14.2 67 2 := congrFun (hS21.2 67 (by decide)) _
          have e628 : S14.2 67 2 = S.2 67 2 := congrFun (hS14.2 67 (by decide)) _
          have e629 : S21.2 67 2 = S14.2 67 2 := congrFun (hS21.2 67 (by decide)) _
          have e630 : S14.2 67 2 = S.2 67 2 := congrFun (hS14.2 67 (by decide)) _
          have e631 : S21.2 68 (60 + i) = S14.2 68 (60 + i) := congrFun (hS21.2 68 (by decide)) _
          have e632 : S14.2 68 (60 + i) = S.2 68 (60 + i) := congrFun (hS14.2 68 (by decide)) _
          have e633 : S21.2 91 (a1) = S14.2 91 (a1) := congrFun (hS21.2 91 (by decide)) _
          have e634 : S14.2 91 (a1) = S.2 91 (a1) := congrFun (hS14.2 91 (by decide)) _
          have e635 : S21.1 54 43 = S14.1 54 43 := hS21.1 43 (by decide)
          have e636 : S14.1 54 43 = S.1 54 43 := hS14.1 43 (by decide)
          have e637 : S21.2 88 ((a1) + 1) = S14.2 88 ((a1) + 1) := congrFun (hS21.2 88 (by decide)) _
          have e638 : S14.2 88 ((a1) + 1) = S.2 88 ((a1) + 1) := congrFun (hS14.2 88 (by decide)) _
          refine tX11_isListed (by omega) (by omega) (by omega) (by omega) (by omega) (by omega) (by omega) (by omega) (by omega) (by omega) (by omega) (by omega) (by omega) (fun r134 S134 hS134 n134_0 n134_1 n134_2 n134_3 n134_4 n134_5 n134_6 n134_7 n134_8 n134_9 n134_10 => ?_)
          refine ⟨by omega, ?_⟩
          refine ⟨fun h137 => ?_, fun h137 => ?_⟩
          · first | have e639 : S134.2 98 a1 = S21.2 98 a1 := by have q := n134_5 a1; omega | have e639 := n134_5 a1
            have e640 : S21.2 98 a1 = S14.2 98 a1 := congrFun (hS21.2 98 (by decide)) _
            have e641 : S14.2 98 a1 = ((-2)) := by have q := hS14v a1; omega
            exact hK (0) S134 (Ch.wk (Ch.tr (Ch.tr hS14 hS21) hS134) (by decide) (by decide)) (by omega) (Or.inl rfl) ((FR.re (((Ch.tr hS14 hS21)).2 67 (by decide)) (((Ch.tr hS14 hS21)).2 68 (by decide)) (((Ch.tr hS14 hS21)).2 69 (by decide)) (((Ch.tr hS14 hS21)).2 70 (by decide))).tr n134_2) (by
                  intro x
                  have e642 := n134_5 x
                  have e643 : S21.2 98 x = S14.2 98 x := congrFun (hS21.2 98 (by decide)) _
                  have e644 := hS14v x
                  omega) (by omega)
          · first | have e645 : S134.2 98 a1 = S21.2 98 a1 := by have q := n134_5 a1; omega | have e645 := n134_5 a1
            have e646 : S21.2 98 a1 = S14.2 98 a1 := congrFun (hS21.2 98 (by decide)) _
            have e647 : S14.2 98 a1 = ((-2)) := by have q := hS14v a1; omega
            first | have e648 : S134.2 98 a1 = S21.2 98 a1 := by have q := n134_5 a1; omega | have e648 := n134_5 a1
            have e649 : S21.2 98 a1 = S14.2 98 a1 := congrFun (hS21.2 98 (by decide)) _
            have e650 : S14.2 98 a1 = ((-2)) := by have q := hS14v a1; omega
            first | have e651 : S134.2 99 a1 = S21.2 99 a1 := by have q := n134_6 a1; omega | have e651 := n134_6 a1
            have e652 : S21.2 99 a1 = S14.2 99 a1 := congrFun (hS21.2 99 (by decide)) _
            have e653 : S14.2 99 a1 = S.2 99 a1 := congrFun (hS14.2 99 (by decide)) _
            first | have e654 : S134.2 100 a1 = S21.2 100 a1 := by have q := n134_7 a1; omega | have e654 := n134_7 a1
            have e655 : S21.2 100 a1 = S14.2 100 a1 := congrFun (hS21.2 100 (by decide)) _
            have e656 : S14.2 100 a1 = S.2 100 a1 := congrFun (hS14.2 100 (by decide)) _
            first | have e657 : S134.2 101 a1 = S21.2 101 a1 := by have q := n134_8 a1; omega | have e657 := n134_8 a1
            have e658 : S21.2 101 a1 = S14.2 101 a1 := congrFun (hS21.2 101 (by decide)) _
            have e659 : S14.2 101 a1 = S.2 101 a1 := congrFun (hS14.2 101 (by decide)) _
            have e660 : S134.2 91 a1 = S21.2 91 a1 := congrFun (hS134.2 91 (by decide)) _
            have e661 : S21.2 91 a1 = S14.2 91 a1 := congrFun (hS21.2 91 (by decide)) _
            have e662 : S14.2 91 a1 = S.2 91 a1 := congrFun (hS14.2 91 (by decide)) _
            have e663 : S134.1 54 43 = S21.1 54 43 := hS134.1 43 (by decide)
            have e664 : S21.1 54 43 = S14.1 54 43 := hS21.1 43 (by decide)
            have e665 : S14.1 54 43 = S.1 54 43 := hS14.1 43 (by decide)
            have e666 : S134.2 88 (a1 + 1) = S21.2 88 (a1 + 1) := congrFun (hS134.2 88 (by decide)) _
            have e667 : S21.2 88 (a1 + 1) = S14.2 88 (a1 + 1) := congrFun (hS21.2 88 (by decide)) _
            have e668 : S14.2 88 (a1 + 1) = S.2 88 (a1 + 1) := congrFun (hS14.2 88 (by decide)) _
            have hcA : S21.2 67 2 = S.2 67 2 := congrFun (((Ch.tr hS14 hS21)).2 67 (by decide)) _
            have hcB := n134_3
            exact hK (1) S134 (Ch.wk (Ch.tr (Ch.tr hS14 hS21) hS134) (by decide) (by decide)) (by omega) (by
                  rcases n134_1 with h | h
                  · exact Or.inl (by omega)
                  · rcases n134_9 with h2 | h2
                    · exact Or.inl (by omega)
                    · rcases n134_10 with h3 | h3
                      · exact Or.inl (by omega)
                      · exact Or.inr ⟨h.1, h.2, (EA_step p9x (⟨Or.inl (by omega), by omega, by omega, by omega⟩) (by
                  intro x
                  have e669 := n134_5 x
                  have e670 : S21.2 98 x = S14.2 98 x := congrFun (hS21.2 98 (by decide)) _
                  have e671 := hS14v x
                  omega) (by
                  intro x
                  have e672 := n134_6 x
                  have e673 : S21.2 99 x = S14.2 99 x := congrFun (hS21.2 99 (by decide)) _
                  have e674 : S14.2 99 x = S.2 99 x := congrFun (hS14.2 99 (by decide)) _
                  omega) (by
                  intro x
                  have e675 := n134_7 x
                  have e676 : S21.2 100 x = S14.2 100 x := congrFun (hS21.2 100 (by decide)) _
                  have e677 : S14.2 100 x = S.2 100 x := congrFun (hS14.2 100 (by decide)) _
                  omega) (by
                  intro x
                  have e678 := n134_8 x
                  have e679 : S21.2 101 x = S14.2 101 x := congrFun (hS21.2 101 (by decide)) _
                  have e680 : S14.2 101 x = S.2 101 x := congrFun (hS14.2 101 (by decide)) _
                  omega) (((Ch.tr (Ch.tr hS14 hS21) hS134)).1 43 (by decide)) (((Ch.tr (Ch.tr hS14 hS21) hS134)).2 88 (by decide)) (((Ch.tr (Ch.tr hS14 hS21) hS134)).2 91 (by decide)) (((Ch.tr (Ch.tr hS14 hS21) hS134)).2 59 (by decide)) (by omega) (fun i i0 i1 => by
                  have q := n134_4 i
                  have q1 : S21.2 67 2 = S.2 67 2 := congrFun (((Ch.tr hS14 hS21)).2 67 (by decide)) _
                  have q2 : S21.2 68 (60 + i) = S.2 68 (60 + i) := congrFun (((Ch.tr hS14 hS21)).2 68 (by decide)) _
                  omega))⟩) ((FR.re (((Ch.tr hS14 hS21)).2 67 (by decide)) (((Ch.tr hS14 hS21)).2 68 (by decide)) (((Ch.tr hS14 hS21)).2 69 (by decide)) (((Ch.tr hS14 hS21)).2 70 (by decide))).tr n134_2) (by
                  intro x
                  have e681 := n134_5 x
                  have e682 : S21.2 98 x = S14.2 98 x := congrFun (hS21.2 98 (by decide)) _
                  have e683 := hS14v x
                  omega) (by omega)
    · refine ⟨by omega, by omega, ?_⟩
      intro q684
      have e685 : S21.2 100 ((S.2 88 (a1))) = S14.2 100 ((S.2 88 (a1))) := congrFun (hS21.2 100 (by decide)) _
      have e686 : S14.2 100 ((S.2 88 (a1))) = S.2 100 ((S.2 88 (a1))) := congrFun (hS14.2 100 (by decide)) _
      refine ⟨by omega, ?_⟩
      have e687 : S21.1 54 43 = S14.1 54 43 := hS21.1 43 (by decide)
      have e688 : S14.1 54 43 = S.1 54 43 := hS14.1 43 (by decide)
      have e689 : S21.1 54 43 = S14.1 54 43 := hS21.1 43 (by decide)
      have e690 : S14.1 54 43 = S.1 54 43 := hS14.1 43 (by decide)
      have e691 : S21.1 54 51 = S14.1 54 51 := hS21.1 51 (by decide)
      have e692 : S14.1 54 51 = S.1 54 51 := hS14.1 51 (by decide)
      have e693 : S21.2 67 2 = S14.2 67 2 := congrFun (hS21.2 67 (by decide)) _
      have e694 : S14.2 67 2 = S.2 67 2 := congrFun (hS14.2 67 (by decide)) _
      have e695 : S21.1 54 56 = S14.1 54 56 := hS21.1 56 (by decide)
      have e696 : S14.1 54 56 = S.1 54 56 := hS14.1 56 (by decide)
      have e697 : S21.2 67 2 = S14.2 67 2 := congrFun (hS21.2 67 (by decide)) _
      have e698 : S14.2 67 2 = S.2 67 2 := congrFun (hS14.2 67 (by decide)) _
      have e699 : S21.2 59 (4 * (S21.2 68) (60 + ((S21.2 99 ((S.2 88 (a1)))))) + ((S21.2 100 ((S.2 88 (a1))) - Int.tdiv (S21.2 100 ((S.2 88 (a1)))) (4) * 4))) = S14.2 59 (4 * (S21.2 68) (60 + ((S21.2 99 ((S.2 88 (a1)))))) + ((S21.2 100 ((S.2 88 (a1))) - Int.tdiv (S21.2 100 ((S.2 88 (a1)))) (4) * 4))) := congrFun (hS21.2 59 (by decide)) _
      have e700 : S14.2 59 (4 * (S21.2 68) (60 + ((S21.2 99 ((S.2 88 (a1)))))) + ((S21.2 100 ((S.2 88 (a1))) - Int.tdiv (S21.2 100 ((S.2 88 (a1)))) (4) * 4))) = S.2 59 (4 * (S21.2 68) (60 + ((S21.2 99 ((S.2 88 (a1)))))) + ((S21.2 100 ((S.2 88 (a1))) - Int.tdiv (S21.2 100 ((S.2 88 (a1)))) (4) * 4))) := congrFun (hS14.2 59 (by decide)) _
      have e701 : S21.2 68 (60 + ((S21.2 99 ((S.2 88 (a1)))))) = S14.2 68 (60 + ((S21.2 99 ((S.2 88 (a1)))))) := congrFun (hS21.2 68 (by decide)) _
      have e702 : S14.2 68 (60 + ((S21.2 99 ((S.2 88 (a1)))))) = S.2 68 (60 + ((S21.2 99 ((S.2 88 (a1)))))) := congrFun (hS14.2 68 (by decide)) _
      have e703 : S21.2 67 2 = S14.2 67 2 := congrFun (hS21.2 67 (by decide)) _
      have e704 : S14.2 67 2 = S.2 67 2 := congrFun (hS14.2 67 (by decide)) _
      have e705 : S21.2 67 2 = S14.2 67 2 := congrFun (hS21.2 67 (by decide)) _
      have e706 : S14.2 67 2 = S.2 67 2 := congrFun (hS14.2 67 (by decide)) _
      have e707 : S21.2 68 (60 + i) = S14.2 68 (60 + i) := congrFun (hS21.2 68 (by decide)) _
      have e708 : S14.2 68 (60 + i) = S.2 68 (60 + i) := congrFun (hS14.2 68 (by decide)) _
      have e709 : S21.2 91 (a1) = S14.2 91 (a1) := congrFun (hS21.2 91 (by decide)) _
      have e710 : S14.2 91 (a1) = S.2 91 (a1) := congrFun (hS14.2 91 (by decide)) _
      have e711 : S21.1 54 43 = S14.1 54 43 := hS21.1 43 (by decide)
      have e712 : S14.1 54 43 = S.1 54 43 := hS14.1 43 (by decide)
      have e713 : S21.2 88 ((a1) + 1) = S14.2 88 ((a1) + 1) := congrFun (hS21.2 88 (by decide)) _
      have e714 : S14.2 88 ((a1) + 1) = S.2 88 ((a1) + 1) := congrFun (hS14.2 88 (by decide)) _
      refine tX11_isListed (by omega) (by omega) (by omega) (by omega) (by omega) (by omega) (by omega) (by omega) (by omega) (by omega) (by omega) (by omega) (by omega) (fun r71 S71 hS71 n71_0 n71_1 n71_2 n71_3 n71_4 n71_5 n71_6 n71_7 n71_8 n71_9 n71_10 => ?_)
      refine ⟨by omega, ?_⟩
      first | have e715 : S71.2 98 a1 = S21.2 98 a1 := by have q := n71_5 a1; omega | have e715 := n71_5 a1
      have e716 : S21.2 98 a1 = S14.2 98 a1 := congrFun (hS21.2 98 (by decide)) _
      have e717 : S14.2 98 a1 = ((-2)) := by have q := hS14v a1; omega
      first | have e718 : S71.2 98 a1 = S21.2 98 a1 := by have q := n71_5 a1; omega | have e718 := n71_5 a1
      have e719 : S21.2 98 a1 = S14.2 98 a1 := congrFun (hS21.2 98 (by decide)) _
      have e720 : S14.2 98 a1 = ((-2)) := by have q := hS14v a1; omega
      first | have e721 : S71.2 99 a1 = S21.2 99 a1 := by have q := n71_6 a1; omega | have e721 := n71_6 a1
      have e722 : S21.2 99 a1 = S14.2 99 a1 := congrFun (hS21.2 99 (by decide)) _
      have e723 : S14.2 99 a1 = S.2 99 a1 := congrFun (hS14.2 99 (by decide)) _
      first | have e724 : S71.2 100 a1 = S21.2 100 a1 := by have q := n71_7 a1; omega | have e724 := n71_7 a1
      have e725 : S21.2 100 a1 = S14.2 100 a1 := congrFun (hS21.2 100 (by decide)) _
      have e726 : S14.2 100 a1 = S.2 100 a1 := congrFun (hS14.2 100 (by decide)) _
      first | have e727 : S71.2 101 a1 = S21.2 101 a1 := by have q := n71_8 a1; omega | have e727 := n71_8 a1
      have e728 : S21.2 101 a1 = S14.2 101 a1 := congrFun (hS21.2 101 (by decide)) _
      have e729 : S14.2 101 a1 = S.2 101 a1 := congrFun (hS14.2 101 (by decide)) _
      have e730 : S71.2 91 a1 = S21.2 91 a1 := congrFun (hS71.2 91 (by decide)) _
      have e731 : S21.2 91 a1 = S14.2 91 a1 := congrFun (hS21.2 91 (by decide)) _
      have e732 : S14.2 91 a1 = S.2 91 a1 := congrFun (hS14.2 91 (by decide)) _
      have e733 : S71.1 54 43 = S21.1 54 43 := hS71.1 43 (by decide)
      have e734 : S21.1 54 43 = S14.1 54 43 := hS21.1 43 (by decide)
      have e735 : S14.1 54 43 = S.1 54 43 := hS14.1 43 (by decide)
      have e736 : S71.2 88 (a1 + 1) = S21.2 88 (a1 + 1) := congrFun (hS71.2 88 (by decide)) _
      have e737 : S21.2 88 (a1 + 1) = S14.2 88 (a1 + 1) := congrFun (hS21.2 88 (by decide)) _
      have e738 : S14.2 88 (a1 + 1) = S.2 88 (a1 + 1) := congrFun (hS14.2 88 (by decide)) _
      have hcA : S21.2 67 2 = S.2 67 2 := congrFun (((Ch.tr hS14 hS21)).2 67 (by decide)) _
      have hcB := n71_3
      exact hK (r71) S71 (Ch.wk (Ch.tr (Ch.tr hS14 hS21) hS71) (by decide) (by decide)) (by omega) (by
            rcases n71_1 with h | h
            · exact Or.inl (by omega)
            · rcases n71_9 with h2 | h2
              · exact Or.inl (by omega)
              · rcases n71_10 with h3 | h3
                · exact Or.inl (by omega)
                · exact Or.inr ⟨h.1, h.2, (EA_step p9x (⟨Or.inl (by omega), by omega, by omega, by omega⟩) (by
            intro x
            have e739 := n71_5 x
            have e740 : S21.2 98 x = S14.2 98 x := congrFun (hS21.2 98 (by decide)) _
            have e741 := hS14v x
            omega) (by
            intro x
            have e742 := n71_6 x
            have e743 : S21.2 99 x = S14.2 99 x := congrFun (hS21.2 99 (by decide)) _
            have e744 : S14.2 99 x = S.2 99 x := congrFun (hS14.2 99 (by decide)) _
            omega) (by
            intro x
            have e745 := n71_7 x
            have e746 : S21.2 100 x = S14.2 100 x := congrFun (hS21.2 100 (by decide)) _
            have e747 : S14.2 100 x = S.2 100 x := congrFun (hS14.2 100 (by decide)) _
            omega) (by
            intro x
            have e748 := n71_8 x
            have e749 : S21.2 101 x = S14.2 101 x := congrFun (hS21.2 101 (by decide)) _
            have e750 : S14.2 101 x = S.2 101 x := congrFun (hS14.2 101 (by decide)) _
            omega) (((Ch.tr (Ch.tr hS14 hS21) hS71)).1 43 (by decide)) (((Ch.tr (Ch.tr hS14 hS21) hS71)).2 88 (by decide)) (((Ch.tr (Ch.tr hS14 hS21) hS71)).2 91 (by decide)) (((Ch.tr (Ch.tr hS14 hS21) hS71)).2 59 (by decide)) (by omega) (fun i i0 i1 => by
            have q := n71_4 i
            have q1 : S21.2 67 2 = S.2 67 2 := congrFun (((Ch.tr hS14 hS21)).2 67 (by decide)) _
            have q2 : S21.2 68 (60 + i) = S.2 68 (60 + i) := congrFun (((Ch.tr hS14 hS21)).2 68 (by decide)) _
            omega))⟩) ((FR.re (((Ch.tr hS14 hS21)).2 67 (by decide)) (((Ch.tr hS14 hS21)).2 68 (by decide)) (((Ch.tr hS14 hS21)).2 69 (by decide)) (((Ch.tr hS14 hS21)).2 70 (by decide))).tr n71_2) (by
            intro x
            have e751 := n71_5 x
            have e752 : S21.2 98 x = S14.2 98 x := congrFun (hS21.2 98 (by decide)) _
            have e753 := hS14v x
            omega) (by omega)
  · refine ⟨by omega, by omega, ?_⟩
    intro S35 hS35e
    have hS35 : Ch [] [100] S21 S35 := Ch_A hS35e
    have hS35v : ∀ x, (x = a1 ∧ S35.2 100 x = (-2)) ∨ (¬ x = a1 ∧ S35.2 100 x = S21.2 100 x) := pA_at hS35e
    have e754 : S35.1 54 43 = S21.1 54 43 := hS35.1 43 (by decide)
    have e755 : S21.1 54 43 = S14.1 54 43 := hS21.1 43 (by decide)
    have e756 : S14.1 54 43 = S.1 54 43 := hS14.1 43 (by decide)
    have e757 : S35.1 54 43 = S21.1 54 43 := hS35.1 43 (by decide)
    have e758 : S21.1 54 43 = S14.1 54 43 := hS21.1 43 (by decide)
    have e759 : S14.1 54 43 = S.1 54 43 := hS14.1 43 (by decide)
    have e760 : S35.1 54 51 = S21.1 54 51 := hS35.1 51 (by decide)
    have e761 : S21.1 54 51 = S14.1 54 51 := hS21.1 51 (by decide)
    have e762 : S14.1 54 51 = S.1 54 51 := hS14.1 51 (by decide)
    have e763 : S35.2 67 2 = S21.2 67 2 := congrFun (hS35.2 67 (by decide)) _
    have e764 : S21.2 67 2 = S14.2 67 2 := congrFun (hS21.2 67 (by decide)) _
    have e765 : S14.2 67 2 = S.2 67 2 := congrFun (hS14.2 67 (by decide)) _
    have e766 : S35.1 54 56 = S21.1 54 56 := hS35.1 56 (by decide)
    have e767 : S21.1 54 56 = S14.1 54 56 := hS21.1 56 (by decide)
    have e768 : S14.1 54 56 = S.1 54 56 := hS14.1 56 (by decide)
    have e769 : S35.2 91 (a1) = S21.2 91 (a1) := congrFun (hS35.2 91 (by decide)) _
    have e770 : S21.2 91 (a1) = S14.2 91 (a1) := congrFun (hS21.2 91 (by decide)) _
    have e771 : S14.2 91 (a1) = S.2 91 (a1) := congrFun (hS14.2 91 (by decide)) _
    have e772 : S35.1 54 43 = S21.1 54 43 := hS35.1 43 (by decide)
    have e773 : S21.1 54 43 = S14.1 54 43 := hS21.1 43 (by decide)
    have e774 : S14.1 54 43 = S.1 54 43 := hS14.1 43 (by decide)
    have e775 : S35.2 88 ((a1) + 1) = S21.2 88 ((a1) + 1) := congrFun (hS35.2 88 (by decide)) _
    have e776 : S21.2 88 ((a1) + 1) = S14.2 88 ((a1) + 1) := congrFun (hS21.2 88 (by decide)) _
    have e777 : S14.2 88 ((a1) + 1) = S.2 88 ((a1) + 1) := congrFun (hS14.2 88 (by decide)) _
    refine tX11_isObjectElement (by omega) (by omega) (by omega) (by omega) (by omega) (by omega) (by omega) (by omega) (by omega) (by omega) (fun r39 S39 hS39 n39_0 n39_1 n39_2 n39_3 n39_4 n39_5 => ?_)
    refine ⟨by omega, ?_⟩
    first | have e778 : S39.2 98 a1 = S35.2 98 a1 := by have q := n39_3 a1; omega | have e778 := n39_3 a1
    have e779 : S35.2 98 a1 = S21.2 98 a1 := congrFun (hS35.2 98 (by decide)) _
    have e780 : S21.2 98 a1 = S14.2 98 a1 := congrFun (hS21.2 98 (by decide)) _
    have e781 : S14.2 98 a1 = ((-2)) := by have q := hS14v a1; omega
    first | have e782 : S39.2 98 a1 = S35.2 98 a1 := by have q := n39_3 a1; omega | have e782 := n39_3 a1
    have e783 : S35.2 98 a1 = S21.2 98 a1 := congrFun (hS35.2 98 (by decide)) _
    have e784 : S21.2 98 a1 = S14.2 98 a1 := congrFun (hS21.2 98 (by decide)) _
    have e785 : S14.2 98 a1 = ((-2)) := by have q := hS14v a1; omega
    first | have e786 : S39.2 99 a1 = S35.2 99 a1 := by have q := n39_4 a1; omega | have e786 := n39_4 a1
    have e787 : S35.2 99 a1 = S21.2 99 a1 := congrFun (hS35.2 99 (by decide)) _
    have e788 : S21.2 99 a1 = S14.2 99 a1 := congrFun (hS21.2 99 (by decide)) _
    have e789 : S14.2 99 a1 = S.2 99 a1 := congrFun (hS14.2 99 (by decide)) _
    have e790 : S39.2 100 a1 = S35.2 100 a1 := congrFun (hS39.2 100 (by decide)) _
    have e791 : S35.2 100 a1 = ((-2)) := by have q := hS35v a1; omega
    have e792 : S21.2 100 a1 = S14.2 100 a1 := congrFun (hS21.2 100 (by decide)) _
    have e793 : S14.2 100 a1 = S.2 100 a1 := congrFun (hS14.2 100 (by decide)) _
    have e794 : S39.2 101 a1 = S35.2 101 a1 := congrFun (hS39.2 101 (by decide)) _
    have e795 : S35.2 101 a1 = S21.2 101 a1 := congrFun (hS35.2 101 (by decide)) _
    have e796 : S21.2 101 a1 = S14.2 101 a1 := congrFun (hS21.2 101 (by decide)) _
    have e797 : S14.2 101 a1 = S.2 101 a1 := congrFun (hS14.2 101 (by decide)) _
    have e798 : S39.2 91 a1 = S35.2 91 a1 := congrFun (hS39.2 91 (by decide)) _
    have e799 : S35.2 91 a1 = S21.2 91 a1 := congrFun (hS35.2 91 (by decide)) _
    have e800 : S21.2 91 a1 = S14.2 91 a1 := congrFun (hS21.2 91 (by decide)) _
    have e801 : S14.2 91 a1 = S.2 91 a1 := congrFun (hS14.2 91 (by decide)) _
    have e802 : S39.1 54 43 = S35.1 54 43 := hS39.1 43 (by decide)
    have e803 : S35.1 54 43 = S21.1 54 43 := hS35.1 43 (by decide)
    have e804 : S21.1 54 43 = S14.1 54 43 := hS21.1 43 (by decide)
    have e805 : S14.1 54 43 = S.1 54 43 := hS14.1 43 (by decide)
    have e806 : S39.2 88 (a1 + 1) = S35.2 88 (a1 + 1) := congrFun (hS39.2 88 (by decide)) _
    have e807 : S35.2 88 (a1 + 1) = S21.2 88 (a1 + 1) := congrFun (hS35.2 88 (by decide)) _
    have e808 : S21.2 88 (a1 + 1) = S14.2 88 (a1 + 1) := congrFun (hS21.2 88 (by decide)) _
    have e809 : S14.2 88 (a1 + 1) = S.2 88 (a1 + 1) := congrFun (hS14.2 88 (by decide)) _
    have hcA : S35.2 67 2 = S.2 67 2 := congrFun (((Ch.tr (Ch.tr hS14 hS21) hS35)).2 67 (by decide)) _
    have hcB := n39_1.1
    have hOLp : OLg S35 2 60 := p7.mv (((Ch.tr (Ch.tr hS14 hS21) hS35)).2 59 (by decide)) (((Ch.tr (Ch.tr hS14 hS21) hS35)).2 67 (by decide)) (((Ch.tr (Ch.tr hS14 hS21) hS35)).2 68 (by decide)) (((Ch.tr (Ch.tr hS14 hS21) hS35)).2 69 (by decide)) (((Ch.tr (Ch.tr hS14 hS21) hS35)).2 70 (by decide))
    have hOKp : OKg S35 2 60 := p6.mv (((Ch.tr (Ch.tr hS14 hS21) hS35)).2 59 (by decide)) (((Ch.tr (Ch.tr hS14 hS21) hS35)).2 67 (by decide)) (((Ch.tr (Ch.tr hS14 hS21) hS35)).2 68 (by decide)) (((Ch.tr (Ch.tr hS14 hS21) hS35)).2 69 (by decide))
    exact hK (r39) S39 (Ch.wk (Ch.tr (Ch.tr (Ch.tr hS14 hS21) hS35) hS39) (by decide) (by decide)) (by omega) (by
          rcases n39_5 with h | h
          · exact Or.inl h
          · exact Or.inr ⟨n39_2, OLg_OE hOLp hOKp ((hS39).2 59 (by decide)) n39_1, (EA_step p9x (⟨Or.inl (by omega), by omega, by omega, by omega⟩) (by
          intro x
          have e810 := n39_3 x
          have e811 : S35.2 98 x = S21.2 98 x := congrFun (hS35.2 98 (by decide)) _
          have e812 : S21.2 98 x = S14.2 98 x := congrFun (hS21.2 98 (by decide)) _
          have e813 := hS14v x
          omega) (by
          intro x
          have e814 := n39_4 x
          have e815 : S35.2 99 x = S21.2 99 x := congrFun (hS35.2 99 (by decide)) _
          have e816 : S21.2 99 x = S14.2 99 x := congrFun (hS21.2 99 (by decide)) _
          have e817 : S14.2 99 x = S.2 99 x := congrFun (hS14.2 99 (by decide)) _
          omega) (by
          intro x
          have e818 : S39.2 100 x = S35.2 100 x := congrFun (hS39.2 100 (by decide)) _
          have e819 := hS35v x
          have e820 : S21.2 100 x = S14.2 100 x := congrFun (hS21.2 100 (by decide)) _
          have e821 : S14.2 100 x = S.2 100 x := congrFun (hS14.2 100 (by decide)) _
          omega) (by
          intro x
          have e822 : S39.2 101 x = S35.2 101 x := congrFun (hS39.2 101 (by decide)) _
          have e823 : S35.2 101 x = S21.2 101 x := congrFun (hS35.2 101 (by decide)) _
          have e824 : S21.2 101 x = S14.2 101 x := congrFun (hS21.2 101 (by decide)) _
          have e825 : S14.2 101 x = S.2 101 x := congrFun (hS14.2 101 (by decide)) _
          omega) (((Ch.tr (Ch.tr (Ch.tr hS14 hS21) hS35) hS39)).1 43 (by decide)) (((Ch.tr (Ch.tr (Ch.tr hS14 hS21) hS35) hS39)).2 88 (by decide)) (((Ch.tr (Ch.tr (Ch.tr hS14 hS21) hS35) hS39)).2 91 (by decide)) (((Ch.tr (Ch.tr (Ch.tr hS14 hS21) hS35) hS39)).2 59 (by decide)) (by omega) (fun i i0 i1 => by
          have q := n39_1.2.2.1 (60 + i)
          have q1 : S35.2 67 2 = S.2 67 2 := congrFun (((Ch.tr (Ch.tr hS14 hS21) hS35)).2 67 (by decide)) _
          have q2 : S35.2 68 (60 + i) = S.2 68 (60 + i) := congrFun (((Ch.tr (Ch.tr hS14 hS21) hS35)).2 68 (by decide)) _
          omega))⟩) ((FR.re (((Ch.tr (Ch.tr hS14 hS21) hS35)).2 67 (by decide)) (((Ch.tr (Ch.tr hS14 hS21) hS35)).2 68 (by decide)) (((Ch.tr (Ch.tr hS14 hS21) hS35)).2 69 (by decide)) (((Ch.tr (Ch.tr hS14 hS21) hS35)).2 70 (by decide))).tr (n39_1.fr (by have q : S35.2 67 2 = S.2 67 2 := congrFun (((Ch.tr (Ch.tr hS14 hS21) hS35)).2 67 (by decide)) _; omega))) (by
          intro x
          have e826 := n39_3 x
          have e827 : S35.2 98 x = S21.2 98 x := congrFun (hS35.2 98 (by decide)) _
          have e828 : S21.2 98 x = S14.2 98 x := congrFun (hS21.2 98 (by decide)) _
          have e829 := hS14v x
          omega) (by omega)
