set_option maxRecDepth 100000 in
set_option maxHeartbeats 4000000 in
theorem tX11_hasMeaning {a1 : Int} {S : St} {K : Int → St → Prop} (p1 : iv 0 199 a1) (p2 : a1 < (S.1 54 43)) (p3 : (S.1 54 43) ≤ 200) (p4 : PR S) (p5 : PA S) (p6 : OKg S 2 60) (p7 : OLg S 2 60) (p8 : (S.1 54 51) ≤ 600) (p9 : iv 0 30 ((S.2 67) 2)) (p10 : (S.1 54 56) ≤ 3000) (p11 : PO S) (p12 : EA S a1) (hK : ∀ (r : Int) (S' : St), Ch [67] [67, 68, 69, 70, 98, 99, 100, 101, 102, 103, 104] S S' → (iv 0 1 r) → (r = 0 ∨ (OKg S' 2 60 ∧ OLg S' 2 60 ∧ EA S' (a1 + 1))) → (FR S S') → (iv 0 30 ((S'.2 67) 2)) → K r S') : wX11_hasMeaning a1 S K := by
  unfold wX11_hasMeaning
  intro g1
  have hpr := p4.at (x := a1) (by omega) (by omega)
  have p9x := p12
  refine ⟨by omega, by omega, ?_⟩
  intro q1
  intro x6 hx6
  subst hx6
  refine ⟨by omega, by omega, ?_⟩
  intro S14 hS14e
  have hS14 : Ch [] [98] S S14 := Ch_A hS14e
  have hS14v : ∀ x, (x = a1 ∧ S14.2 98 x = (-2)) ∨ (¬ x = a1 ∧ S14.2 98 x = S.2 98 x) := pA_at hS14e
  refine ⟨by omega, by omega, ?_⟩
  intro S21 hS21e
  have hS21 : Ch [] [102] S14 S21 := Ch_A hS21e
  have hS21v : ∀ x, (x = a1 ∧ S21.2 102 x = 0) ∨ (¬ x = a1 ∧ S21.2 102 x = S14.2 102 x) := pA_at hS21e
  refine ⟨fun h25 => ?_, fun h25 => ?_⟩
  · have hEp := ((p12 (S.2 88 a1)).resolve_left (by omega)).resolve_left (by omega)
    have hpo := (((p11 a1).resolve_left (by omega)).resolve_left (by omega)).resolve_left (by omega)
    unfold EI at hEp
    obtain ⟨hE1, hE2, hE3, hE4⟩ := hEp
    have hpq := p4.at (x := S.2 88 a1) (by omega) (by omega)
    refine ⟨by omega, by omega, ?_⟩
    intro q2
    have e3 : S21.2 99 ((S.2 88 (a1))) = S14.2 99 ((S.2 88 (a1))) := congrFun (hS21.2 99 (by decide)) _
    have e4 : S14.2 99 ((S.2 88 (a1))) = S.2 99 ((S.2 88 (a1))) := congrFun (hS14.2 99 (by decide)) _
    intro x49 hx49
    subst hx49
    refine ⟨by omega, by omega, ?_⟩
    intro q5
    have e6 : S21.2 98 ((S.2 88 (a1))) = S14.2 98 ((S.2 88 (a1))) := congrFun (hS21.2 98 (by decide)) _
    first | have e7 : S14.2 98 ((S.2 88 (a1))) = S.2 98 ((S.2 88 (a1))) := by have q := hS14v ((S.2 88 (a1))); omega | have e7 : S14.2 98 ((S.2 88 (a1))) = ((-2)) := by have q := hS14v ((S.2 88 (a1))); omega | have e7 := hS14v ((S.2 88 (a1)))
    refine ⟨fun h57 => ?_, fun h57 => ?_⟩
    · refine ⟨by omega, by omega, ?_⟩
      intro q8
      have e9 : S21.2 68 ((60 + (S21.2 99 ((S.2 88 (a1)))))) = S14.2 68 ((60 + (S21.2 99 ((S.2 88 (a1)))))) := congrFun (hS21.2 68 (by decide)) _
      have e10 : S14.2 68 ((60 + (S21.2 99 ((S.2 88 (a1)))))) = S.2 68 ((60 + (S21.2 99 ((S.2 88 (a1)))))) := congrFun (hS14.2 68 (by decide)) _
      intro x84 hx84
      subst hx84
      refine ⟨by omega, by omega, ?_⟩
      intro q11
      have e12 : S21.2 86 (a1) = S14.2 86 (a1) := congrFun (hS21.2 86 (by decide)) _
      have e13 : S14.2 86 (a1) = S.2 86 (a1) := congrFun (hS14.2 86 (by decide)) _
      refine ⟨by omega, by omega, ?_⟩
      intro q14
      have e15 : S21.2 87 (a1) = S14.2 87 (a1) := congrFun (hS21.2 87 (by decide)) _
      have e16 : S14.2 87 (a1) = S.2 87 (a1) := congrFun (hS14.2 87 (by decide)) _
      have e17 : S21.2 59 (4 * ((S21.2 68 ((60 + (S21.2 99 ((S.2 88 (a1)))))))) + r) = S14.2 59 (4 * ((S21.2 68 ((60 + (S21.2 99 ((S.2 88 (a1)))))))) + r) := congrFun (hS21.2 59 (by decide)) _
      have e18 : S14.2 59 (4 * ((S21.2 68 ((60 + (S21.2 99 ((S.2 88 (a1)))))))) + r) = S.2 59 (4 * ((S21.2 68 ((60 + (S21.2 99 ((S.2 88 (a1)))))))) + r) := congrFun (hS14.2 59 (by decide)) _
      refine tX11_fieldNamed (by omega) (by omega) (by omega) (by omega) (by omega) (fun r102 n102_0 n102_1 => ?_)
      refine ⟨by omega, ?_⟩
      refine ⟨fun h111 => ?_, fun h111 => ?_⟩
      · refine ⟨by omega, by omega, ?_⟩
        intro q19
        have e20 : S21.2 103 (((4 * (S21.2 99 ((S.2 88 (a1))))) + r102)) = S14.2 103 (((4 * (S21.2 99 ((S.2 88 (a1))))) + r102)) := congrFun (hS21.2 103 (by decide)) _
        have e21 : S14.2 103 (((4 * (S21.2 99 ((S.2 88 (a1))))) + r102)) = S.2 103 (((4 * (S21.2 99 ((S.2 88 (a1))))) + r102)) := congrFun (hS14.2 103 (by decide)) _
        refine ⟨fun h158 => ?_, fun h158 => ?_⟩
        · refine ⟨by omega, by omega, ?_⟩
          intro S174 hS174e
          have hS174 : Ch [] [103] S21 S174 := Ch_A hS174e
          have hS174v : ∀ x, (x = ((4 * (S21.2 99 ((S.2 88 (a1))))) + r102) ∧ S174.2 103 x = 1) ∨ (¬ x = ((4 * (S21.2 99 ((S.2 88 (a1))))) + r102) ∧ S174.2 103 x = S21.2 103 x) := pA_at hS174e
          refine ⟨by omega, by omega, ?_⟩
          intro q22
          have e23 : S174.2 59 (((4 * (S21.2 68 ((60 + (S21.2 99 ((S.2 88 (a1)))))))) + r102)) = S21.2 59 (((4 * (S21.2 68 ((60 + (S21.2 99 ((S.2 88 (a1)))))))) + r102)) := congrFun (hS174.2 59 (by decide)) _
          have e24 : S21.2 59 (((4 * (S21.2 68 ((60 + (S21.2 99 ((S.2 88 (a1)))))))) + r102)) = S14.2 59 (((4 * (S21.2 68 ((60 + (S21.2 99 ((S.2 88 (a1)))))))) + r102)) := congrFun (hS21.2 59 (by decide)) _
          have e25 : S14.2 59 (((4 * (S21.2 68 ((60 + (S21.2 99 ((S.2 88 (a1)))))))) + r102)) = S.2 59 (((4 * (S21.2 68 ((60 + (S21.2 99 ((S.2 88 (a1)))))))) + r102)) := congrFun (hS14.2 59 (by decide)) _
          intro x187 hx187
          subst hx187
          refine ⟨by omega, by omega, ?_⟩
          refine ⟨by omega, ?_⟩
          intro S203 hS203e
          have hS203 : Ch [] [100] S174 S203 := Ch_A hS203e
          have hS203v : ∀ x, (x = a1 ∧ S203.2 100 x = ((4 * (60 + (S21.2 99 ((S.2 88 (a1)))))) + r102)) ∨ (¬ x = a1 ∧ S203.2 100 x = S174.2 100 x) := pA_at hS203e
          refine ⟨by omega, by omega, ?_⟩
          intro S211 hS211e
          have hS211 : Ch [] [101] S203 S211 := Ch_A hS211e
          have hS211v : ∀ x, (x = a1 ∧ S211.2 101 x = (-2)) ∨ (¬ x = a1 ∧ S211.2 101 x = S203.2 101 x) := pA_at hS211e
          refine ⟨fun h215 => ?_, fun h215 => ?_⟩
          · refine ⟨by omega, by omega, ?_⟩
            refine ⟨by omega, ?_⟩
            intro S268 hS268e
            have hS268 : Ch [] [98] S211 S268 := Ch_A hS268e
            have hS268v : ∀ x, (x = a1 ∧ S268.2 98 x = (S174.2 59 (((4 * (S21.2 68 ((60 + (S21.2 99 ((S.2 88 (a1)))))))) + r102)))) ∨ (¬ x = a1 ∧ S268.2 98 x = S211.2 98 x) := pA_at hS268e
            refine ⟨by omega, by omega, ?_⟩
            intro S275 hS275e
            have hS275 : Ch [] [99] S268 S275 := Ch_A hS275e
            have hS275v : ∀ x, (x = a1 ∧ S275.2 99 x = (S21.2 99 ((S.2 88 (a1))))) ∨ (¬ x = a1 ∧ S275.2 99 x = S268.2 99 x) := pA_at hS275e
            refine ⟨fun h279 => ?_, fun h279 => ?_⟩
            · refine ⟨by omega, by omega, ?_⟩
              intro q26
              have e27 : S275.2 91 (a1) = S268.2 91 (a1) := congrFun (hS275.2 91 (by decide)) _
              have e28 : S268.2 91 (a1) = S211.2 91 (a1) := congrFun (hS268.2 91 (by decide)) _
              have e29 : S211.2 91 (a1) = S203.2 91 (a1) := congrFun (hS211.2 91 (by decide)) _
              have e30 : S203.2 91 (a1) = S174.2 91 (a1) := congrFun (hS203.2 91 (by decide)) _
              have e31 : S174.2 91 (a1) = S21.2 91 (a1) := congrFun (hS174.2 91 (by decide)) _
              have e32 : S21.2 91 (a1) = S14.2 91 (a1) := congrFun (hS21.2 91 (by decide)) _
              have e33 : S14.2 91 (a1) = S.2 91 (a1) := congrFun (hS14.2 91 (by decide)) _
              refine ⟨fun h311 => ?_, fun h311 => ?_⟩
              · have e34 : S275.2 67 2 = S268.2 67 2 := congrFun (hS275.2 67 (by decide)) _
                have e35 : S268.2 67 2 = S211.2 67 2 := congrFun (hS268.2 67 (by decide)) _
                have e36 : S211.2 67 2 = S203.2 67 2 := congrFun (hS211.2 67 (by decide)) _
                have e37 : S203.2 67 2 = S174.2 67 2 := congrFun (hS203.2 67 (by decide)) _
                have e38 : S174.2 67 2 = S21.2 67 2 := congrFun (hS174.2 67 (by decide)) _
                have e39 : S21.2 67 2 = S14.2 67 2 := congrFun (hS21.2 67 (by decide)) _
                have e40 : S14.2 67 2 = S.2 67 2 := congrFun (hS14.2 67 (by decide)) _
                exact hK (0) S275 (Ch.wk (Ch.tr (Ch.tr (Ch.tr (Ch.tr (Ch.tr (Ch.tr hS14 hS21) hS174) hS203) hS211) hS268) hS275) (by decide) (by decide)) (by omega) (Or.inl rfl) (FR.re (((Ch.tr (Ch.tr (Ch.tr (Ch.tr (Ch.tr (Ch.tr hS14 hS21) hS174) hS203) hS211) hS268) hS275)).2 67 (by decide)) (((Ch.tr (Ch.tr (Ch.tr (Ch.tr (Ch.tr (Ch.tr hS14 hS21) hS174) hS203) hS211) hS268) hS275)).2 68 (by decide)) (((Ch.tr (Ch.tr (Ch.tr (Ch.tr (Ch.tr (Ch.tr hS14 hS21) hS174) hS203) hS211) hS268) hS275)).2 69 (by decide)) (((Ch.tr (Ch.tr (Ch.tr (Ch.tr (Ch.tr (Ch.tr hS14 hS21) hS174) hS203) hS211) hS268) hS275)).2 70 (by decide))) (by omega)
              · have e41 : S275.1 54 43 = S268.1 54 43 := hS275.1 43 (by decide)
                have e42 : S268.1 54 43 = S211.1 54 43 := hS268.1 43 (by decide)
                have e43 : S211.1 54 43 = S203.1 54 43 := hS211.1 43 (by decide)
                have e44 : S203.1 54 43 = S174.1 54 43 := hS203.1 43 (by decide)
                have e45 : S174.1 54 43 = S21.1 54 43 := hS174.1 43 (by decide)
                have e46 : S21.1 54 43 = S14.1 54 43 := hS21.1 43 (by decide)
                have e47 : S14.1 54 43 = S.1 54 43 := hS14.1 43 (by decide)
                have e48 : S275.1 54 43 = S268.1 54 43 := hS275.1 43 (by decide)
                have e49 : S268.1 54 43 = S211.1 54 43 := hS268.1 43 (by decide)
                have e50 : S211.1 54 43 = S203.1 54 43 := hS211.1 43 (by decide)
                have e51 : S203.1 54 43 = S174.1 54 43 := hS203.1 43 (by decide)
                have e52 : S174.1 54 43 = S21.1 54 43 := hS174.1 43 (by decide)
                have e53 : S21.1 54 43 = S14.1 54 43 := hS21.1 43 (by decide)
                have e54 : S14.1 54 43 = S.1 54 43 := hS14.1 43 (by decide)
                have e55 : S275.1 54 43 = S268.1 54 43 := hS275.1 43 (by decide)
                have e56 : S268.1 54 43 = S211.1 54 43 := hS268.1 43 (by decide)
                have e57 : S211.1 54 43 = S203.1 54 43 := hS211.1 43 (by decide)
                have e58 : S203.1 54 43 = S174.1 54 43 := hS203.1 43 (by decide)
                have e59 : S174.1 54 43 = S21.1 54 43 := hS174.1 43 (by decide)
                have e60 : S21.1 54 43 = S14.1 54 43 := hS21.1 43 (by decide)
                have e61 : S14.1 54 43 = S.1 54 43 := hS14.1 43 (by decide)
                have e62 : S275.2 88 ((a1) + 1) = S268.2 88 ((a1) + 1) := congrFun (hS275.2 88 (by decide)) _
                have e63 : S268.2 88 ((a1) + 1) = S211.2 88 ((a1) + 1) := congrFun (hS268.2 88 (by decide)) _
                have e64 : S211.2 88 ((a1) + 1) = S203.2 88 ((a1) + 1) := congrFun (hS211.2 88 (by decide)) _
                have e65 : S203.2 88 ((a1) + 1) = S174.2 88 ((a1) + 1) := congrFun (hS203.2 88 (by decide)) _
                have e66 : S174.2 88 ((a1) + 1) = S21.2 88 ((a1) + 1) := congrFun (hS174.2 88 (by decide)) _
                have e67 : S21.2 88 ((a1) + 1) = S14.2 88 ((a1) + 1) := congrFun (hS21.2 88 (by decide)) _
                have e68 : S14.2 88 ((a1) + 1) = S.2 88 ((a1) + 1) := congrFun (hS14.2 88 (by decide)) _
                refine tX11_hasChild (by omega) (by omega) (by omega) (fun r316 n316_0 => ?_)
                refine ⟨by omega, ?_⟩
                refine ⟨fun h319 => ?_, fun h319 => ?_⟩
                · refine tX11_pieceOfText  (fun r326 S326 hS326 n326_0 => ?_)
                  have e69 : S326.2 69 (4 * (60 + ((S21.2 99 ((S.2 88 (a1)))))) + (r102)) = S275.2 69 (4 * (60 + ((S21.2 99 ((S.2 88 (a1)))))) + (r102)) := congrFun (hS326.2 69 (by decide)) _
                  have e70 : S275.2 69 (4 * (60 + ((S21.2 99 ((S.2 88 (a1)))))) + (r102)) = S268.2 69 (4 * (60 + ((S21.2 99 ((S.2 88 (a1)))))) + (r102)) := congrFun (hS275.2 69 (by decide)) _
                  have e71 : S268.2 69 (4 * (60 + ((S21.2 99 ((S.2 88 (a1)))))) + (r102)) = S211.2 69 (4 * (60 + ((S21.2 99 ((S.2 88 (a1)))))) + (r102)) := congrFun (hS268.2 69 (by decide)) _
                  have e72 : S211.2 69 (4 * (60 + ((S21.2 99 ((S.2 88 (a1)))))) + (r102)) = S203.2 69 (4 * (60 + ((S21.2 99 ((S.2 88 (a1)))))) + (r102)) := congrFun (hS211.2 69 (by decide)) _
                  have e73 : S203.2 69 (4 * (60 + ((S21.2 99 ((S.2 88 (a1)))))) + (r102)) = S174.2 69 (4 * (60 + ((S21.2 99 ((S.2 88 (a1)))))) + (r102)) := congrFun (hS203.2 69 (by decide)) _
                  have e74 : S174.2 69 (4 * (60 + ((S21.2 99 ((S.2 88 (a1)))))) + (r102)) = S21.2 69 (4 * (60 + ((S21.2 99 ((S.2 88 (a1)))))) + (r102)) := congrFun (hS174.2 69 (by decide)) _
                  have e75 : S21.2 69 (4 * (60 + ((S21.2 99 ((S.2 88 (a1)))))) + (r102)) = S14.2 69 (4 * (60 + ((S21.2 99 ((S.2 88 (a1)))))) + (r102)) := congrFun (hS21.2 69 (by decide)) _
                  have e76 : S14.2 69 (4 * (60 + ((S21.2 99 ((S.2 88 (a1)))))) + (r102)) = S.2 69 (4 * (60 + ((S21.2 99 ((S.2 88 (a1)))))) + (r102)) := congrFun (hS14.2 69 (by decide)) _
                  have e77 : S326.2 59 (4 * (S326.2 68) (60 + ((S21.2 99 ((S.2 88 (a1)))))) + (r102)) = S275.2 59 (4 * (S326.2 68) (60 + ((S21.2 99 ((S.2 88 (a1)))))) + (r102)) := congrFun (hS326.2 59 (by decide)) _
                  have e78 : S275.2 59 (4 * (S326.2 68) (60 + ((S21.2 99 ((S.2 88 (a1)))))) + (r102)) = S268.2 59 (4 * (S326.2 68) (60 + ((S21.2 99 ((S.2 88 (a1)))))) + (r102)) := congrFun (hS275.2 59 (by decide)) _
                  have e79 : S268.2 59 (4 * (S326.2 68) (60 + ((S21.2 99 ((S.2 88 (a1)))))) + (r102)) = S211.2 59 (4 * (S326.2 68) (60 + ((S21.2 99 ((S.2 88 (a1)))))) + (r102)) := congrFun (hS268.2 59 (by decide)) _
                  have e80 : S211.2 59 (4 * (S326.2 68) (60 + ((S21.2 99 ((S.2 88 (a1)))))) + (r102)) = S203.2 59 (4 * (S326.2 68) (60 + ((S21.2 99 ((S.2 88 (a1)))))) + (r102)) := congrFun (hS211.2 59 (by decide)) _
                  have e81 : S203.2 59 (4 * (S326.2 68) (60 + ((S21.2 99 ((S.2 88 (a1)))))) + (r102)) = S174.2 59 (4 * (S326.2 68) (60 + ((S21.2 99 ((S.2 88 (a1)))))) + (r102)) := congrFun (hS203.2 59 (by decide)) _
                  have e82 : S174.2 59 (4 * (S326.2 68) (60 + ((S21.2 99 ((S.2 88 (a1)))))) + (r102)) = S21.2 59 (4 * (S326.2 68) (60 + ((S21.2 99 ((S.2 88 (a1)))))) + (r102)) := congrFun (hS174.2 59 (by decide)) _
                  have e83 : S21.2 59 (4 * (S326.2 68) (60 + ((S21.2 99 ((S.2 88 (a1)))))) + (r102)) = S14.2 59 (4 * (S326.2 68) (60 + ((S21.2 99 ((S.2 88 (a1)))))) + (r102)) := congrFun (hS21.2 59 (by decide)) _
                  have e84 : S14.2 59 (4 * (S326.2 68) (60 + ((S21.2 99 ((S.2 88 (a1)))))) + (r102)) = S.2 59 (4 * (S326.2 68) (60 + ((S21.2 99 ((S.2 88 (a1)))))) + (r102)) := congrFun (hS14.2 59 (by decide)) _
                  have e85 : S326.2 68 (60 + ((S21.2 99 ((S.2 88 (a1)))))) = S275.2 68 (60 + ((S21.2 99 ((S.2 88 (a1)))))) := congrFun (hS326.2 68 (by decide)) _
                  have e86 : S275.2 68 (60 + ((S21.2 99 ((S.2 88 (a1)))))) = S268.2 68 (60 + ((S21.2 99 ((S.2 88 (a1)))))) := congrFun (hS275.2 68 (by decide)) _
                  have e87 : S268.2 68 (60 + ((S21.2 99 ((S.2 88 (a1)))))) = S211.2 68 (60 + ((S21.2 99 ((S.2 88 (a1)))))) := congrFun (hS268.2 68 (by decide)) _
                  have e88 : S211.2 68 (60 + ((S21.2 99 ((S.2 88 (a1)))))) = S203.2 68 (60 + ((S21.2 99 ((S.2 88 (a1)))))) := congrFun (hS211.2 68 (by decide)) _
                  have e89 : S203.2 68 (60 + ((S21.2 99 ((S.2 88 (a1)))))) = S174.2 68 (60 + ((S21.2 99 ((S.2 88 (a1)))))) := congrFun (hS203.2 68 (by decide)) _
                  have e90 : S174.2 68 (60 + ((S21.2 99 ((S.2 88 (a1)))))) = S21.2 68 (60 + ((S21.2 99 ((S.2 88 (a1)))))) := congrFun (hS174.2 68 (by decide)) _
                  have e91 : S21.2 68 (60 + ((S21.2 99 ((S.2 88 (a1)))))) = S14.2 68 (60 + ((S21.2 99 ((S.2 88 (a1)))))) := congrFun (hS21.2 68 (by decide)) _
                  have e92 : S14.2 68 (60 + ((S21.2 99 ((S.2 88 (a1)))))) = S.2 68 (60 + ((S21.2 99 ((S.2 88 (a1)))))) := congrFun (hS14.2 68 (by decide)) _
                  refine tX11_becomes (by omega) (by omega) (fun r333 S333 hS333 n333_0 n333_1 n333_2 n333_3 => ?_)
                  refine ⟨by omega, ?_⟩
                  have e93 : S333.2 67 2 = S326.2 67 2 := congrFun (hS333.2 67 (by decide)) _
                  have e94 : S326.2 67 2 = S275.2 67 2 := congrFun (hS326.2 67 (by decide)) _
                  have e95 : S275.2 67 2 = S268.2 67 2 := congrFun (hS275.2 67 (by decide)) _
                  have e96 : S268.2 67 2 = S211.2 67 2 := congrFun (hS268.2 67 (by decide)) _
                  have e97 : S211.2 67 2 = S203.2 67 2 := congrFun (hS211.2 67 (by decide)) _
                  have e98 : S203.2 67 2 = S174.2 67 2 := congrFun (hS203.2 67 (by decide)) _
                  have e99 : S174.2 67 2 = S21.2 67 2 := congrFun (hS174.2 67 (by decide)) _
                  have e100 : S21.2 67 2 = S14.2 67 2 := congrFun (hS21.2 67 (by decide)) _
                  have e101 : S14.2 67 2 = S.2 67 2 := congrFun (hS14.2 67 (by decide)) _
                  have e102 : S333.2 98 a1 = S326.2 98 a1 := congrFun (hS333.2 98 (by decide)) _
                  have e103 : S326.2 98 a1 = S275.2 98 a1 := congrFun (hS326.2 98 (by decide)) _
                  have e104 : S275.2 98 a1 = S268.2 98 a1 := congrFun (hS275.2 98 (by decide)) _
                  have e105 : S268.2 98 a1 = ((S174.2 59 (((4 * (S21.2 68 ((60 + (S21.2 99 ((S.2 88 (a1)))))))) + r102)))) := by have q := hS268v a1; omega
                  have e106 : S211.2 98 a1 = S203.2 98 a1 := congrFun (hS211.2 98 (by decide)) _
                  have e107 : S203.2 98 a1 = S174.2 98 a1 := congrFun (hS203.2 98 (by decide)) _
                  have e108 : S174.2 98 a1 = S21.2 98 a1 := congrFun (hS174.2 98 (by decide)) _
                  have e109 : S21.2 98 a1 = S14.2 98 a1 := congrFun (hS21.2 98 (by decide)) _
                  have e110 : S14.2 98 a1 = ((-2)) := by have q := hS14v a1; omega
                  have e111 : S333.2 99 a1 = S326.2 99 a1 := congrFun (hS333.2 99 (by decide)) _
                  have e112 : S326.2 99 a1 = S275.2 99 a1 := congrFun (hS326.2 99 (by decide)) _
                  have e113 : S275.2 99 a1 = ((S21.2 99 ((S.2 88 (a1))))) := by have q := hS275v a1; omega
                  have e114 : S268.2 99 a1 = S211.2 99 a1 := congrFun (hS268.2 99 (by decide)) _
                  have e115 : S211.2 99 a1 = S203.2 99 a1 := congrFun (hS211.2 99 (by decide)) _
                  have e116 : S203.2 99 a1 = S174.2 99 a1 := congrFun (hS203.2 99 (by decide)) _
                  have e117 : S174.2 99 a1 = S21.2 99 a1 := congrFun (hS174.2 99 (by decide)) _
                  have e118 : S21.2 99 a1 = S14.2 99 a1 := congrFun (hS21.2 99 (by decide)) _
                  have e119 : S14.2 99 a1 = S.2 99 a1 := congrFun (hS14.2 99 (by decide)) _
                  have e120 : S333.2 100 a1 = S326.2 100 a1 := congrFun (hS333.2 100 (by decide)) _
                  have e121 : S326.2 100 a1 = S275.2 100 a1 := congrFun (hS326.2 100 (by decide)) _
                  have e122 : S275.2 100 a1 = S268.2 100 a1 := congrFun (hS275.2 100 (by decide)) _
                  have e123 : S268.2 100 a1 = S211.2 100 a1 := congrFun (hS268.2 100 (by decide)) _
                  have e124 : S211.2 100 a1 = S203.2 100 a1 := congrFun (hS211.2 100 (by decide)) _
                  have e125 : S203.2 100 a1 = (((4 * (60 + (S21.2 99 ((S.2 88 (a1)))))) + r102)) := by have q := hS203v a1; omega
                  have e126 : S174.2 100 a1 = S21.2 100 a1 := congrFun (hS174.2 100 (by decide)) _
                  have e127 : S21.2 100 a1 = S14.2 100 a1 := congrFun (hS21.2 100 (by decide)) _
                  have e128 : S14.2 100 a1 = S.2 100 a1 := congrFun (hS14.2 100 (by decide)) _
                  have e129 : S333.2 101 a1 = S326.2 101 a1 := congrFun (hS333.2 101 (by decide)) _
                  have e130 : S326.2 101 a1 = S275.2 101 a1 := congrFun (hS326.2 101 (by decide)) _
                  have e131 : S275.2 101 a1 = S268.2 101 a1 := congrFun (hS275.2 101 (by decide)) _
                  have e132 : S268.2 101 a1 = S211.2 101 a1 := congrFun (hS268.2 101 (by decide)) _
                  have e133 : S211.2 101 a1 = ((-2)) := by have q := hS211v a1; omega
                  have e134 : S203.2 101 a1 = S174.2 101 a1 := congrFun (hS203.2 101 (by decide)) _
                  have e135 : S174.2 101 a1 = S21.2 101 a1 := congrFun (hS174.2 101 (by decide)) _
                  have e136 : S21.2 101 a1 = S14.2 101 a1 := congrFun (hS21.2 101 (by decide)) _
                  have e137 : S14.2 101 a1 = S.2 101 a1 := congrFun (hS14.2 101 (by decide)) _
                  have e138 : S333.2 91 a1 = S326.2 91 a1 := congrFun (hS333.2 91 (by decide)) _
                  have e139 : S326.2 91 a1 = S275.2 91 a1 := congrFun (hS326.2 91 (by decide)) _
                  have e140 : S275.2 91 a1 = S268.2 91 a1 := congrFun (hS275.2 91 (by decide)) _
                  have e141 : S268.2 91 a1 = S211.2 91 a1 := congrFun (hS268.2 91 (by decide)) _
                  have e142 : S211.2 91 a1 = S203.2 91 a1 := congrFun (hS211.2 91 (by decide)) _
                  have e143 : S203.2 91 a1 = S174.2 91 a1 := congrFun (hS203.2 91 (by decide)) _
                  have e144 : S174.2 91 a1 = S21.2 91 a1 := congrFun (hS174.2 91 (by decide)) _
                  have e145 : S21.2 91 a1 = S14.2 91 a1 := congrFun (hS21.2 91 (by decide)) _
                  have e146 : S14.2 91 a1 = S.2 91 a1 := congrFun (hS14.2 91 (by decide)) _
                  have e147 : S333.1 54 43 = S326.1 54 43 := hS333.1 43 (by decide)
                  have e148 : S326.1 54 43 = S275.1 54 43 := hS326.1 43 (by decide)
                  have e149 : S275.1 54 43 = S268.1 54 43 := hS275.1 43 (by decide)
                  have e150 : S268.1 54 43 = S211.1 54 43 := hS268.1 43 (by decide)
                  have e151 : S211.1 54 43 = S203.1 54 43 := hS211.1 43 (by decide)
                  have e152 : S203.1 54 43 = S174.1 54 43 := hS203.1 43 (by decide)
                  have e153 : S174.1 54 43 = S21.1 54 43 := hS174.1 43 (by decide)
                  have e154 : S21.1 54 43 = S14.1 54 43 := hS21.1 43 (by decide)
                  have e155 : S14.1 54 43 = S.1 54 43 := hS14.1 43 (by decide)
                  have e156 : S333.2 88 (a1 + 1) = S326.2 88 (a1 + 1) := congrFun (hS333.2 88 (by decide)) _
                  have e157 : S326.2 88 (a1 + 1) = S275.2 88 (a1 + 1) := congrFun (hS326.2 88 (by decide)) _
                  have e158 : S275.2 88 (a1 + 1) = S268.2 88 (a1 + 1) := congrFun (hS275.2 88 (by decide)) _
                  have e159 : S268.2 88 (a1 + 1) = S211.2 88 (a1 + 1) := congrFun (hS268.2 88 (by decide)) _
                  have e160 : S211.2 88 (a1 + 1) = S203.2 88 (a1 + 1) := congrFun (hS211.2 88 (by decide)) _
                  have e161 : S203.2 88 (a1 + 1) = S174.2 88 (a1 + 1) := congrFun (hS203.2 88 (by decide)) _
                  have e162 : S174.2 88 (a1 + 1) = S21.2 88 (a1 + 1) := congrFun (hS174.2 88 (by decide)) _
                  have e163 : S21.2 88 (a1 + 1) = S14.2 88 (a1 + 1) := congrFun (hS21.2 88 (by decide)) _
                  have e164 : S14.2 88 (a1 + 1) = S.2 88 (a1 + 1) := congrFun (hS14.2 88 (by decide)) _
                  have hcA : S333.2 67 2 = S.2 67 2 := congrFun (((Ch.tr (Ch.tr (Ch.tr (Ch.tr (Ch.tr (Ch.tr (Ch.tr (Ch.tr hS14 hS21) hS174) hS203) hS211) hS268) hS275) hS326) hS333)).2 67 (by decide)) _
                  have e68 : S326.2 68 (60 + S.2 99 (S.2 88 a1)) = S.2 68 (60 + S.2 99 (S.2 88 a1)) := congrFun (((Ch.tr (Ch.tr (Ch.tr (Ch.tr (Ch.tr (Ch.tr (Ch.tr hS14 hS21) hS174) hS203) hS211) hS268) hS275) hS326)).2 68 (by decide)) _
                  have hkk : S.2 59 (4 * S.2 68 (60 + S.2 99 (S.2 88 a1)) + r102) ≤ 1 := by omega
                  have h59 : S326.2 59 = S.2 59 := (((Ch.tr (Ch.tr (Ch.tr (Ch.tr (Ch.tr (Ch.tr (Ch.tr hS14 hS21) hS174) hS203) hS211) hS268) hS275) hS326)).2 59 (by decide))
                  have hOKp : OKg S326 2 60 := p6.mv (((Ch.tr (Ch.tr (Ch.tr (Ch.tr (Ch.tr (Ch.tr (Ch.tr hS14 hS21) hS174) hS203) hS211) hS268) hS275) hS326)).2 59 (by decide)) (((Ch.tr (Ch.tr (Ch.tr (Ch.tr (Ch.tr (Ch.tr (Ch.tr hS14 hS21) hS174) hS203) hS211) hS268) hS275) hS326)).2 67 (by decide)) (((Ch.tr (Ch.tr (Ch.tr (Ch.tr (Ch.tr (Ch.tr (Ch.tr hS14 hS21) hS174) hS203) hS211) hS268) hS275) hS326)).2 68 (by decide)) (((Ch.tr (Ch.tr (Ch.tr (Ch.tr (Ch.tr (Ch.tr (Ch.tr hS14 hS21) hS174) hS203) hS211) hS268) hS275) hS326)).2 69 (by decide))
                  have hOLp : OLg S326 2 60 := p7.mv (((Ch.tr (Ch.tr (Ch.tr (Ch.tr (Ch.tr (Ch.tr (Ch.tr hS14 hS21) hS174) hS203) hS211) hS268) hS275) hS326)).2 59 (by decide)) (((Ch.tr (Ch.tr (Ch.tr (Ch.tr (Ch.tr (Ch.tr (Ch.tr hS14 hS21) hS174) hS203) hS211) hS268) hS275) hS326)).2 67 (by decide)) (((Ch.tr (Ch.tr (Ch.tr (Ch.tr (Ch.tr (Ch.tr (Ch.tr hS14 hS21) hS174) hS203) hS211) hS268) hS275) hS326)).2 68 (by decide)) (((Ch.tr (Ch.tr (Ch.tr (Ch.tr (Ch.tr (Ch.tr (Ch.tr hS14 hS21) hS174) hS203) hS211) hS268) hS275) hS326)).2 69 (by decide)) (((Ch.tr (Ch.tr (Ch.tr (Ch.tr (Ch.tr (Ch.tr (Ch.tr hS14 hS21) hS174) hS203) hS211) hS268) hS275) hS326)).2 70 (by decide))
                  exact hK (r333) S333 (Ch.wk (Ch.tr (Ch.tr (Ch.tr (Ch.tr (Ch.tr (Ch.tr (Ch.tr (Ch.tr hS14 hS21) hS174) hS203) hS211) hS268) hS275) hS326) hS333) (by decide) (by decide)) (by omega) (Or.inr ⟨OKg_bec hOKp ((hS333).2 59 (by decide)) ((hS333).2 67 (by decide)) ((hS333).2 68 (by decide)) n333_1 (by omega) (by omega) (by rw [e68, h59]; exact hkk) n333_3, OLg_bec hOLp hOKp ((hS333).2 59 (by decide)) ((hS333).2 67 (by decide)) ((hS333).2 68 (by decide)) n333_1 n333_2 (by omega) (by omega) (by rw [e68, h59]; omega), (EA_step p9x (⟨Or.inl (by omega), by omega, by omega, by omega⟩) (by
                        intro x
                        have e165 : S333.2 98 x = S326.2 98 x := congrFun (hS333.2 98 (by decide)) _
                        have e166 : S326.2 98 x = S275.2 98 x := congrFun (hS326.2 98 (by decide)) _
                        have e167 : S275.2 98 x = S268.2 98 x := congrFun (hS275.2 98 (by decide)) _
                        have e168 := hS268v x
                        have e169 : S211.2 98 x = S203.2 98 x := congrFun (hS211.2 98 (by decide)) _
                        have e170 : S203.2 98 x = S174.2 98 x := congrFun (hS203.2 98 (by decide)) _
                        have e171 : S174.2 98 x = S21.2 98 x := congrFun (hS174.2 98 (by decide)) _
                        have e172 : S21.2 98 x = S14.2 98 x := congrFun (hS21.2 98 (by decide)) _
                        have e173 := hS14v x
                        omega) (by
                        intro x
                        have e174 : S333.2 99 x = S326.2 99 x := congrFun (hS333.2 99 (by decide)) _
                        have e175 : S326.2 99 x = S275.2 99 x := congrFun (hS326.2 99 (by decide)) _
                        have e176 := hS275v x
                        have e177 : S268.2 99 x = S211.2 99 x := congrFun (hS268.2 99 (by decide)) _
                        have e178 : S211.2 99 x = S203.2 99 x := congrFun (hS211.2 99 (by decide)) _
                        have e179 : S203.2 99 x = S174.2 99 x := congrFun (hS203.2 99 (by decide)) _
                        have e180 : S174.2 99 x = S21.2 99 x := congrFun (hS174.2 99 (by decide)) _
                        have e181 : S21.2 99 x = S14.2 99 x := congrFun (hS21.2 99 (by decide)) _
                        have e182 : S14.2 99 x = S.2 99 x := congrFun (hS14.2 99 (by decide)) _
                        omega) (by
                        intro x
                        have e183 : S333.2 100 x = S326.2 100 x := congrFun (hS333.2 100 (by decide)) _
                        have e184 : S326.2 100 x = S275.2 100 x := congrFun (hS326.2 100 (by decide)) _
                        have e185 : S275.2 100 x = S268.2 100 x := congrFun (hS275.2 100 (by decide)) _
                        have e186 : S268.2 100 x = S211.2 100 x := congrFun (hS268.2 100 (by decide)) _
                        have e187 : S211.2 100 x = S203.2 100 x := congrFun (hS211.2 100 (by decide)) _
                        have e188 := hS203v x
                        have e189 : S174.2 100 x = S21.2 100 x := congrFun (hS174.2 100 (by decide)) _
                        have e190 : S21.2 100 x = S14.2 100 x := congrFun (hS21.2 100 (by decide)) _
                        have e191 : S14.2 100 x = S.2 100 x := congrFun (hS14.2 100 (by decide)) _
                        omega) (by
                        intro x
                        have e192 : S333.2 101 x = S326.2 101 x := congrFun (hS333.2 101 (by decide)) _
                        have e193 : S326.2 101 x = S275.2 101 x := congrFun (hS326.2 101 (by decide)) _
                        have e194 : S275.2 101 x = S268.2 101 x := congrFun (hS275.2 101 (by decide)) _
                        have e195 : S268.2 101 x = S211.2 101 x := congrFun (hS268.2 101 (by decide)) _
                        have e196 := hS211v x
                        have e197 : S203.2 101 x = S174.2 101 x := congrFun (hS203.2 101 (by decide)) _
                        have e198 : S174.2 101 x = S21.2 101 x := congrFun (hS174.2 101 (by decide)) _
                        have e199 : S21.2 101 x = S14.2 101 x := congrFun (hS21.2 101 (by decide)) _
                        have e200 : S14.2 101 x = S.2 101 x := congrFun (hS14.2 101 (by decide)) _
                        omega) (((Ch.tr (Ch.tr (Ch.tr (Ch.tr (Ch.tr (Ch.tr (Ch.tr (Ch.tr hS14 hS21) hS174) hS203) hS211) hS268) hS275) hS326) hS333)).1 43 (by decide)) (((Ch.tr (Ch.tr (Ch.tr (Ch.tr (Ch.tr (Ch.tr (Ch.tr (Ch.tr hS14 hS21) hS174) hS203) hS211) hS268) hS275) hS326) hS333)).2 88 (by decide)) (((Ch.tr (Ch.tr (Ch.tr (Ch.tr (Ch.tr (Ch.tr (Ch.tr (Ch.tr hS14 hS21) hS174) hS203) hS211) hS268) hS275) hS326) hS333)).2 91 (by decide)) (((Ch.tr (Ch.tr (Ch.tr (Ch.tr (Ch.tr (Ch.tr (Ch.tr (Ch.tr hS14 hS21) hS174) hS203) hS211) hS268) hS275) hS326) hS333)).2 59 (by decide)) (by omega) (fun i i0 i1 => congrFun (((Ch.tr (Ch.tr (Ch.tr (Ch.tr (Ch.tr (Ch.tr (Ch.tr (Ch.tr hS14 hS21) hS174) hS203) hS211) hS268) hS275) hS326) hS333)).2 68 (by decide)) _))⟩) ((FR.re (((Ch.tr (Ch.tr (Ch.tr (Ch.tr (Ch.tr (Ch.tr (Ch.tr hS14 hS21) hS174) hS203) hS211) hS268) hS275) hS326)).2 67 (by decide)) (((Ch.tr (Ch.tr (Ch.tr (Ch.tr (Ch.tr (Ch.tr (Ch.tr hS14 hS21) hS174) hS203) hS211) hS268) hS275) hS326)).2 68 (by decide)) (((Ch.tr (Ch.tr (Ch.tr (Ch.tr (Ch.tr (Ch.tr (Ch.tr hS14 hS21) hS174) hS203) hS211) hS268) hS275) hS326)).2 69 (by decide)) (((Ch.tr (Ch.tr (Ch.tr (Ch.tr (Ch.tr (Ch.tr (Ch.tr hS14 hS21) hS174) hS203) hS211) hS268) hS275) hS326)).2 70 (by decide))).tr ⟨fun x => Or.inr (congrFun ((hS333).2 67 (by decide)) _), fun x => Or.inr (congrFun ((hS333).2 68 (by decide)) _), fun x => by have q := n333_1 x; omega, fun x => by have q := n333_2 x; omega⟩) (by omega)
                · have e201 : S275.2 67 2 = S268.2 67 2 := congrFun (hS275.2 67 (by decide)) _
                  have e202 : S268.2 67 2 = S211.2 67 2 := congrFun (hS268.2 67 (by decide)) _
                  have e203 : S211.2 67 2 = S203.2 67 2 := congrFun (hS211.2 67 (by decide)) _
                  have e204 : S203.2 67 2 = S174.2 67 2 := congrFun (hS203.2 67 (by decide)) _
                  have e205 : S174.2 67 2 = S21.2 67 2 := congrFun (hS174.2 67 (by decide)) _
                  have e206 : S21.2 67 2 = S14.2 67 2 := congrFun (hS21.2 67 (by decide)) _
                  have e207 : S14.2 67 2 = S.2 67 2 := congrFun (hS14.2 67 (by decide)) _
                  exact hK (0) S275 (Ch.wk (Ch.tr (Ch.tr (Ch.tr (Ch.tr (Ch.tr (Ch.tr hS14 hS21) hS174) hS203) hS211) hS268) hS275) (by decide) (by decide)) (by omega) (Or.inl rfl) (FR.re (((Ch.tr (Ch.tr (Ch.tr (Ch.tr (Ch.tr (Ch.tr hS14 hS21) hS174) hS203) hS211) hS268) hS275)).2 67 (by decide)) (((Ch.tr (Ch.tr (Ch.tr (Ch.tr (Ch.tr (Ch.tr hS14 hS21) hS174) hS203) hS211) hS268) hS275)).2 68 (by decide)) (((Ch.tr (Ch.tr (Ch.tr (Ch.tr (Ch.tr (Ch.tr hS14 hS21) hS174) hS203) hS211) hS268) hS275)).2 69 (by decide)) (((Ch.tr (Ch.tr (Ch.tr (Ch.tr (Ch.tr (Ch.tr hS14 hS21) hS174) hS203) hS211) hS268) hS275)).2 70 (by decide))) (by omega)
            · refine ⟨by omega, by omega, ?_⟩
              intro q208
              have e209 : S275.2 91 (a1) = S268.2 91 (a1) := congrFun (hS275.2 91 (by decide)) _
              have e210 : S268.2 91 (a1) = S211.2 91 (a1) := congrFun (hS268.2 91 (by decide)) _
              have e211 : S211.2 91 (a1) = S203.2 91 (a1) := congrFun (hS211.2 91 (by decide)) _
              have e212 : S203.2 91 (a1) = S174.2 91 (a1) := congrFun (hS203.2 91 (by decide)) _
              have e213 : S174.2 91 (a1) = S21.2 91 (a1) := congrFun (hS174.2 91 (by decide)) _
              have e214 : S21.2 91 (a1) = S14.2 91 (a1) := congrFun (hS21.2 91 (by decide)) _
              have e215 : S14.2 91 (a1) = S.2 91 (a1) := congrFun (hS14.2 91 (by decide)) _
              refine ⟨fun h288 => ?_, fun h288 => ?_⟩
              · have e216 : S275.2 67 2 = S268.2 67 2 := congrFun (hS275.2 67 (by decide)) _
                have e217 : S268.2 67 2 = S211.2 67 2 := congrFun (hS268.2 67 (by decide)) _
                have e218 : S211.2 67 2 = S203.2 67 2 := congrFun (hS211.2 67 (by decide)) _
                have e219 : S203.2 67 2 = S174.2 67 2 := congrFun (hS203.2 67 (by decide)) _
                have e220 : S174.2 67 2 = S21.2 67 2 := congrFun (hS174.2 67 (by decide)) _
                have e221 : S21.2 67 2 = S14.2 67 2 := congrFun (hS21.2 67 (by decide)) _
                have e222 : S14.2 67 2 = S.2 67 2 := congrFun (hS14.2 67 (by decide)) _
                exact hK (0) S275 (Ch.wk (Ch.tr (Ch.tr (Ch.tr (Ch.tr (Ch.tr (Ch.tr hS14 hS21) hS174) hS203) hS211) hS268) hS275) (by decide) (by decide)) (by omega) (Or.inl rfl) (FR.re (((Ch.tr (Ch.tr (Ch.tr (Ch.tr (Ch.tr (Ch.tr hS14 hS21) hS174) hS203) hS211) hS268) hS275)).2 67 (by decide)) (((Ch.tr (Ch.tr (Ch.tr (Ch.tr (Ch.tr (Ch.tr hS14 hS21) hS174) hS203) hS211) hS268) hS275)).2 68 (by decide)) (((Ch.tr (Ch.tr (Ch.tr (Ch.tr (Ch.tr (Ch.tr hS14 hS21) hS174) hS203) hS211) hS268) hS275)).2 69 (by decide)) (((Ch.tr (Ch.tr (Ch.tr (Ch.tr (Ch.tr (Ch.tr hS14 hS21) hS174) hS203) hS211) hS268) hS275)).2 70 (by decide))) (by omega)
              · refine tX11_isBlankWithin  (fun r293 n293_0 => ?_)
                refine ⟨by omega, ?_⟩
                refine ⟨fun h296 => ?_, fun h296 => ?_⟩
                · have e223 : S275.2 67 2 = S268.2 67 2 := congrFun (hS275.2 67 (by decide)) _
                  have e224 : S268.2 67 2 = S211.2 67 2 := congrFun (hS268.2 67 (by decide)) _
                  have e225 : S211.2 67 2 = S203.2 67 2 := congrFun (hS211.2 67 (by decide)) _
                  have e226 : S203.2 67 2 = S174.2 67 2 := congrFun (hS203.2 67 (by decide)) _
                  have e227 : S174.2 67 2 = S21.2 67 2 := congrFun (hS174.2 67 (by decide)) _
                  have e228 : S21.2 67 2 = S14.2 67 2 := congrFun (hS21.2 67 (by decide)) _
                  have e229 : S14.2 67 2 = S.2 67 2 := congrFun (hS14.2 67 (by decide)) _
                  exact hK (0) S275 (Ch.wk (Ch.tr (Ch.tr (Ch.tr (Ch.tr (Ch.tr (Ch.tr hS14 hS21) hS174) hS203) hS211) hS268) hS275) (by decide) (by decide)) (by omega) (Or.inl rfl) (FR.re (((Ch.tr (Ch.tr (Ch.tr (Ch.tr (Ch.tr (Ch.tr hS14 hS21) hS174) hS203) hS211) hS268) hS275)).2 67 (by decide)) (((Ch.tr (Ch.tr (Ch.tr (Ch.tr (Ch.tr (Ch.tr hS14 hS21) hS174) hS203) hS211) hS268) hS275)).2 68 (by decide)) (((Ch.tr (Ch.tr (Ch.tr (Ch.tr (Ch.tr (Ch.tr hS14 hS21) hS174) hS203) hS211) hS268) hS275)).2 69 (by decide)) (((Ch.tr (Ch.tr (Ch.tr (Ch.tr (Ch.tr (Ch.tr hS14 hS21) hS174) hS203) hS211) hS268) hS275)).2 70 (by decide))) (by omega)
                · have e230 : S275.2 67 2 = S268.2 67 2 := congrFun (hS275.2 67 (by decide)) _
                  have e231 : S268.2 67 2 = S211.2 67 2 := congrFun (hS268.2 67 (by decide)) _
                  have e232 : S211.2 67 2 = S203.2 67 2 := congrFun (hS211.2 67 (by decide)) _
                  have e233 : S203.2 67 2 = S174.2 67 2 := congrFun (hS203.2 67 (by decide)) _
                  have e234 : S174.2 67 2 = S21.2 67 2 := congrFun (hS174.2 67 (by decide)) _
                  have e235 : S21.2 67 2 = S14.2 67 2 := congrFun (hS21.2 67 (by decide)) _
                  have e236 : S14.2 67 2 = S.2 67 2 := congrFun (hS14.2 67 (by decide)) _
                  have e237 : S275.2 98 a1 = S268.2 98 a1 := congrFun (hS275.2 98 (by decide)) _
                  have e238 : S268.2 98 a1 = ((S174.2 59 (((4 * (S21.2 68 ((60 + (S21.2 99 ((S.2 88 (a1)))))))) + r102)))) := by have q := hS268v a1; omega
                  have e239 : S211.2 98 a1 = S203.2 98 a1 := congrFun (hS211.2 98 (by decide)) _
                  have e240 : S203.2 98 a1 = S174.2 98 a1 := congrFun (hS203.2 98 (by decide)) _
                  have e241 : S174.2 98 a1 = S21.2 98 a1 := congrFun (hS174.2 98 (by decide)) _
                  have e242 : S21.2 98 a1 = S14.2 98 a1 := congrFun (hS21.2 98 (by decide)) _
                  have e243 : S14.2 98 a1 = ((-2)) := by have q := hS14v a1; omega
                  have e244 : S275.2 99 a1 = ((S21.2 99 ((S.2 88 (a1))))) := by have q := hS275v a1; omega
                  have e245 : S268.2 99 a1 = S211.2 99 a1 := congrFun (hS268.2 99 (by decide)) _
                  have e246 : S211.2 99 a1 = S203.2 99 a1 := congrFun (hS211.2 99 (by decide)) _
                  have e247 : S203.2 99 a1 = S174.2 99 a1 := congrFun (hS203.2 99 (by decide)) _
                  have e248 : S174.2 99 a1 = S21.2 99 a1 := congrFun (hS174.2 99 (by decide)) _
                  have e249 : S21.2 99 a1 = S14.2 99 a1 := congrFun (hS21.2 99 (by decide)) _
                  have e250 : S14.2 99 a1 = S.2 99 a1 := congrFun (hS14.2 99 (by decide)) _
                  have e251 : S275.2 100 a1 = S268.2 100 a1 := congrFun (hS275.2 100 (by decide)) _
                  have e252 : S268.2 100 a1 = S211.2 100 a1 := congrFun (hS268.2 100 (by decide)) _
                  have e253 : S211.2 100 a1 = S203.2 100 a1 := congrFun (hS211.2 100 (by decide)) _
                  have e254 : S203.2 100 a1 = (((4 * (60 + (S21.2 99 ((S.2 88 (a1)))))) + r102)) := by have q := hS203v a1; omega
                  have e255 : S174.2 100 a1 = S21.2 100 a1 := congrFun (hS174.2 100 (by decide)) _
                  have e256 : S21.2 100 a1 = S14.2 100 a1 := congrFun (hS21.2 100 (by decide)) _
                  have e257 : S14.2 100 a1 = S.2 100 a1 := congrFun (hS14.2 100 (by decide)) _
                  have e258 : S275.2 101 a1 = S268.2 101 a1 := congrFun (hS275.2 101 (by decide)) _
                  have e259 : S268.2 101 a1 = S211.2 101 a1 := congrFun (hS268.2 101 (by decide)) _
                  have e260 : S211.2 101 a1 = ((-2)) := by have q := hS211v a1; omega
                  have e261 : S203.2 101 a1 = S174.2 101 a1 := congrFun (hS203.2 101 (by decide)) _
                  have e262 : S174.2 101 a1 = S21.2 101 a1 := congrFun (hS174.2 101 (by decide)) _
                  have e263 : S21.2 101 a1 = S14.2 101 a1 := congrFun (hS21.2 101 (by decide)) _
                  have e264 : S14.2 101 a1 = S.2 101 a1 := congrFun (hS14.2 101 (by decide)) _
                  have e265 : S275.2 91 a1 = S268.2 91 a1 := congrFun (hS275.2 91 (by decide)) _
                  have e266 : S268.2 91 a1 = S211.2 91 a1 := congrFun (hS268.2 91 (by decide)) _
                  have e267 : S211.2 91 a1 = S203.2 91 a1 := congrFun (hS211.2 91 (by decide)) _
                  have e268 : S203.2 91 a1 = S174.2 91 a1 := congrFun (hS203.2 91 (by decide)) _
                  have e269 : S174.2 91 a1 = S21.2 91 a1 := congrFun (hS174.2 91 (by decide)) _
                  have e270 : S21.2 91 a1 = S14.2 91 a1 := congrFun (hS21.2 91 (by decide)) _
                  have e271 : S14.2 91 a1 = S.2 91 a1 := congrFun (hS14.2 91 (by decide)) _
                  have e272 : S275.1 54 43 = S268.1 54 43 := hS275.1 43 (by decide)
                  have e273 : S268.1 54 43 = S211.1 54 43 := hS268.1 43 (by decide)
                  have e274 : S211.1 54 43 = S203.1 54 43 := hS211.1 43 (by decide)
                  have e275 : S203.1 54 43 = S174.1 54 43 := hS203.1 43 (by decide)
                  have e276 : S174.1 54 43 = S21.1 54 43 := hS174.1 43 (by decide)
                  have e277 : S21.1 54 43 = S14.1 54 43 := hS21.1 43 (by decide)
                  have e278 : S14.1 54 43 = S.1 54 43 := hS14.1 43 (by decide)
                  have e279 : S275.2 88 (a1 + 1) = S268.2 88 (a1 + 1) := congrFun (hS275.2 88 (by decide)) _
                  have e280 : S268.2 88 (a1 + 1) = S211.2 88 (a1 + 1) := congrFun (hS268.2 88 (by decide)) _
                  have e281 : S211.2 88 (a1 + 1) = S203.2 88 (a1 + 1) := congrFun (hS211.2 88 (by decide)) _
                  have e282 : S203.2 88 (a1 + 1) = S174.2 88 (a1 + 1) := congrFun (hS203.2 88 (by decide)) _
                  have e283 : S174.2 88 (a1 + 1) = S21.2 88 (a1 + 1) := congrFun (hS174.2 88 (by decide)) _
                  have e284 : S21.2 88 (a1 + 1) = S14.2 88 (a1 + 1) := congrFun (hS21.2 88 (by decide)) _
                  have e285 : S14.2 88 (a1 + 1) = S.2 88 (a1 + 1) := congrFun (hS14.2 88 (by decide)) _
                  have hcA : S275.2 67 2 = S.2 67 2 := congrFun (((Ch.tr (Ch.tr (Ch.tr (Ch.tr (Ch.tr (Ch.tr hS14 hS21) hS174) hS203) hS211) hS268) hS275)).2 67 (by decide)) _
                  exact hK (1) S275 (Ch.wk (Ch.tr (Ch.tr (Ch.tr (Ch.tr (Ch.tr (Ch.tr hS14 hS21) hS174) hS203) hS211) hS268) hS275) (by decide) (by decide)) (by omega) (Or.inr ⟨p6.mv (((Ch.tr (Ch.tr (Ch.tr (Ch.tr (Ch.tr (Ch.tr hS14 hS21) hS174) hS203) hS211) hS268) hS275)).2 59 (by decide)) (((Ch.tr (Ch.tr (Ch.tr (Ch.tr (Ch.tr (Ch.tr hS14 hS21) hS174) hS203) hS211) hS268) hS275)).2 67 (by decide)) (((Ch.tr (Ch.tr (Ch.tr (Ch.tr (Ch.tr (Ch.tr hS14 hS21) hS174) hS203) hS211) hS268) hS275)).2 68 (by decide)) (((Ch.tr (Ch.tr (Ch.tr (Ch.tr (Ch.tr (Ch.tr hS14 hS21) hS174) hS203) hS211) hS268) hS275)).2 69 (by decide)), p7.mv (((Ch.tr (Ch.tr (Ch.tr (Ch.tr (Ch.tr (Ch.tr hS14 hS21) hS174) hS203) hS211) hS268) hS275)).2 59 (by decide)) (((Ch.tr (Ch.tr (Ch.tr (Ch.tr (Ch.tr (Ch.tr hS14 hS21) hS174) hS203) hS211) hS268) hS275)).2 67 (by decide)) (((Ch.tr (Ch.tr (Ch.tr (Ch.tr (Ch.tr (Ch.tr hS14 hS21) hS174) hS203) hS211) hS268) hS275)).2 68 (by decide)) (((Ch.tr (Ch.tr (Ch.tr (Ch.tr (Ch.tr (Ch.tr hS14 hS21) hS174) hS203) hS211) hS268) hS275)).2 69 (by decide)) (((Ch.tr (Ch.tr (Ch.tr (Ch.tr (Ch.tr (Ch.tr hS14 hS21) hS174) hS203) hS211) hS268) hS275)).2 70 (by decide)), (EA_step p9x (⟨Or.inr ⟨by omega, by omega, by omega, by omega, by rw [show S275.2 99 a1 = S.2 99 (S.2 88 a1) by omega, show S275.2 100 a1 - 4 * (60 + S.2 99 (S.2 88 a1)) = r102 by omega, show S275.2 68 = S.2 68 from (((Ch.tr (Ch.tr (Ch.tr (Ch.tr (Ch.tr (Ch.tr hS14 hS21) hS174) hS203) hS211) hS268) hS275)).2 68 (by decide)), show S275.2 59 = S.2 59 from (((Ch.tr (Ch.tr (Ch.tr (Ch.tr (Ch.tr (Ch.tr hS14 hS21) hS174) hS203) hS211) hS268) hS275)).2 59 (by decide))]; omega⟩, by omega, by omega, by omega⟩) (by
                        intro x
                        have e286 : S275.2 98 x = S268.2 98 x := congrFun (hS275.2 98 (by decide)) _
                        have e287 := hS268v x
                        have e288 : S211.2 98 x = S203.2 98 x := congrFun (hS211.2 98 (by decide)) _
                        have e289 : S203.2 98 x = S174.2 98 x := congrFun (hS203.2 98 (by decide)) _
                        have e290 : S174.2 98 x = S21.2 98 x := congrFun (hS174.2 98 (by decide)) _
                        have e291 : S21.2 98 x = S14.2 98 x := congrFun (hS21.2 98 (by decide)) _
                        have e292 := hS14v x
                        omega) (by
                        intro x
                        have e293 := hS275v x
                        have e294 : S268.2 99 x = S211.2 99 x := congrFun (hS268.2 99 (by decide)) _
                        have e295 : S211.2 99 x = S203.2 99 x := congrFun (hS211.2 99 (by decide)) _
                        have e296 : S203.2 99 x = S174.2 99 x := congrFun (hS203.2 99 (by decide)) _
                        have e297 : S174.2 99 x = S21.2 99 x := congrFun (hS174.2 99 (by decide)) _
                        have e298 : S21.2 99 x = S14.2 99 x := congrFun (hS21.2 99 (by decide)) _
                        have e299 : S14.2 99 x = S.2 99 x := congrFun (hS14.2 99 (by decide)) _
                        omega) (by
                        intro x
                        have e300 : S275.2 100 x = S268.2 100 x := congrFun (hS275.2 100 (by decide)) _
                        have e301 : S268.2 100 x = S211.2 100 x := congrFun (hS268.2 100 (by decide)) _
                        have e302 : S211.2 100 x = S203.2 100 x := congrFun (hS211.2 100 (by decide)) _
                        have e303 := hS203v x
                        have e304 : S174.2 100 x = S21.2 100 x := congrFun (hS174.2 100 (by decide)) _
                        have e305 : S21.2 100 x = S14.2 100 x := congrFun (hS21.2 100 (by decide)) _
                        have e306 : S14.2 100 x = S.2 100 x := congrFun (hS14.2 100 (by decide)) _
                        omega) (by
                        intro x
                        have e307 : S275.2 101 x = S268.2 101 x := congrFun (hS275.2 101 (by decide)) _
                        have e308 : S268.2 101 x = S211.2 101 x := congrFun (hS268.2 101 (by decide)) _
                        have e309 := hS211v x
                        have e310 : S203.2 101 x = S174.2 101 x := congrFun (hS203.2 101 (by decide)) _
                        have e311 : S174.2 101 x = S21.2 101 x := congrFun (hS174.2 101 (by decide)) _
                        have e312 : S21.2 101 x = S14.2 101 x := congrFun (hS21.2 101 (by decide)) _
                        have e313 : S14.2 101 x = S.2 101 x := congrFun (hS14.2 101 (by decide)) _
                        omega) (((Ch.tr (Ch.tr (Ch.tr (Ch.tr (Ch.tr (Ch.tr hS14 hS21) hS174) hS203) hS211) hS268) hS275)).1 43 (by decide)) (((Ch.tr (Ch.tr (Ch.tr (Ch.tr (Ch.tr (Ch.tr hS14 hS21) hS174) hS203) hS211) hS268) hS275)).2 88 (by decide)) (((Ch.tr (Ch.tr (Ch.tr (Ch.tr (Ch.tr (Ch.tr hS14 hS21) hS174) hS203) hS211) hS268) hS275)).2 91 (by decide)) (((Ch.tr (Ch.tr (Ch.tr (Ch.tr (Ch.tr (Ch.tr hS14 hS21) hS174) hS203) hS211) hS268) hS275)).2 59 (by decide)) (by omega) (fun i i0 i1 => congrFun (((Ch.tr (Ch.tr (Ch.tr (Ch.tr (Ch.tr (Ch.tr hS14 hS21) hS174) hS203) hS211) hS268) hS275)).2 68 (by decide)) _))⟩) (FR.re (((Ch.tr (Ch.tr (Ch.tr (Ch.tr (Ch.tr (Ch.tr hS14 hS21) hS174) hS203) hS211) hS268) hS275)).2 67 (by decide)) (((Ch.tr (Ch.tr (Ch.tr (Ch.tr (Ch.tr (Ch.tr hS14 hS21) hS174) hS203) hS211) hS268) hS275)).2 68 (by decide)) (((Ch.tr (Ch.tr (Ch.tr (Ch.tr (Ch.tr (Ch.tr hS14 hS21) hS174) hS203) hS211) hS268) hS275)).2 69 (by decide)) (((Ch.tr (Ch.tr (Ch.tr (Ch.tr (Ch.tr (Ch.tr hS14 hS21) hS174) hS203) hS211) hS268) hS275)).2 70 (by decide))) (by omega)
          · have e314 : S211.1 54 43 = S203.1 54 43 := hS211.1 43 (by decide)
            have e315 : S203.1 54 43 = S174.1 54 43 := hS203.1 43 (by decide)
            have e316 : S174.1 54 43 = S21.1 54 43 := hS174.1 43 (by decide)
            have e317 : S21.1 54 43 = S14.1 54 43 := hS21.1 43 (by decide)
            have e318 : S14.1 54 43 = S.1 54 43 := hS14.1 43 (by decide)
            have e319 : S211.1 54 43 = S203.1 54 43 := hS211.1 43 (by decide)
            have e320 : S203.1 54 43 = S174.1 54 43 := hS203.1 43 (by decide)
            have e321 : S174.1 54 43 = S21.1 54 43 := hS174.1 43 (by decide)
            have e322 : S21.1 54 43 = S14.1 54 43 := hS21.1 43 (by decide)
            have e323 : S14.1 54 43 = S.1 54 43 := hS14.1 43 (by decide)
            have e324 : S211.1 54 51 = S203.1 54 51 := hS211.1 51 (by decide)
            have e325 : S203.1 54 51 = S174.1 54 51 := hS203.1 51 (by decide)
            have e326 : S174.1 54 51 = S21.1 54 51 := hS174.1 51 (by decide)
            have e327 : S21.1 54 51 = S14.1 54 51 := hS21.1 51 (by decide)
            have e328 : S14.1 54 51 = S.1 54 51 := hS14.1 51 (by decide)
            have e329 : S211.2 67 2 = S203.2 67 2 := congrFun (hS211.2 67 (by decide)) _
            have e330 : S203.2 67 2 = S174.2 67 2 := congrFun (hS203.2 67 (by decide)) _
            have e331 : S174.2 67 2 = S21.2 67 2 := congrFun (hS174.2 67 (by decide)) _
            have e332 : S21.2 67 2 = S14.2 67 2 := congrFun (hS21.2 67 (by decide)) _
            have e333 : S14.2 67 2 = S.2 67 2 := congrFun (hS14.2 67 (by decide)) _
            have e334 : S211.1 54 56 = S203.1 54 56 := hS211.1 56 (by decide)
            have e335 : S203.1 54 56 = S174.1 54 56 := hS203.1 56 (by decide)
            have e336 : S174.1 54 56 = S21.1 54 56 := hS174.1 56 (by decide)
            have e337 : S21.1 54 56 = S14.1 54 56 := hS21.1 56 (by decide)
            have e338 : S14.1 54 56 = S.1 54 56 := hS14.1 56 (by decide)
            have e339 : S211.2 91 (a1) = S203.2 91 (a1) := congrFun (hS211.2 91 (by decide)) _
            have e340 : S203.2 91 (a1) = S174.2 91 (a1) := congrFun (hS203.2 91 (by decide)) _
            have e341 : S174.2 91 (a1) = S21.2 91 (a1) := congrFun (hS174.2 91 (by decide)) _
            have e342 : S21.2 91 (a1) = S14.2 91 (a1) := congrFun (hS21.2 91 (by decide)) _
            have e343 : S14.2 91 (a1) = S.2 91 (a1) := congrFun (hS14.2 91 (by decide)) _
            have e344 : S211.1 54 43 = S203.1 54 43 := hS211.1 43 (by decide)
            have e345 : S203.1 54 43 = S174.1 54 43 := hS203.1 43 (by decide)
            have e346 : S174.1 54 43 = S21.1 54 43 := hS174.1 43 (by decide)
            have e347 : S21.1 54 43 = S14.1 54 43 := hS21.1 43 (by decide)
            have e348 : S14.1 54 43 = S.1 54 43 := hS14.1 43 (by decide)
            have e349 : S211.2 88 ((a1) + 1) = S203.2 88 ((a1) + 1) := congrFun (hS211.2 88 (by decide)) _
            have e350 : S203.2 88 ((a1) + 1) = S174.2 88 ((a1) + 1) := congrFun (hS203.2 88 (by decide)) _
            have e351 : S174.2 88 ((a1) + 1) = S21.2 88 ((a1) + 1) := congrFun (hS174.2 88 (by decide)) _
            have e352 : S21.2 88 ((a1) + 1) = S14.2 88 ((a1) + 1) := congrFun (hS21.2 88 (by decide)) _
            have e353 : S14.2 88 ((a1) + 1) = S.2 88 ((a1) + 1) := congrFun (hS14.2 88 (by decide)) _
            refine tX11_isObjectElement (by omega) (by omega) (by omega) (by omega) (by omega) (by omega) (by omega) (by omega) (by omega) (by omega) (fun r221 S221 hS221 n221_0 n221_1 n221_2 n221_3 n221_4 n221_5 => ?_)
            refine ⟨by omega, by omega, ?_⟩
            intro q354
            have e355 : S221.2 100 (a1) = S211.2 100 (a1) := congrFun (hS221.2 100 (by decide)) _
            have e356 : S211.2 100 (a1) = S203.2 100 (a1) := congrFun (hS211.2 100 (by decide)) _
            have e357 : S203.2 100 (a1) = (((4 * (60 + (S21.2 99 ((S.2 88 (a1)))))) + r102)) := by have q := hS203v (a1); omega
            have e358 : S174.2 100 (a1) = S21.2 100 (a1) := congrFun (hS174.2 100 (by decide)) _
            have e359 : S21.2 100 (a1) = S14.2 100 (a1) := congrFun (hS21.2 100 (by decide)) _
            have e360 : S14.2 100 (a1) = S.2 100 (a1) := congrFun (hS14.2 100 (by decide)) _
            refine ⟨by omega, by omega, ?_⟩
            intro q361
            first | have e362 : S221.2 98 (a1) = S211.2 98 (a1) := by have q := n221_3 (a1); omega | have e362 := n221_3 (a1)
            have e363 : S211.2 98 (a1) = S203.2 98 (a1) := congrFun (hS211.2 98 (by decide)) _
            have e364 : S203.2 98 (a1) = S174.2 98 (a1) := congrFun (hS203.2 98 (by decide)) _
            have e365 : S174.2 98 (a1) = S21.2 98 (a1) := congrFun (hS174.2 98 (by decide)) _
            have e366 : S21.2 98 (a1) = S14.2 98 (a1) := congrFun (hS21.2 98 (by decide)) _
            have e367 : S14.2 98 (a1) = ((-2)) := by have q := hS14v (a1); omega
            refine ⟨fun h243 => ?_, fun h243 => ?_⟩
            · refine ⟨by omega, by omega, ?_⟩
              intro S257 hS257e
              have hS257 : Ch [] [69] S221 S257 := Ch_A hS257e
              have hS257v : ∀ x, (x = S221.2 100 (a1) ∧ S257.2 69 x = (-2)) ∨ (¬ x = S221.2 100 (a1) ∧ S257.2 69 x = S221.2 69 x) := pA_at hS257e
              refine ⟨by omega, ?_⟩
              have e368 : S257.2 67 2 = S221.2 67 2 := congrFun (hS257.2 67 (by decide)) _
              have e369 : S257.2 98 a1 = S221.2 98 a1 := congrFun (hS257.2 98 (by decide)) _
              first | have e370 : S221.2 98 a1 = S211.2 98 a1 := by have q := n221_3 a1; omega | have e370 := n221_3 a1
              have e371 : S211.2 98 a1 = S203.2 98 a1 := congrFun (hS211.2 98 (by decide)) _
              have e372 : S203.2 98 a1 = S174.2 98 a1 := congrFun (hS203.2 98 (by decide)) _
              have e373 : S174.2 98 a1 = S21.2 98 a1 := congrFun (hS174.2 98 (by decide)) _
              have e374 : S21.2 98 a1 = S14.2 98 a1 := congrFun (hS21.2 98 (by decide)) _
              have e375 : S14.2 98 a1 = ((-2)) := by have q := hS14v a1; omega
              have e376 : S257.2 99 a1 = S221.2 99 a1 := congrFun (hS257.2 99 (by decide)) _
              first | have e377 : S221.2 99 a1 = S211.2 99 a1 := by have q := n221_4 a1; omega | have e377 := n221_4 a1
              have e378 : S211.2 99 a1 = S203.2 99 a1 := congrFun (hS211.2 99 (by decide)) _
              have e379 : S203.2 99 a1 = S174.2 99 a1 := congrFun (hS203.2 99 (by decide)) _
              have e380 : S174.2 99 a1 = S21.2 99 a1 := congrFun (hS174.2 99 (by decide)) _
              have e381 : S21.2 99 a1 = S14.2 99 a1 := congrFun (hS21.2 99 (by decide)) _
              have e382 : S14.2 99 a1 = S.2 99 a1 := congrFun (hS14.2 99 (by decide)) _
              have e383 : S257.2 100 a1 = S221.2 100 a1 := congrFun (hS257.2 100 (by decide)) _
              have e384 : S221.2 100 a1 = S211.2 100 a1 := congrFun (hS221.2 100 (by decide)) _
              have e385 : S211.2 100 a1 = S203.2 100 a1 := congrFun (hS211.2 100 (by decide)) _
              have e386 : S203.2 100 a1 = (((4 * (60 + (S21.2 99 ((S.2 88 (a1)))))) + r102)) := by have q := hS203v a1; omega
              have e387 : S174.2 100 a1 = S21.2 100 a1 := congrFun (hS174.2 100 (by decide)) _
              have e388 : S21.2 100 a1 = S14.2 100 a1 := congrFun (hS21.2 100 (by decide)) _
              have e389 : S14.2 100 a1 = S.2 100 a1 := congrFun (hS14.2 100 (by decide)) _
              have e390 : S257.2 101 a1 = S221.2 101 a1 := congrFun (hS257.2 101 (by decide)) _
              have e391 : S221.2 101 a1 = S211.2 101 a1 := congrFun (hS221.2 101 (by decide)) _
              have e392 : S211.2 101 a1 = ((-2)) := by have q := hS211v a1; omega
              have e393 : S203.2 101 a1 = S174.2 101 a1 := congrFun (hS203.2 101 (by decide)) _
              have e394 : S174.2 101 a1 = S21.2 101 a1 := congrFun (hS174.2 101 (by decide)) _
              have e395 : S21.2 101 a1 = S14.2 101 a1 := congrFun (hS21.2 101 (by decide)) _
              have e396 : S14.2 101 a1 = S.2 101 a1 := congrFun (hS14.2 101 (by decide)) _
              have e397 : S257.2 91 a1 = S221.2 91 a1 := congrFun (hS257.2 91 (by decide)) _
              have e398 : S221.2 91 a1 = S211.2 91 a1 := congrFun (hS221.2 91 (by decide)) _
              have e399 : S211.2 91 a1 = S203.2 91 a1 := congrFun (hS211.2 91 (by decide)) _
              have e400 : S203.2 91 a1 = S174.2 91 a1 := congrFun (hS203.2 91 (by decide)) _
              have e401 : S174.2 91 a1 = S21.2 91 a1 := congrFun (hS174.2 91 (by decide)) _
              have e402 : S21.2 91 a1 = S14.2 91 a1 := congrFun (hS21.2 91 (by decide)) _
              have e403 : S14.2 91 a1 = S.2 91 a1 := congrFun (hS14.2 91 (by decide)) _
              have e404 : S257.1 54 43 = S221.1 54 43 := hS257.1 43 (by decide)
              have e405 : S221.1 54 43 = S211.1 54 43 := hS221.1 43 (by decide)
              have e406 : S211.1 54 43 = S203.1 54 43 := hS211.1 43 (by decide)
              have e407 : S203.1 54 43 = S174.1 54 43 := hS203.1 43 (by decide)
              have e408 : S174.1 54 43 = S21.1 54 43 := hS174.1 43 (by decide)
              have e409 : S21.1 54 43 = S14.1 54 43 := hS21.1 43 (by decide)
              have e410 : S14.1 54 43 = S.1 54 43 := hS14.1 43 (by decide)
              have e411 : S257.2 88 (a1 + 1) = S221.2 88 (a1 + 1) := congrFun (hS257.2 88 (by decide)) _
              have e412 : S221.2 88 (a1 + 1) = S211.2 88 (a1 + 1) := congrFun (hS221.2 88 (by decide)) _
              have e413 : S211.2 88 (a1 + 1) = S203.2 88 (a1 + 1) := congrFun (hS211.2 88 (by decide)) _
              have e414 : S203.2 88 (a1 + 1) = S174.2 88 (a1 + 1) := congrFun (hS203.2 88 (by decide)) _
              have e415 : S174.2 88 (a1 + 1) = S21.2 88 (a1 + 1) := congrFun (hS174.2 88 (by decide)) _
              have e416 : S21.2 88 (a1 + 1) = S14.2 88 (a1 + 1) := congrFun (hS21.2 88 (by decide)) _
              have e417 : S14.2 88 (a1 + 1) = S.2 88 (a1 + 1) := congrFun (hS14.2 88 (by decide)) _
              have hcA : S211.2 67 2 = S.2 67 2 := congrFun (((Ch.tr (Ch.tr (Ch.tr (Ch.tr hS14 hS21) hS174) hS203) hS211)).2 67 (by decide)) _
              have hcB := n221_1.1
              have hcC : S257.2 67 2 = S221.2 67 2 := congrFun ((hS257).2 67 (by decide)) _
              have hOLp : OLg S211 2 60 := p7.mv (((Ch.tr (Ch.tr (Ch.tr (Ch.tr hS14 hS21) hS174) hS203) hS211)).2 59 (by decide)) (((Ch.tr (Ch.tr (Ch.tr (Ch.tr hS14 hS21) hS174) hS203) hS211)).2 67 (by decide)) (((Ch.tr (Ch.tr (Ch.tr (Ch.tr hS14 hS21) hS174) hS203) hS211)).2 68 (by decide)) (((Ch.tr (Ch.tr (Ch.tr (Ch.tr hS14 hS21) hS174) hS203) hS211)).2 69 (by decide)) (((Ch.tr (Ch.tr (Ch.tr (Ch.tr hS14 hS21) hS174) hS203) hS211)).2 70 (by decide))
              have hOKp : OKg S211 2 60 := p6.mv (((Ch.tr (Ch.tr (Ch.tr (Ch.tr hS14 hS21) hS174) hS203) hS211)).2 59 (by decide)) (((Ch.tr (Ch.tr (Ch.tr (Ch.tr hS14 hS21) hS174) hS203) hS211)).2 67 (by decide)) (((Ch.tr (Ch.tr (Ch.tr (Ch.tr hS14 hS21) hS174) hS203) hS211)).2 68 (by decide)) (((Ch.tr (Ch.tr (Ch.tr (Ch.tr hS14 hS21) hS174) hS203) hS211)).2 69 (by decide))
              have hOL2 := OLg_OE hOLp hOKp ((hS221).2 59 (by decide)) n221_1
              have hfo : S221.2 100 a1 = 4 * (60 + S.2 99 (S.2 88 a1)) + r102 := by
                rw [show S221.2 100 = S203.2 100 from (((Ch.tr hS211 hS221)).2 100 (by decide))]
                have q := hS203v a1
                omega
              have hk2 : S221.2 68 (60 + S.2 99 (S.2 88 a1)) = S.2 68 (60 + S.2 99 (S.2 88 a1)) := by
                have q := n221_1.2.2.1 (60 + S.2 99 (S.2 88 a1))
                have q1 : S211.2 67 2 = S.2 67 2 := congrFun (((Ch.tr (Ch.tr (Ch.tr (Ch.tr hS14 hS21) hS174) hS203) hS211)).2 67 (by decide)) _
                have q2 : S211.2 68 (60 + S.2 99 (S.2 88 a1)) = S.2 68 (60 + S.2 99 (S.2 88 a1)) := congrFun (((Ch.tr (Ch.tr (Ch.tr (Ch.tr hS14 hS21) hS174) hS203) hS211)).2 68 (by decide)) _
                omega
              have h59 : S221.2 59 = S.2 59 := (((Ch.tr (Ch.tr (Ch.tr (Ch.tr (Ch.tr hS14 hS21) hS174) hS203) hS211) hS221)).2 59 (by decide))
              have hv9 : ∀ x : Int, x = 4 * (60 + S.2 99 (S.2 88 a1)) + r102 ∨ S257.2 69 x = S221.2 69 x := by
                intro x
                have q := hS257v x
                rw [hfo] at q
                omega
              have hvk : S257.2 69 (4 * (60 + S.2 99 (S.2 88 a1)) + r102) = ((-2)) := by
                have q := hS257v (4 * (60 + S.2 99 (S.2 88 a1)) + r102)
                rw [hfo] at q
                omega
              exact hK (r221) S257 (Ch.wk (Ch.tr (Ch.tr (Ch.tr (Ch.tr (Ch.tr (Ch.tr hS14 hS21) hS174) hS203) hS211) hS221) hS257) (by decide) (by decide)) (by omega) (by
                    rcases n221_5 with h | h
                    · exact Or.inl h
                    · refine Or.inr ⟨OK_slot n221_2 ((hS257).2 59 (by decide)) ((hS257).2 67 (by decide)) ((hS257).2 68 (by decide)) hv9 (fun x y x0 x1 y0 y1 q => ?_), OL_slot hOL2 n221_2 ((hS257).2 59 (by decide)) ((hS257).2 67 (by decide)) ((hS257).2 68 (by decide)) hv9 (fun x => Or.inr (congrFun ((hS257).2 70 (by decide)) _)) (fun x y z x0 x1 y0 y1 q k3 z0 z1 => ?_), (EA_step p9x (⟨Or.inl (by omega), by omega, ?_, by omega⟩) (by
                    intro x
                    have e418 : S257.2 98 x = S221.2 98 x := congrFun (hS257.2 98 (by decide)) _
                    have e419 := n221_3 x
                    have e420 : S211.2 98 x = S203.2 98 x := congrFun (hS211.2 98 (by decide)) _
                    have e421 : S203.2 98 x = S174.2 98 x := congrFun (hS203.2 98 (by decide)) _
                    have e422 : S174.2 98 x = S21.2 98 x := congrFun (hS174.2 98 (by decide)) _
                    have e423 : S21.2 98 x = S14.2 98 x := congrFun (hS21.2 98 (by decide)) _
                    have e424 := hS14v x
                    omega) (by
                    intro x
                    have e425 : S257.2 99 x = S221.2 99 x := congrFun (hS257.2 99 (by decide)) _
                    have e426 := n221_4 x
                    have e427 : S211.2 99 x = S203.2 99 x := congrFun (hS211.2 99 (by decide)) _
                    have e428 : S203.2 99 x = S174.2 99 x := congrFun (hS203.2 99 (by decide)) _
                    have e429 : S174.2 99 x = S21.2 99 x := congrFun (hS174.2 99 (by decide)) _
                    have e430 : S21.2 99 x = S14.2 99 x := congrFun (hS21.2 99 (by decide)) _
                    have e431 : S14.2 99 x = S.2 99 x := congrFun (hS14.2 99 (by decide)) _
                    omega) (by
                    intro x
                    have e432 : S257.2 100 x = S221.2 100 x := congrFun (hS257.2 100 (by decide)) _
                    have e433 : S221.2 100 x = S211.2 100 x := congrFun (hS221.2 100 (by decide)) _
                    have e434 : S211.2 100 x = S203.2 100 x := congrFun (hS211.2 100 (by decide)) _
                    have e435 := hS203v x
                    have e436 : S174.2 100 x = S21.2 100 x := congrFun (hS174.2 100 (by decide)) _
                    have e437 : S21.2 100 x = S14.2 100 x := congrFun (hS21.2 100 (by decide)) _
                    have e438 : S14.2 100 x = S.2 100 x := congrFun (hS14.2 100 (by decide)) _
                    omega) (by
                    intro x
                    have e439 : S257.2 101 x = S221.2 101 x := congrFun (hS257.2 101 (by decide)) _
                    have e440 : S221.2 101 x = S211.2 101 x := congrFun (hS221.2 101 (by decide)) _
                    have e441 := hS211v x
                    have e442 : S203.2 101 x = S174.2 101 x := congrFun (hS203.2 101 (by decide)) _
                    have e443 : S174.2 101 x = S21.2 101 x := congrFun (hS174.2 101 (by decide)) _
                    have e444 : S21.2 101 x = S14.2 101 x := congrFun (hS21.2 101 (by decide)) _
                    have e445 : S14.2 101 x = S.2 101 x := congrFun (hS14.2 101 (by decide)) _
                    omega) (((Ch.tr (Ch.tr (Ch.tr (Ch.tr (Ch.tr (Ch.tr hS14 hS21) hS174) hS203) hS211) hS221) hS257)).1 43 (by decide)) (((Ch.tr (Ch.tr (Ch.tr (Ch.tr (Ch.tr (Ch.tr hS14 hS21) hS174) hS203) hS211) hS221) hS257)).2 88 (by decide)) (((Ch.tr (Ch.tr (Ch.tr (Ch.tr (Ch.tr (Ch.tr hS14 hS21) hS174) hS203) hS211) hS221) hS257)).2 91 (by decide)) (((Ch.tr (Ch.tr (Ch.tr (Ch.tr (Ch.tr (Ch.tr hS14 hS21) hS174) hS203) hS211) hS221) hS257)).2 59 (by decide)) (by omega) (fun i i0 i1 => by
                    have q := n221_1.2.2.1 (60 + i)
                    have q1 : S211.2 67 2 = S.2 67 2 := congrFun (((Ch.tr (Ch.tr (Ch.tr (Ch.tr hS14 hS21) hS174) hS203) hS211)).2 67 (by decide)) _
                    have q2 : S211.2 68 (60 + i) = S.2 68 (60 + i) := congrFun (((Ch.tr (Ch.tr (Ch.tr (Ch.tr hS14 hS21) hS174) hS203) hS211)).2 68 (by decide)) _
                    have q3 : S257.2 68 (60 + i) = S221.2 68 (60 + i) := congrFun ((hS257).2 68 (by decide)) _
                    omega))⟩
                      · have ex : x = S.2 99 (S.2 88 a1) := by omega
                        have ey : y = r102 := by omega
                        rw [ex, ey, hk2, h59, hvk]
                        unfold tyV
                        omega
                      · have ex : x = S.2 99 (S.2 88 a1) := by omega
                        have ey : y = r102 := by omega
                        rw [ex, ey, hk2, h59] at k3
                        omega
                      · by_cases h5 : S257.2 98 a1 = 5
                        · refine Or.inr ⟨by omega, Or.inr ⟨by omega, by omega, Or.inr ?_⟩⟩
                          unfold rk
                          rw [show S257.2 100 a1 = 4 * (60 + S.2 99 (S.2 88 a1)) + r102 by omega, show (4 * (60 + S.2 99 (S.2 88 a1)) + r102 - 240) / 4 = S.2 99 (S.2 88 a1) by omega, show (4 * (60 + S.2 99 (S.2 88 a1)) + r102 - 240) % 4 = r102 by omega, show S257.2 68 = S221.2 68 from ((hS257).2 68 (by decide)), hk2, show S257.2 59 = S.2 59 from (((Ch.tr (Ch.tr (Ch.tr (Ch.tr (Ch.tr (Ch.tr hS14 hS21) hS174) hS203) hS211) hS221) hS257)).2 59 (by decide))]
                          omega
                        · exact Or.inl h5) (((FR.re (((Ch.tr (Ch.tr (Ch.tr (Ch.tr hS14 hS21) hS174) hS203) hS211)).2 67 (by decide)) (((Ch.tr (Ch.tr (Ch.tr (Ch.tr hS14 hS21) hS174) hS203) hS211)).2 68 (by decide)) (((Ch.tr (Ch.tr (Ch.tr (Ch.tr hS14 hS21) hS174) hS203) hS211)).2 69 (by decide)) (((Ch.tr (Ch.tr (Ch.tr (Ch.tr hS14 hS21) hS174) hS203) hS211)).2 70 (by decide))).tr (n221_1.fr (by have q : S211.2 67 2 = S.2 67 2 := congrFun (((Ch.tr (Ch.tr (Ch.tr (Ch.tr hS14 hS21) hS174) hS203) hS211)).2 67 (by decide)) _; omega))).tr ⟨fun x => Or.inr (congrFun ((hS257).2 67 (by decide)) _), fun x => Or.inr (congrFun ((hS257).2 68 (by decide)) _), fun x => by have q := hv9 x; omega, fun x => Or.inr (congrFun ((hS257).2 70 (by decide)) _)⟩) (by omega)
            · refine ⟨by omega, by omega, ?_⟩
              intro q446
              first | have e447 : S221.2 99 (a1) = S211.2 99 (a1) := by have q := n221_4 (a1); omega | have e447 := n221_4 (a1)
              have e448 : S211.2 99 (a1) = S203.2 99 (a1) := congrFun (hS211.2 99 (by decide)) _
              have e449 : S203.2 99 (a1) = S174.2 99 (a1) := congrFun (hS203.2 99 (by decide)) _
              have e450 : S174.2 99 (a1) = S21.2 99 (a1) := congrFun (hS174.2 99 (by decide)) _
              have e451 : S21.2 99 (a1) = S14.2 99 (a1) := congrFun (hS21.2 99 (by decide)) _
              have e452 : S14.2 99 (a1) = S.2 99 (a1) := congrFun (hS14.2 99 (by decide)) _
              refine ⟨by omega, by omega, ?_⟩
              refine ⟨by omega, ?_⟩
              intro S257 hS257e
              have hS257 : Ch [] [69] S221 S257 := Ch_A hS257e
              have hS257v : ∀ x, (x = S221.2 100 (a1) ∧ S257.2 69 x = S221.2 99 (a1)) ∨ (¬ x = S221.2 100 (a1) ∧ S257.2 69 x = S221.2 69 x) := pA_at hS257e
              refine ⟨by omega, ?_⟩
              have e453 : S257.2 67 2 = S221.2 67 2 := congrFun (hS257.2 67 (by decide)) _
              have e454 : S257.2 98 a1 = S221.2 98 a1 := congrFun (hS257.2 98 (by decide)) _
              first | have e455 : S221.2 98 a1 = S211.2 98 a1 := by have q := n221_3 a1; omega | have e455 := n221_3 a1
              have e456 : S211.2 98 a1 = S203.2 98 a1 := congrFun (hS211.2 98 (by decide)) _
              have e457 : S203.2 98 a1 = S174.2 98 a1 := congrFun (hS203.2 98 (by decide)) _
              have e458 : S174.2 98 a1 = S21.2 98 a1 := congrFun (hS174.2 98 (by decide)) _
              have e459 : S21.2 98 a1 = S14.2 98 a1 := congrFun (hS21.2 98 (by decide)) _
              have e460 : S14.2 98 a1 = ((-2)) := by have q := hS14v a1; omega
              have e461 : S257.2 99 a1 = S221.2 99 a1 := congrFun (hS257.2 99 (by decide)) _
              first | have e462 : S221.2 99 a1 = S211.2 99 a1 := by have q := n221_4 a1; omega | have e462 := n221_4 a1
              have e463 : S211.2 99 a1 = S203.2 99 a1 := congrFun (hS211.2 99 (by decide)) _
              have e464 : S203.2 99 a1 = S174.2 99 a1 := congrFun (hS203.2 99 (by decide)) _
              have e465 : S174.2 99 a1 = S21.2 99 a1 := congrFun (hS174.2 99 (by decide)) _
              have e466 : S21.2 99 a1 = S14.2 99 a1 := congrFun (hS21.2 99 (by decide)) _
              have e467 : S14.2 99 a1 = S.2 99 a1 := congrFun (hS14.2 99 (by decide)) _
              have e468 : S257.2 100 a1 = S221.2 100 a1 := congrFun (hS257.2 100 (by decide)) _
              have e469 : S221.2 100 a1 = S211.2 100 a1 := congrFun (hS221.2 100 (by decide)) _
              have e470 : S211.2 100 a1 = S203.2 100 a1 := congrFun (hS211.2 100 (by decide)) _
              have e471 : S203.2 100 a1 = (((4 * (60 + (S21.2 99 ((S.2 88 (a1)))))) + r102)) := by have q := hS203v a1; omega
              have e472 : S174.2 100 a1 = S21.2 100 a1 := congrFun (hS174.2 100 (by decide)) _
              have e473 : S21.2 100 a1 = S14.2 100 a1 := congrFun (hS21.2 100 (by decide)) _
              have e474 : S14.2 100 a1 = S.2 100 a1 := congrFun (hS14.2 100 (by decide)) _
              have e475 : S257.2 101 a1 = S221.2 101 a1 := congrFun (hS257.2 101 (by decide)) _
              have e476 : S221.2 101 a1 = S211.2 101 a1 := congrFun (hS221.2 101 (by decide)) _
              have e477 : S211.2 101 a1 = ((-2)) := by have q := hS211v a1; omega
              have e478 : S203.2 101 a1 = S174.2 101 a1 := congrFun (hS203.2 101 (by decide)) _
              have e479 : S174.2 101 a1 = S21.2 101 a1 := congrFun (hS174.2 101 (by decide)) _
              have e480 : S21.2 101 a1 = S14.2 101 a1 := congrFun (hS21.2 101 (by decide)) _
              have e481 : S14.2 101 a1 = S.2 101 a1 := congrFun (hS14.2 101 (by decide)) _
              have e482 : S257.2 91 a1 = S221.2 91 a1 := congrFun (hS257.2 91 (by decide)) _
              have e483 : S221.2 91 a1 = S211.2 91 a1 := congrFun (hS221.2 91 (by decide)) _
              have e484 : S211.2 91 a1 = S203.2 91 a1 := congrFun (hS211.2 91 (by decide)) _
              have e485 : S203.2 91 a1 = S174.2 91 a1 := congrFun (hS203.2 91 (by decide)) _
              have e486 : S174.2 91 a1 = S21.2 91 a1 := congrFun (hS174.2 91 (by decide)) _
              have e487 : S21.2 91 a1 = S14.2 91 a1 := congrFun (hS21.2 91 (by decide)) _
              have e488 : S14.2 91 a1 = S.2 91 a1 := congrFun (hS14.2 91 (by decide)) _
              have e489 : S257.1 54 43 = S221.1 54 43 := hS257.1 43 (by decide)
              have e490 : S221.1 54 43 = S211.1 54 43 := hS221.1 43 (by decide)
              have e491 : S211.1 54 43 = S203.1 54 43 := hS211.1 43 (by decide)
              have e492 : S203.1 54 43 = S174.1 54 43 := hS203.1 43 (by decide)
              have e493 : S174.1 54 43 = S21.1 54 43 := hS174.1 43 (by decide)
              have e494 : S21.1 54 43 = S14.1 54 43 := hS21.1 43 (by decide)
              have e495 : S14.1 54 43 = S.1 54 43 := hS14.1 43 (by decide)
              have e496 : S257.2 88 (a1 + 1) = S221.2 88 (a1 + 1) := congrFun (hS257.2 88 (by decide)) _
              have e497 : S221.2 88 (a1 + 1) = S211.2 88 (a1 + 1) := congrFun (hS221.2 88 (by decide)) _
              have e498 : S211.2 88 (a1 + 1) = S203.2 88 (a1 + 1) := congrFun (hS211.2 88 (by decide)) _
              have e499 : S203.2 88 (a1 + 1) = S174.2 88 (a1 + 1) := congrFun (hS203.2 88 (by decide)) _
              have e500 : S174.2 88 (a1 + 1) = S21.2 88 (a1 + 1) := congrFun (hS174.2 88 (by decide)) _
              have e501 : S21.2 88 (a1 + 1) = S14.2 88 (a1 + 1) := congrFun (hS21.2 88 (by decide)) _
              have e502 : S14.2 88 (a1 + 1) = S.2 88 (a1 + 1) := congrFun (hS14.2 88 (by decide)) _
              have hcA : S211.2 67 2 = S.2 67 2 := congrFun (((Ch.tr (Ch.tr (Ch.tr (Ch.tr hS14 hS21) hS174) hS203) hS211)).2 67 (by decide)) _
              have hcB := n221_1.1
              have hcC : S257.2 67 2 = S221.2 67 2 := congrFun ((hS257).2 67 (by decide)) _
              have hOLp : OLg S211 2 60 := p7.mv (((Ch.tr (Ch.tr (Ch.tr (Ch.tr hS14 hS21) hS174) hS203) hS211)).2 59 (by decide)) (((Ch.tr (Ch.tr (Ch.tr (Ch.tr hS14 hS21) hS174) hS203) hS211)).2 67 (by decide)) (((Ch.tr (Ch.tr (Ch.tr (Ch.tr hS14 hS21) hS174) hS203) hS211)).2 68 (by decide)) (((Ch.tr (Ch.tr (Ch.tr (Ch.tr hS14 hS21) hS174) hS203) hS211)).2 69 (by decide)) (((Ch.tr (Ch.tr (Ch.tr (Ch.tr hS14 hS21) hS174) hS203) hS211)).2 70 (by decide))
              have hOKp : OKg S211 2 60 := p6.mv (((Ch.tr (Ch.tr (Ch.tr (Ch.tr hS14 hS21) hS174) hS203) hS211)).2 59 (by decide)) (((Ch.tr (Ch.tr (Ch.tr (Ch.tr hS14 hS21) hS174) hS203) hS211)).2 67 (by decide)) (((Ch.tr (Ch.tr (Ch.tr (Ch.tr hS14 hS21) hS174) hS203) hS211)).2 68 (by decide)) (((Ch.tr (Ch.tr (Ch.tr (Ch.tr hS14 hS21) hS174) hS203) hS211)).2 69 (by decide))
              have hOL2 := OLg_OE hOLp hOKp ((hS221).2 59 (by decide)) n221_1
              have hfo : S221.2 100 a1 = 4 * (60 + S.2 99 (S.2 88 a1)) + r102 := by
                rw [show S221.2 100 = S203.2 100 from (((Ch.tr hS211 hS221)).2 100 (by decide))]
                have q := hS203v a1
                omega
              have hk2 : S221.2 68 (60 + S.2 99 (S.2 88 a1)) = S.2 68 (60 + S.2 99 (S.2 88 a1)) := by
                have q := n221_1.2.2.1 (60 + S.2 99 (S.2 88 a1))
                have q1 : S211.2 67 2 = S.2 67 2 := congrFun (((Ch.tr (Ch.tr (Ch.tr (Ch.tr hS14 hS21) hS174) hS203) hS211)).2 67 (by decide)) _
                have q2 : S211.2 68 (60 + S.2 99 (S.2 88 a1)) = S.2 68 (60 + S.2 99 (S.2 88 a1)) := congrFun (((Ch.tr (Ch.tr (Ch.tr (Ch.tr hS14 hS21) hS174) hS203) hS211)).2 68 (by decide)) _
                omega
              have h59 : S221.2 59 = S.2 59 := (((Ch.tr (Ch.tr (Ch.tr (Ch.tr (Ch.tr hS14 hS21) hS174) hS203) hS211) hS221)).2 59 (by decide))
              have hv9 : ∀ x : Int, x = 4 * (60 + S.2 99 (S.2 88 a1)) + r102 ∨ S257.2 69 x = S221.2 69 x := by
                intro x
                have q := hS257v x
                rw [hfo] at q
                omega
              have hvk : S257.2 69 (4 * (60 + S.2 99 (S.2 88 a1)) + r102) = (S221.2 99 (a1)) := by
                have q := hS257v (4 * (60 + S.2 99 (S.2 88 a1)) + r102)
                rw [hfo] at q
                omega
              exact hK (r221) S257 (Ch.wk (Ch.tr (Ch.tr (Ch.tr (Ch.tr (Ch.tr (Ch.tr hS14 hS21) hS174) hS203) hS211) hS221) hS257) (by decide) (by decide)) (by omega) (by
                    rcases n221_5 with h | h
                    · exact Or.inl h
                    · refine Or.inr ⟨OK_slot n221_2 ((hS257).2 59 (by decide)) ((hS257).2 67 (by decide)) ((hS257).2 68 (by decide)) hv9 (fun x y x0 x1 y0 y1 q => ?_), OL_slot hOL2 n221_2 ((hS257).2 59 (by decide)) ((hS257).2 67 (by decide)) ((hS257).2 68 (by decide)) hv9 (fun x => Or.inr (congrFun ((hS257).2 70 (by decide)) _)) (fun x y z x0 x1 y0 y1 q k3 z0 z1 => ?_), (EA_step p9x (⟨Or.inl (by omega), by omega, ?_, by omega⟩) (by
                    intro x
                    have e503 : S257.2 98 x = S221.2 98 x := congrFun (hS257.2 98 (by decide)) _
                    have e504 := n221_3 x
                    have e505 : S211.2 98 x = S203.2 98 x := congrFun (hS211.2 98 (by decide)) _
                    have e506 : S203.2 98 x = S174.2 98 x := congrFun (hS203.2 98 (by decide)) _
                    have e507 : S174.2 98 x = S21.2 98 x := congrFun (hS174.2 98 (by decide)) _
                    have e508 : S21.2 98 x = S14.2 98 x := congrFun (hS21.2 98 (by decide)) _
                    have e509 := hS14v x
                    omega) (by
                    intro x
                    have e510 : S257.2 99 x = S221.2 99 x := congrFun (hS257.2 99 (by decide)) _
                    have e511 := n221_4 x
                    have e512 : S211.2 99 x = S203.2 99 x := congrFun (hS211.2 99 (by decide)) _
                    have e513 : S203.2 99 x = S174.2 99 x := congrFun (hS203.2 99 (by decide)) _
                    have e514 : S174.2 99 x = S21.2 99 x := congrFun (hS174.2 99 (by decide)) _
                    have e515 : S21.2 99 x = S14.2 99 x := congrFun (hS21.2 99 (by decide)) _
                    have e516 : S14.2 99 x = S.2 99 x := congrFun (hS14.2 99 (by decide)) _
                    omega) (by
                    intro x
                    have e517 : S257.2 100 x = S221.2 100 x := congrFun (hS257.2 100 (by decide)) _
                    have e518 : S221.2 100 x = S211.2 100 x := congrFun (hS221.2 100 (by decide)) _
                    have e519 : S211.2 100 x = S203.2 100 x := congrFun (hS211.2 100 (by decide)) _
                    have e520 := hS203v x
                    have e521 : S174.2 100 x = S21.2 100 x := congrFun (hS174.2 100 (by decide)) _
                    have e522 : S21.2 100 x = S14.2 100 x := congrFun (hS21.2 100 (by decide)) _
                    have e523 : S14.2 100 x = S.2 100 x := congrFun (hS14.2 100 (by decide)) _
                    omega) (by
                    intro x
                    have e524 : S257.2 101 x = S221.2 101 x := congrFun (hS257.2 101 (by decide)) _
                    have e525 : S221.2 101 x = S211.2 101 x := congrFun (hS221.2 101 (by decide)) _
                    have e526 := hS211v x
                    have e527 : S203.2 101 x = S174.2 101 x := congrFun (hS203.2 101 (by decide)) _
                    have e528 : S174.2 101 x = S21.2 101 x := congrFun (hS174.2 101 (by decide)) _
                    have e529 : S21.2 101 x = S14.2 101 x := congrFun (hS21.2 101 (by decide)) _
                    have e530 : S14.2 101 x = S.2 101 x := congrFun (hS14.2 101 (by decide)) _
                    omega) (((Ch.tr (Ch.tr (Ch.tr (Ch.tr (Ch.tr (Ch.tr hS14 hS21) hS174) hS203) hS211) hS221) hS257)).1 43 (by decide)) (((Ch.tr (Ch.tr (Ch.tr (Ch.tr (Ch.tr (Ch.tr hS14 hS21) hS174) hS203) hS211) hS221) hS257)).2 88 (by decide)) (((Ch.tr (Ch.tr (Ch.tr (Ch.tr (Ch.tr (Ch.tr hS14 hS21) hS174) hS203) hS211) hS221) hS257)).2 91 (by decide)) (((Ch.tr (Ch.tr (Ch.tr (Ch.tr (Ch.tr (Ch.tr hS14 hS21) hS174) hS203) hS211) hS221) hS257)).2 59 (by decide)) (by omega) (fun i i0 i1 => by
                    have q := n221_1.2.2.1 (60 + i)
                    have q1 : S211.2 67 2 = S.2 67 2 := congrFun (((Ch.tr (Ch.tr (Ch.tr (Ch.tr hS14 hS21) hS174) hS203) hS211)).2 67 (by decide)) _
                    have q2 : S211.2 68 (60 + i) = S.2 68 (60 + i) := congrFun (((Ch.tr (Ch.tr (Ch.tr (Ch.tr hS14 hS21) hS174) hS203) hS211)).2 68 (by decide)) _
                    have q3 : S257.2 68 (60 + i) = S221.2 68 (60 + i) := congrFun ((hS257).2 68 (by decide)) _
                    omega))⟩
                      · have ex : x = S.2 99 (S.2 88 a1) := by omega
                        have ey : y = r102 := by omega
                        rw [ex, ey, hk2, h59, hvk]
                        unfold tyV
                        omega
                      · have ex : x = S.2 99 (S.2 88 a1) := by omega
                        have ey : y = r102 := by omega
                        rw [ex, ey, hk2, h59] at k3
                        omega
                      · by_cases h5 : S257.2 98 a1 = 5
                        · refine Or.inr ⟨by omega, Or.inr ⟨by omega, by omega, Or.inr ?_⟩⟩
                          unfold rk
                          rw [show S257.2 100 a1 = 4 * (60 + S.2 99 (S.2 88 a1)) + r102 by omega, show (4 * (60 + S.2 99 (S.2 88 a1)) + r102 - 240) / 4 = S.2 99 (S.2 88 a1) by omega, show (4 * (60 + S.2 99 (S.2 88 a1)) + r102 - 240) % 4 = r102 by omega, show S257.2 68 = S221.2 68 from ((hS257).2 68 (by decide)), hk2, show S257.2 59 = S.2 59 from (((Ch.tr (Ch.tr (Ch.tr (Ch.tr (Ch.tr (Ch.tr hS14 hS21) hS174) hS203) hS211) hS221) hS257)).2 59 (by decide))]
                          omega
                        · exact Or.inl h5) (((FR.re (((Ch.tr (Ch.tr (Ch.tr (Ch.tr hS14 hS21) hS174) hS203) hS211)).2 67 (by decide)) (((Ch.tr (Ch.tr (Ch.tr (Ch.tr hS14 hS21) hS174) hS203) hS211)).2 68 (by decide)) (((Ch.tr (Ch.tr (Ch.tr (Ch.tr hS14 hS21) hS174) hS203) hS211)).2 69 (by decide)) (((Ch.tr (Ch.tr (Ch.tr (Ch.tr hS14 hS21) hS174) hS203) hS211)).2 70 (by decide))).tr (n221_1.fr (by have q : S211.2 67 2 = S.2 67 2 := congrFun (((Ch.tr (Ch.tr (Ch.tr (Ch.tr hS14 hS21) hS174) hS203) hS211)).2 67 (by decide)) _; omega))).tr ⟨fun x => Or.inr (congrFun ((hS257).2 67 (by decide)) _), fun x => Or.inr (congrFun ((hS257).2 68 (by decide)) _), fun x => by have q := hv9 x; omega, fun x => Or.inr (congrFun ((hS257).2 70 (by decide)) _)⟩) (by omega)
        · have e531 : S21.2 67 2 = S14.2 67 2 := congrFun (hS21.2 67 (by decide)) _
          have e532 : S14.2 67 2 = S.2 67 2 := congrFun (hS14.2 67 (by decide)) _
          exact hK (0) S21 (Ch.wk (Ch.tr hS14 hS21) (by decide) (by decide)) (by omega) (Or.inl rfl) (FR.re (((Ch.tr hS14 hS21)).2 67 (by decide)) (((Ch.tr hS14 hS21)).2 68 (by decide)) (((Ch.tr hS14 hS21)).2 69 (by decide)) (((Ch.tr hS14 hS21)).2 70 (by decide))) (by omega)
      · have e533 : S21.2 59 (4 * ((S21.2 68 ((60 + (S21.2 99 ((S.2 88 (a1)))))))) + r) = S14.2 59 (4 * ((S21.2 68 ((60 + (S21.2 99 ((S.2 88 (a1)))))))) + r) := congrFun (hS21.2 59 (by decide)) _
        have e534 : S14.2 59 (4 * ((S21.2 68 ((60 + (S21.2 99 ((S.2 88 (a1)))))))) + r) = S.2 59 (4 * ((S21.2 68 ((60 + (S21.2 99 ((S.2 88 (a1)))))))) + r) := congrFun (hS14.2 59 (by decide)) _
        refine tX11_implicitOf (by omega) (fun r117 n117_0 n117_1 => ?_)
        refine ⟨by omega, ?_⟩
        refine ⟨fun h126 => ?_, fun h126 => ?_⟩
        · have e535 : S21.2 67 2 = S14.2 67 2 := congrFun (hS21.2 67 (by decide)) _
          have e536 : S14.2 67 2 = S.2 67 2 := congrFun (hS14.2 67 (by decide)) _
          exact hK (0) S21 (Ch.wk (Ch.tr hS14 hS21) (by decide) (by decide)) (by omega) (Or.inl rfl) (FR.re (((Ch.tr hS14 hS21)).2 67 (by decide)) (((Ch.tr hS14 hS21)).2 68 (by decide)) (((Ch.tr hS14 hS21)).2 69 (by decide)) (((Ch.tr hS14 hS21)).2 70 (by decide))) (by omega)
        · have e537 : S21.1 54 43 = S14.1 54 43 := hS21.1 43 (by decide)
          have e538 : S14.1 54 43 = S.1 54 43 := hS14.1 43 (by decide)
          have e539 : S21.1 54 43 = S14.1 54 43 := hS21.1 43 (by decide)
          have e540 : S14.1 54 43 = S.1 54 43 := hS14.1 43 (by decide)
          have e541 : S21.1 54 51 = S14.1 54 51 := hS21.1 51 (by decide)
          have e542 : S14.1 54 51 = S.1 54 51 := hS14.1 51 (by decide)
          have e543 : S21.2 67 2 = S14.2 67 2 := congrFun (hS21.2 67 (by decide)) _
          have e544 : S14.2 67 2 = S.2 67 2 := congrFun (hS14.2 67 (by decide)) _
          have e545 : S21.1 54 56 = S14.1 54 56 := hS21.1 56 (by decide)
          have e546 : S14.1 54 56 = S.1 54 56 := hS14.1 56 (by decide)
          have e547 : S21.2 67 2 = S14.2 67 2 := congrFun (hS21.2 67 (by decide)) _
          have e548 : S14.2 67 2 = S.2 67 2 := congrFun (hS14.2 67 (by decide)) _
          have e549 : S21.2 59 (4 * (S21.2 68) (60 + ((S21.2 99 ((S.2 88 (a1)))))) + (r117)) = S14.2 59 (4 * (S21.2 68) (60 + ((S21.2 99 ((S.2 88 (a1)))))) + (r117)) := congrFun (hS21.2 59 (by decide)) _
          have e550 : S14.2 59 (4 * (S21.2 68) (60 + ((S21.2 99 ((S.2 88 (a1)))))) + (r117)) = S.2 59 (4 * (S21.2 68) (60 + ((S21.2 99 ((S.2 88 (a1)))))) + (r117)) := congrFun (hS14.2 59 (by decide)) _
          have e551 : S21.2 68 (60 + ((S21.2 99 ((S.2 88 (a1)))))) = S14.2 68 (60 + ((S21.2 99 ((S.2 88 (a1)))))) := congrFun (hS21.2 68 (by decide)) _
          have e552 : S14.2 68 (60 + ((S21.2 99 ((S.2 88 (a1)))))) = S.2 68 (60 + ((S21.2 99 ((S.2 88 (a1)))))) := congrFun (hS14.2 68 (by decide)) _
          have e553 : S21.2 67 2 = S14.2 67 2 := congrFun (hS21.2 67 (by decide)) _
          have e554 : S14.2 67 2 = S.2 67 2 := congrFun (hS14.2 67 (by decide)) _
          have e555 : S21.2 67 2 = S14.2 67 2 := congrFun (hS21.2 67 (by decide)) _
          have e556 : S14.2 67 2 = S.2 67 2 := congrFun (hS14.2 67 (by decide)) _
          have e557 : S21.2 68 (60 + i) = S14.2 68 (60 + i) := congrFun (hS21.2 68 (by decide)) _
          have e558 : S14.2 68 (60 + i) = S.2 68 (60 + i) := congrFun (hS14.2 68 (by decide)) _
          have e559 : S21.2 91 (a1) = S14.2 91 (a1) := congrFun (hS21.2 91 (by decide)) _
          have e560 : S14.2 91 (a1) = S.2 91 (a1) := congrFun (hS14.2 91 (by decide)) _
          have e561 : S21.1 54 43 = S14.1 54 43 := hS21.1 43 (by decide)
          have e562 : S14.1 54 43 = S.1 54 43 := hS14.1 43 (by decide)
          have e563 : S21.2 88 ((a1) + 1) = S14.2 88 ((a1) + 1) := congrFun (hS21.2 88 (by decide)) _
          have e564 : S14.2 88 ((a1) + 1) = S.2 88 ((a1) + 1) := congrFun (hS14.2 88 (by decide)) _
          refine tX11_isListed (by omega) (by omega) (by omega) (by omega) (by omega) (by omega) (by omega) (by omega) (by omega) (by omega) (by omega) (by omega) (by omega) (fun r134 S134 hS134 n134_0 n134_1 n134_2 n134_3 n134_4 n134_5 n134_6 n134_7 n134_8 n134_9 n134_10 => ?_)
          refine ⟨by omega, ?_⟩
          refine ⟨fun h137 => ?_, fun h137 => ?_⟩
          · exact hK (0) S134 (Ch.wk (Ch.tr (Ch.tr hS14 hS21) hS134) (by decide) (by decide)) (by omega) (Or.inl rfl) ((FR.re (((Ch.tr hS14 hS21)).2 67 (by decide)) (((Ch.tr hS14 hS21)).2 68 (by decide)) (((Ch.tr hS14 hS21)).2 69 (by decide)) (((Ch.tr hS14 hS21)).2 70 (by decide))).tr n134_2) (by omega)
          · first | have e565 : S134.2 98 a1 = S21.2 98 a1 := by have q := n134_5 a1; omega | have e565 := n134_5 a1
            have e566 : S21.2 98 a1 = S14.2 98 a1 := congrFun (hS21.2 98 (by decide)) _
            have e567 : S14.2 98 a1 = ((-2)) := by have q := hS14v a1; omega
            first | have e568 : S134.2 99 a1 = S21.2 99 a1 := by have q := n134_6 a1; omega | have e568 := n134_6 a1
            have e569 : S21.2 99 a1 = S14.2 99 a1 := congrFun (hS21.2 99 (by decide)) _
            have e570 : S14.2 99 a1 = S.2 99 a1 := congrFun (hS14.2 99 (by decide)) _
            first | have e571 : S134.2 100 a1 = S21.2 100 a1 := by have q := n134_7 a1; omega | have e571 := n134_7 a1
            have e572 : S21.2 100 a1 = S14.2 100 a1 := congrFun (hS21.2 100 (by decide)) _
            have e573 : S14.2 100 a1 = S.2 100 a1 := congrFun (hS14.2 100 (by decide)) _
            first | have e574 : S134.2 101 a1 = S21.2 101 a1 := by have q := n134_8 a1; omega | have e574 := n134_8 a1
            have e575 : S21.2 101 a1 = S14.2 101 a1 := congrFun (hS21.2 101 (by decide)) _
            have e576 : S14.2 101 a1 = S.2 101 a1 := congrFun (hS14.2 101 (by decide)) _
            have e577 : S134.2 91 a1 = S21.2 91 a1 := congrFun (hS134.2 91 (by decide)) _
            have e578 : S21.2 91 a1 = S14.2 91 a1 := congrFun (hS21.2 91 (by decide)) _
            have e579 : S14.2 91 a1 = S.2 91 a1 := congrFun (hS14.2 91 (by decide)) _
            have e580 : S134.1 54 43 = S21.1 54 43 := hS134.1 43 (by decide)
            have e581 : S21.1 54 43 = S14.1 54 43 := hS21.1 43 (by decide)
            have e582 : S14.1 54 43 = S.1 54 43 := hS14.1 43 (by decide)
            have e583 : S134.2 88 (a1 + 1) = S21.2 88 (a1 + 1) := congrFun (hS134.2 88 (by decide)) _
            have e584 : S21.2 88 (a1 + 1) = S14.2 88 (a1 + 1) := congrFun (hS21.2 88 (by decide)) _
            have e585 : S14.2 88 (a1 + 1) = S.2 88 (a1 + 1) := congrFun (hS14.2 88 (by decide)) _
            have hcA : S21.2 67 2 = S.2 67 2 := congrFun (((Ch.tr hS14 hS21)).2 67 (by decide)) _
            have hcB := n134_3
            exact hK (1) S134 (Ch.wk (Ch.tr (Ch.tr hS14 hS21) hS134) (by decide) (by decide)) (by omega) (by
                  rcases n134_1 with h | h
                  · exact Or.inl (by omega)
                  · rcases n134_9 with h2 | h2
                    · exact Or.inl (by omega)
                    · rcases n134_10 with h3 | h3
                      · exact Or.inl (by omega)
                      · exact Or.inr ⟨h.1, h.2, (EA_step p9x (⟨Or.inl (by omega), by omega, by omega, by omega⟩) (by
                  intro x
                  have e586 := n134_5 x
                  have e587 : S21.2 98 x = S14.2 98 x := congrFun (hS21.2 98 (by decide)) _
                  have e588 := hS14v x
                  omega) (by
                  intro x
                  have e589 := n134_6 x
                  have e590 : S21.2 99 x = S14.2 99 x := congrFun (hS21.2 99 (by decide)) _
                  have e591 : S14.2 99 x = S.2 99 x := congrFun (hS14.2 99 (by decide)) _
                  omega) (by
                  intro x
                  have e592 := n134_7 x
                  have e593 : S21.2 100 x = S14.2 100 x := congrFun (hS21.2 100 (by decide)) _
                  have e594 : S14.2 100 x = S.2 100 x := congrFun (hS14.2 100 (by decide)) _
                  omega) (by
                  intro x
                  have e595 := n134_8 x
                  have e596 : S21.2 101 x = S14.2 101 x := congrFun (hS21.2 101 (by decide)) _
                  have e597 : S14.2 101 x = S.2 101 x := congrFun (hS14.2 101 (by decide)) _
                  omega) (((Ch.tr (Ch.tr hS14 hS21) hS134)).1 43 (by decide)) (((Ch.tr (Ch.tr hS14 hS21) hS134)).2 88 (by decide)) (((Ch.tr (Ch.tr hS14 hS21) hS134)).2 91 (by decide)) (((Ch.tr (Ch.tr hS14 hS21) hS134)).2 59 (by decide)) (by omega) (fun i i0 i1 => by
                  have q := n134_4 i
                  have q1 : S21.2 67 2 = S.2 67 2 := congrFun (((Ch.tr hS14 hS21)).2 67 (by decide)) _
                  have q2 : S21.2 68 (60 + i) = S.2 68 (60 + i) := congrFun (((Ch.tr hS14 hS21)).2 68 (by decide)) _
                  omega))⟩) ((FR.re (((Ch.tr hS14 hS21)).2 67 (by decide)) (((Ch.tr hS14 hS21)).2 68 (by decide)) (((Ch.tr hS14 hS21)).2 69 (by decide)) (((Ch.tr hS14 hS21)).2 70 (by decide))).tr n134_2) (by omega)
    · refine ⟨by omega, by omega, ?_⟩
      intro q598
      have e599 : S21.2 100 ((S.2 88 (a1))) = S14.2 100 ((S.2 88 (a1))) := congrFun (hS21.2 100 (by decide)) _
      have e600 : S14.2 100 ((S.2 88 (a1))) = S.2 100 ((S.2 88 (a1))) := congrFun (hS14.2 100 (by decide)) _
      refine ⟨by omega, ?_⟩
      have e601 : S21.1 54 43 = S14.1 54 43 := hS21.1 43 (by decide)
      have e602 : S14.1 54 43 = S.1 54 43 := hS14.1 43 (by decide)
      have e603 : S21.1 54 43 = S14.1 54 43 := hS21.1 43 (by decide)
      have e604 : S14.1 54 43 = S.1 54 43 := hS14.1 43 (by decide)
      have e605 : S21.1 54 51 = S14.1 54 51 := hS21.1 51 (by decide)
      have e606 : S14.1 54 51 = S.1 54 51 := hS14.1 51 (by decide)
      have e607 : S21.2 67 2 = S14.2 67 2 := congrFun (hS21.2 67 (by decide)) _
      have e608 : S14.2 67 2 = S.2 67 2 := congrFun (hS14.2 67 (by decide)) _
      have e609 : S21.1 54 56 = S14.1 54 56 := hS21.1 56 (by decide)
      have e610 : S14.1 54 56 = S.1 54 56 := hS14.1 56 (by decide)
      have e611 : S21.2 67 2 = S14.2 67 2 := congrFun (hS21.2 67 (by decide)) _
      have e612 : S14.2 67 2 = S.2 67 2 := congrFun (hS14.2 67 (by decide)) _
      have e613 : S21.2 59 (4 * (S21.2 68) (60 + ((S21.2 99 ((S.2 88 (a1)))))) + ((S21.2 100 ((S.2 88 (a1))) - Int.tdiv (S21.2 100 ((S.2 88 (a1)))) (4) * 4))) = S14.2 59 (4 * (S21.2 68) (60 + ((S21.2 99 ((S.2 88 (a1)))))) + ((S21.2 100 ((S.2 88 (a1))) - Int.tdiv (S21.2 100 ((S.2 88 (a1)))) (4) * 4))) := congrFun (hS21.2 59 (by decide)) _
      have e614 : S14.2 59 (4 * (S21.2 68) (60 + ((S21.2 99 ((S.2 88 (a1)))))) + ((S21.2 100 ((S.2 88 (a1))) - Int.tdiv (S21.2 100 ((S.2 88 (a1)))) (4) * 4))) = S.2 59 (4 * (S21.2 68) (60 + ((S21.2 99 ((S.2 88 (a1)))))) + ((S21.2 100 ((S.2 88 (a1))) - Int.tdiv (S21.2 100 ((S.2 88 (a1)))) (4) * 4))) := congrFun (hS14.2 59 (by decide)) _
      have e615 : S21.2 68 (60 + ((S21.2 99 ((S.2 88 (a1)))))) = S14.2 68 (60 + ((S21.2 99 ((S.2 88 (a1)))))) := congrFun (hS21.2 68 (by decide)) _
      have e616 : S14.2 68 (60 + ((S21.2 99 ((S.2 88 (a1)))))) = S.2 68 (60 + ((S21.2 99 ((S.2 88 (a1)))))) := congrFun (hS14.2 68 (by decide)) _
      have e617 : S21.2 67 2 = S14.2 67 2 := congrFun (hS21.2 67 (by decide)) _
      have e618 : S14.2 67 2 = S.2 67 2 := congrFun (hS14.2 67 (by decide)) _
      have e619 : S21.2 67 2 = S14.2 67 2 := congrFun (hS21.2 67 (by decide)) _
      have e620 : S14.2 67 2 = S.2 67 2 := congrFun (hS14.2 67 (by decide)) _
      have e621 : S21.2 68 (60 + i) = S14.2 68 (60 + i) := congrFun (hS21.2 68 (by decide)) _
      have e622 : S14.2 68 (60 + i) = S.2 68 (60 + i) := congrFun (hS14.2 68 (by decide)) _
      have e623 : S21.2 91 (a1) = S14.2 91 (a1) := congrFun (hS21.2 91 (by decide)) _
      have e624 : S14.2 91 (a1) = S.2 91 (a1) := congrFun (hS14.2 91 (by decide)) _
      have e625 : S21.1 54 43 = S14.1 54 43 := hS21.1 43 (by decide)
      have e626 : S14.1 54 43 = S.1 54 43 := hS14.1 43 (by decide)
      have e627 : S21.2 88 ((a1) + 1) = S14.2 88 ((a1) + 1) := congrFun (hS21.2 88 (by decide)) _
      have e628 : S14.2 88 ((a1) + 1) = S.2 88 ((a1) + 1) := congrFun (hS14.2 88 (by decide)) _
      refine tX11_isListed (by omega) (by omega) (by omega) (by omega) (by omega) (by omega) (by omega) (by omega) (by omega) (by omega) (by omega) (by omega) (by omega) (fun r71 S71 hS71 n71_0 n71_1 n71_2 n71_3 n71_4 n71_5 n71_6 n71_7 n71_8 n71_9 n71_10 => ?_)
      refine ⟨by omega, ?_⟩
      first | have e629 : S71.2 98 a1 = S21.2 98 a1 := by have q := n71_5 a1; omega | have e629 := n71_5 a1
      have e630 : S21.2 98 a1 = S14.2 98 a1 := congrFun (hS21.2 98 (by decide)) _
      have e631 : S14.2 98 a1 = ((-2)) := by have q := hS14v a1; omega
      first | have e632 : S71.2 99 a1 = S21.2 99 a1 := by have q := n71_6 a1; omega | have e632 := n71_6 a1
      have e633 : S21.2 99 a1 = S14.2 99 a1 := congrFun (hS21.2 99 (by decide)) _
      have e634 : S14.2 99 a1 = S.2 99 a1 := congrFun (hS14.2 99 (by decide)) _
      first | have e635 : S71.2 100 a1 = S21.2 100 a1 := by have q := n71_7 a1; omega | have e635 := n71_7 a1
      have e636 : S21.2 100 a1 = S14.2 100 a1 := congrFun (hS21.2 100 (by decide)) _
      have e637 : S14.2 100 a1 = S.2 100 a1 := congrFun (hS14.2 100 (by decide)) _
      first | have e638 : S71.2 101 a1 = S21.2 101 a1 := by have q := n71_8 a1; omega | have e638 := n71_8 a1
      have e639 : S21.2 101 a1 = S14.2 101 a1 := congrFun (hS21.2 101 (by decide)) _
      have e640 : S14.2 101 a1 = S.2 101 a1 := congrFun (hS14.2 101 (by decide)) _
      have e641 : S71.2 91 a1 = S21.2 91 a1 := congrFun (hS71.2 91 (by decide)) _
      have e642 : S21.2 91 a1 = S14.2 91 a1 := congrFun (hS21.2 91 (by decide)) _
      have e643 : S14.2 91 a1 = S.2 91 a1 := congrFun (hS14.2 91 (by decide)) _
      have e644 : S71.1 54 43 = S21.1 54 43 := hS71.1 43 (by decide)
      have e645 : S21.1 54 43 = S14.1 54 43 := hS21.1 43 (by decide)
      have e646 : S14.1 54 43 = S.1 54 43 := hS14.1 43 (by decide)
      have e647 : S71.2 88 (a1 + 1) = S21.2 88 (a1 + 1) := congrFun (hS71.2 88 (by decide)) _
      have e648 : S21.2 88 (a1 + 1) = S14.2 88 (a1 + 1) := congrFun (hS21.2 88 (by decide)) _
      have e649 : S14.2 88 (a1 + 1) = S.2 88 (a1 + 1) := congrFun (hS14.2 88 (by decide)) _
      have hcA : S21.2 67 2 = S.2 67 2 := congrFun (((Ch.tr hS14 hS21)).2 67 (by decide)) _
      have hcB := n71_3
      exact hK (r71) S71 (Ch.wk (Ch.tr (Ch.tr hS14 hS21) hS71) (by decide) (by decide)) (by omega) (by
            rcases n71_1 with h | h
            · exact Or.inl (by omega)
            · rcases n71_9 with h2 | h2
              · exact Or.inl (by omega)
              · rcases n71_10 with h3 | h3
                · exact Or.inl (by omega)
                · exact Or.inr ⟨h.1, h.2, (EA_step p9x (⟨Or.inl (by omega), by omega, by omega, by omega⟩) (by
            intro x
            have e650 := n71_5 x
            have e651 : S21.2 98 x = S14.2 98 x := congrFun (hS21.2 98 (by decide)) _
            have e652 := hS14v x
            omega) (by
            intro x
            have e653 := n71_6 x
            have e654 : S21.2 99 x = S14.2 99 x := congrFun (hS21.2 99 (by decide)) _
            have e655 : S14.2 99 x = S.2 99 x := congrFun (hS14.2 99 (by decide)) _
            omega) (by
            intro x
            have e656 := n71_7 x
            have e657 : S21.2 100 x = S14.2 100 x := congrFun (hS21.2 100 (by decide)) _
            have e658 : S14.2 100 x = S.2 100 x := congrFun (hS14.2 100 (by decide)) _
            omega) (by
            intro x
            have e659 := n71_8 x
            have e660 : S21.2 101 x = S14.2 101 x := congrFun (hS21.2 101 (by decide)) _
            have e661 : S14.2 101 x = S.2 101 x := congrFun (hS14.2 101 (by decide)) _
            omega) (((Ch.tr (Ch.tr hS14 hS21) hS71)).1 43 (by decide)) (((Ch.tr (Ch.tr hS14 hS21) hS71)).2 88 (by decide)) (((Ch.tr (Ch.tr hS14 hS21) hS71)).2 91 (by decide)) (((Ch.tr (Ch.tr hS14 hS21) hS71)).2 59 (by decide)) (by omega) (fun i i0 i1 => by
            have q := n71_4 i
            have q1 : S21.2 67 2 = S.2 67 2 := congrFun (((Ch.tr hS14 hS21)).2 67 (by decide)) _
            have q2 : S21.2 68 (60 + i) = S.2 68 (60 + i) := congrFun (((Ch.tr hS14 hS21)).2 68 (by decide)) _
            omega))⟩) ((FR.re (((Ch.tr hS14 hS21)).2 67 (by decide)) (((Ch.tr hS14 hS21)).2 68 (by decide)) (((Ch.tr hS14 hS21)).2 69 (by decide)) (((Ch.tr hS14 hS21)).2 70 (by decide))).tr n71_2) (by omega)
  · refine ⟨by omega, by omega, ?_⟩
    intro S35 hS35e
    have hS35 : Ch [] [100] S21 S35 := Ch_A hS35e
    have hS35v : ∀ x, (x = a1 ∧ S35.2 100 x = (-2)) ∨ (¬ x = a1 ∧ S35.2 100 x = S21.2 100 x) := pA_at hS35e
    have e662 : S35.1 54 43 = S21.1 54 43 := hS35.1 43 (by decide)
    have e663 : S21.1 54 43 = S14.1 54 43 := hS21.1 43 (by decide)
    have e664 : S14.1 54 43 = S.1 54 43 := hS14.1 43 (by decide)
    have e665 : S35.1 54 43 = S21.1 54 43 := hS35.1 43 (by decide)
    have e666 : S21.1 54 43 = S14.1 54 43 := hS21.1 43 (by decide)
    have e667 : S14.1 54 43 = S.1 54 43 := hS14.1 43 (by decide)
    have e668 : S35.1 54 51 = S21.1 54 51 := hS35.1 51 (by decide)
    have e669 : S21.1 54 51 = S14.1 54 51 := hS21.1 51 (by decide)
    have e670 : S14.1 54 51 = S.1 54 51 := hS14.1 51 (by decide)
    have e671 : S35.2 67 2 = S21.2 67 2 := congrFun (hS35.2 67 (by decide)) _
    have e672 : S21.2 67 2 = S14.2 67 2 := congrFun (hS21.2 67 (by decide)) _
    have e673 : S14.2 67 2 = S.2 67 2 := congrFun (hS14.2 67 (by decide)) _
    have e674 : S35.1 54 56 = S21.1 54 56 := hS35.1 56 (by decide)
    have e675 : S21.1 54 56 = S14.1 54 56 := hS21.1 56 (by decide)
    have e676 : S14.1 54 56 = S.1 54 56 := hS14.1 56 (by decide)
    have e677 : S35.2 91 (a1) = S21.2 91 (a1) := congrFun (hS35.2 91 (by decide)) _
    have e678 : S21.2 91 (a1) = S14.2 91 (a1) := congrFun (hS21.2 91 (by decide)) _
    have e679 : S14.2 91 (a1) = S.2 91 (a1) := congrFun (hS14.2 91 (by decide)) _
    have e680 : S35.1 54 43 = S21.1 54 43 := hS35.1 43 (by decide)
    have e681 : S21.1 54 43 = S14.1 54 43 := hS21.1 43 (by decide)
    have e682 : S14.1 54 43 = S.1 54 43 := hS14.1 43 (by decide)
    have e683 : S35.2 88 ((a1) + 1) = S21.2 88 ((a1) + 1) := congrFun (hS35.2 88 (by decide)) _
    have e684 : S21.2 88 ((a1) + 1) = S14.2 88 ((a1) + 1) := congrFun (hS21.2 88 (by decide)) _
    have e685 : S14.2 88 ((a1) + 1) = S.2 88 ((a1) + 1) := congrFun (hS14.2 88 (by decide)) _
    refine tX11_isObjectElement (by omega) (by omega) (by omega) (by omega) (by omega) (by omega) (by omega) (by omega) (by omega) (by omega) (fun r39 S39 hS39 n39_0 n39_1 n39_2 n39_3 n39_4 n39_5 => ?_)
    refine ⟨by omega, ?_⟩
    first | have e686 : S39.2 98 a1 = S35.2 98 a1 := by have q := n39_3 a1; omega | have e686 := n39_3 a1
    have e687 : S35.2 98 a1 = S21.2 98 a1 := congrFun (hS35.2 98 (by decide)) _
    have e688 : S21.2 98 a1 = S14.2 98 a1 := congrFun (hS21.2 98 (by decide)) _
    have e689 : S14.2 98 a1 = ((-2)) := by have q := hS14v a1; omega
    first | have e690 : S39.2 99 a1 = S35.2 99 a1 := by have q := n39_4 a1; omega | have e690 := n39_4 a1
    have e691 : S35.2 99 a1 = S21.2 99 a1 := congrFun (hS35.2 99 (by decide)) _
    have e692 : S21.2 99 a1 = S14.2 99 a1 := congrFun (hS21.2 99 (by decide)) _
    have e693 : S14.2 99 a1 = S.2 99 a1 := congrFun (hS14.2 99 (by decide)) _
    have e694 : S39.2 100 a1 = S35.2 100 a1 := congrFun (hS39.2 100 (by decide)) _
    have e695 : S35.2 100 a1 = ((-2)) := by have q := hS35v a1; omega
    have e696 : S21.2 100 a1 = S14.2 100 a1 := congrFun (hS21.2 100 (by decide)) _
    have e697 : S14.2 100 a1 = S.2 100 a1 := congrFun (hS14.2 100 (by decide)) _
    have e698 : S39.2 101 a1 = S35.2 101 a1 := congrFun (hS39.2 101 (by decide)) _
    have e699 : S35.2 101 a1 = S21.2 101 a1 := congrFun (hS35.2 101 (by decide)) _
    have e700 : S21.2 101 a1 = S14.2 101 a1 := congrFun (hS21.2 101 (by decide)) _
    have e701 : S14.2 101 a1 = S.2 101 a1 := congrFun (hS14.2 101 (by decide)) _
    have e702 : S39.2 91 a1 = S35.2 91 a1 := congrFun (hS39.2 91 (by decide)) _
    have e703 : S35.2 91 a1 = S21.2 91 a1 := congrFun (hS35.2 91 (by decide)) _
    have e704 : S21.2 91 a1 = S14.2 91 a1 := congrFun (hS21.2 91 (by decide)) _
    have e705 : S14.2 91 a1 = S.2 91 a1 := congrFun (hS14.2 91 (by decide)) _
    have e706 : S39.1 54 43 = S35.1 54 43 := hS39.1 43 (by decide)
    have e707 : S35.1 54 43 = S21.1 54 43 := hS35.1 43 (by decide)
    have e708 : S21.1 54 43 = S14.1 54 43 := hS21.1 43 (by decide)
    have e709 : S14.1 54 43 = S.1 54 43 := hS14.1 43 (by decide)
    have e710 : S39.2 88 (a1 + 1) = S35.2 88 (a1 + 1) := congrFun (hS39.2 88 (by decide)) _
    have e711 : S35.2 88 (a1 + 1) = S21.2 88 (a1 + 1) := congrFun (hS35.2 88 (by decide)) _
    have e712 : S21.2 88 (a1 + 1) = S14.2 88 (a1 + 1) := congrFun (hS21.2 88 (by decide)) _
    have e713 : S14.2 88 (a1 + 1) = S.2 88 (a1 + 1) := congrFun (hS14.2 88 (by decide)) _
    have hcA : S35.2 67 2 = S.2 67 2 := congrFun (((Ch.tr (Ch.tr hS14 hS21) hS35)).2 67 (by decide)) _
    have hcB := n39_1.1
    have hOLp : OLg S35 2 60 := p7.mv (((Ch.tr (Ch.tr hS14 hS21) hS35)).2 59 (by decide)) (((Ch.tr (Ch.tr hS14 hS21) hS35)).2 67 (by decide)) (((Ch.tr (Ch.tr hS14 hS21) hS35)).2 68 (by decide)) (((Ch.tr (Ch.tr hS14 hS21) hS35)).2 69 (by decide)) (((Ch.tr (Ch.tr hS14 hS21) hS35)).2 70 (by decide))
    have hOKp : OKg S35 2 60 := p6.mv (((Ch.tr (Ch.tr hS14 hS21) hS35)).2 59 (by decide)) (((Ch.tr (Ch.tr hS14 hS21) hS35)).2 67 (by decide)) (((Ch.tr (Ch.tr hS14 hS21) hS35)).2 68 (by decide)) (((Ch.tr (Ch.tr hS14 hS21) hS35)).2 69 (by decide))
    exact hK (r39) S39 (Ch.wk (Ch.tr (Ch.tr (Ch.tr hS14 hS21) hS35) hS39) (by decide) (by decide)) (by omega) (by
          rcases n39_5 with h | h
          · exact Or.inl h
          · exact Or.inr ⟨n39_2, OLg_OE hOLp hOKp ((hS39).2 59 (by decide)) n39_1, (EA_step p9x (⟨Or.inl (by omega), by omega, by omega, by omega⟩) (by
          intro x
          have e714 := n39_3 x
          have e715 : S35.2 98 x = S21.2 98 x := congrFun (hS35.2 98 (by decide)) _
          have e716 : S21.2 98 x = S14.2 98 x := congrFun (hS21.2 98 (by decide)) _
          have e717 := hS14v x
          omega) (by
          intro x
          have e718 := n39_4 x
          have e719 : S35.2 99 x = S21.2 99 x := congrFun (hS35.2 99 (by decide)) _
          have e720 : S21.2 99 x = S14.2 99 x := congrFun (hS21.2 99 (by decide)) _
          have e721 : S14.2 99 x = S.2 99 x := congrFun (hS14.2 99 (by decide)) _
          omega) (by
          intro x
          have e722 : S39.2 100 x = S35.2 100 x := congrFun (hS39.2 100 (by decide)) _
          have e723 := hS35v x
          have e724 : S21.2 100 x = S14.2 100 x := congrFun (hS21.2 100 (by decide)) _
          have e725 : S14.2 100 x = S.2 100 x := congrFun (hS14.2 100 (by decide)) _
          omega) (by
          intro x
          have e726 : S39.2 101 x = S35.2 101 x := congrFun (hS39.2 101 (by decide)) _
          have e727 : S35.2 101 x = S21.2 101 x := congrFun (hS35.2 101 (by decide)) _
          have e728 : S21.2 101 x = S14.2 101 x := congrFun (hS21.2 101 (by decide)) _
          have e729 : S14.2 101 x = S.2 101 x := congrFun (hS14.2 101 (by decide)) _
          omega) (((Ch.tr (Ch.tr (Ch.tr hS14 hS21) hS35) hS39)).1 43 (by decide)) (((Ch.tr (Ch.tr (Ch.tr hS14 hS21) hS35) hS39)).2 88 (by decide)) (((Ch.tr (Ch.tr (Ch.tr hS14 hS21) hS35) hS39)).2 91 (by decide)) (((Ch.tr (Ch.tr (Ch.tr hS14 hS21) hS35) hS39)).2 59 (by decide)) (by omega) (fun i i0 i1 => by
          have q := n39_1.2.2.1 (60 + i)
          have q1 : S35.2 67 2 = S.2 67 2 := congrFun (((Ch.tr (Ch.tr hS14 hS21) hS35)).2 67 (by decide)) _
          have q2 : S35.2 68 (60 + i) = S.2 68 (60 + i) := congrFun (((Ch.tr (Ch.tr hS14 hS21) hS35)).2 68 (by decide)) _
          omega))⟩) ((FR.re (((Ch.tr (Ch.tr hS14 hS21) hS35)).2 67 (by decide)) (((Ch.tr (Ch.tr hS14 hS21) hS35)).2 68 (by decide)) (((Ch.tr (Ch.tr hS14 hS21) hS35)).2 69 (by decide)) (((Ch.tr (Ch.tr hS14 hS21) hS35)).2 70 (by decide))).tr (n39_1.fr (by have q : S35.2 67 2 = S.2 67 2 := congrFun (((Ch.tr (Ch.tr hS14 hS21) hS35)).2 67 (by decide)) _; omega))) (by omega)
