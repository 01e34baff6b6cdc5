set_option maxRecDepth 100000 in
set_option maxHeartbeats 4000000 in
theorem tX11_beginTag_302 {a1 a2 a3 l4 : Int} {S S1c : St} {K : Int → St → Prop} (g1 : rng a1) (g2 : rng a2) (g3 : rng a3) (p1 : 0 ≤ a1) (p2 : a1 < (S.1 54 41)) (p3 : (S.1 54 41) ≤ 3000) (p4 : (S.1 54 56) ≤ a1) (p5 : 5 * (S.1 54 51) ≤ a1) (p6 : (S.1 54 60) = 0) (p7 : PA S) (p8 : PR S) (p9 : PO S) (p10 : PE S a2) (p11 : iv (-2) 199 a2) (hS1c : Ch [43, 51, 56, 59, 60] [85, 86, 87, 88, 89, 90, 91, 92, 93, 94, 95, 96, 97] S S1c) (c1 : a1 + 1 ≤ l4) (c2 : l4 ≤ 3010) (c3 : PA S1c) (c4 : PR S1c) (c5 : PO S1c) (c6 : PB S1c l4) (c7 : (S1c.1 54 43) = (S.1 54 43) + 1) (c8 : (S1c.2 88) ((S.1 54 43)) = a2) (c9 : ∀ x, x = (S.1 54 43) ∨ (S1c.2 88) x = (S.2 88) x) (hK : ∀ (r : Int) (S' : St), Ch [43, 51, 56, 59, 60] [85, 86, 87, 88, 89, 90, 91, 92, 93, 94, 95, 96, 97] S S' → (a1 < r) → (r ≤ 3010) → (PA S') → (PR S') → (PO S') → (((S'.1 54 43) = (S.1 54 43) + 1 ∧ (S'.2 88) ((S.1 54 43)) = a2) ∨ ((S'.1 54 43) = (S.1 54 43) ∧ -1 ≤ (S'.1 54 59) ∧ (S'.1 54 60) = 0)) → (∀ x, x = (S.1 54 43) ∨ (S'.2 88) x = (S.2 88) x) → (PB S' r) → K r S') : wX11_beginTag_302 l4 S1c K := by
  unfold wX11_beginTag_302
  intro q1
  refine ⟨fun h308 => ?_, fun h308 => ?_⟩
  · have hib : PB S1c (l4) := c6
    unfold PB at hib
    have hib := hib.resolve_left (by omega)
    refine ⟨by omega, ?_⟩
    have e2 : S1c.1 54 41 = S.1 54 41 := hS1c.1 41 (by decide)
    have e3 : S1c.2 84 (l4) = S.2 84 (l4) := congrFun (hS1c.2 84 (by decide)) _
    have e4 : S1c.1 54 41 = S.1 54 41 := hS1c.1 41 (by decide)
    refine tX11_docAt (by omega) (fun r318 n318_0 n318_1 n318_2 => ?_)
    refine ⟨by omega, ?_⟩
    refine ⟨fun h323 => ?_, fun h323 => ?_⟩
    · unfold wX11_beginTag_331
      refine ⟨by omega, ?_⟩
      intro S331 hS331e
      have hS331 : Ch [60] [] S1c S331 := Ch_I hS331e
      have hS331v : S331.1 54 60 = ((0)) := pI_at hS331e
      intro q5
      refine ⟨fun h338 => ?_, fun h338 => ?_⟩
      · refine ⟨by omega, ?_⟩
        have e6 : S331.1 54 41 = S1c.1 54 41 := hS331.1 41 (by decide)
        have e7 : S1c.1 54 41 = S.1 54 41 := hS1c.1 41 (by decide)
        have e8 : S331.2 84 (l4) = S1c.2 84 (l4) := congrFun (hS331.2 84 (by decide)) _
        have e9 : S1c.2 84 (l4) = S.2 84 (l4) := congrFun (hS1c.2 84 (by decide)) _
        have e10 : S331.1 54 41 = S1c.1 54 41 := hS331.1 41 (by decide)
        have e11 : S1c.1 54 41 = S.1 54 41 := hS1c.1 41 (by decide)
        refine tX11_docAt (by omega) (fun r349 n349_0 n349_1 n349_2 => ?_)
        refine ⟨by omega, ?_⟩
        refine ⟨fun h354 => ?_, fun h354 => ?_⟩
        · refine ⟨by omega, ?_⟩
          have e12 : S331.1 54 41 = S1c.1 54 41 := hS331.1 41 (by decide)
          have e13 : S1c.1 54 41 = S.1 54 41 := hS1c.1 41 (by decide)
          have e14 : S331.2 84 ((l4 + 1)) = S1c.2 84 ((l4 + 1)) := congrFun (hS331.2 84 (by decide)) _
          have e15 : S1c.2 84 ((l4 + 1)) = S.2 84 ((l4 + 1)) := congrFun (hS1c.2 84 (by decide)) _
          have e16 : S331.1 54 41 = S1c.1 54 41 := hS331.1 41 (by decide)
          have e17 : S1c.1 54 41 = S.1 54 41 := hS1c.1 41 (by decide)
          refine tX11_docAt (by omega) (fun r371 n371_0 n371_1 n371_2 => ?_)
          refine ⟨by omega, ?_⟩
          refine ⟨fun h376 => ?_, fun h376 => ?_⟩
          · have e18 : S331.1 54 43 = S1c.1 54 43 := hS331.1 43 (by decide)
            have e19 : S331.2 88 ((S.1 54 43)) = S1c.2 88 ((S.1 54 43)) := congrFun (hS331.2 88 (by decide)) _
            first | have e20 : S1c.2 88 ((S.1 54 43)) = S.2 88 ((S.1 54 43)) := by have q := c9 ((S.1 54 43)); omega | have e20 := c9 ((S.1 54 43))
            have e21 : S331.1 54 59 = S1c.1 54 59 := hS331.1 59 (by decide)
            exact hK ((l4 + 2)) S331 (Ch.wk (Ch.tr hS1c hS331) (by decide) (by decide)) (by omega) (by omega) (PA.mv2 c3 ((hS331).1 51 (by decide)) ((hS331).1 56 (by decide)) ((hS331).2 92 (by decide)) ((hS331).2 93 (by decide)) ((hS331).2 94 (by decide)) ((hS331).2 95 (by decide))) (PR.mv c4 ((hS331).1 43 (by decide)) ((hS331).1 51 (by decide)) ((hS331).2 86 (by decide)) ((hS331).2 87 (by decide)) ((hS331).2 88 (by decide)) ((hS331).2 90 (by decide)) ((hS331).2 91 (by decide))) (PO.mv c5 ((hS331).1 43 (by decide)) ((hS331).2 88 (by decide))) (Or.inl ⟨by omega, by omega⟩) (by
                  intro x
                  have e22 : S331.2 88 x = S1c.2 88 x := congrFun (hS331.2 88 (by decide)) _
                  have e23 := c9 x
                  omega) (by
                  unfold PB
                  have e24 : S331.1 54 59 = S1c.1 54 59 := hS331.1 59 (by decide)
                  have e25 : S331.1 54 41 = S1c.1 54 41 := hS331.1 41 (by decide)
                  have e26 : S1c.1 54 41 = S.1 54 41 := hS1c.1 41 (by decide)
                  have e27 : S331.1 54 56 = S1c.1 54 56 := hS331.1 56 (by decide)
                  have e28 : S331.1 54 51 = S1c.1 54 51 := hS331.1 51 (by decide)
                  first | exact Or.inl (by omega) | exact Or.inr ⟨by omega, by omega, by omega⟩)
          · refine tX11_fail (by omega) (fun r384 S384 hS384 n384_0 => ?_)
            have e29 : S384.1 54 43 = S331.1 54 43 := hS384.1 43 (by decide)
            have e30 : S331.1 54 43 = S1c.1 54 43 := hS331.1 43 (by decide)
            have e31 : S384.2 88 ((S.1 54 43)) = S331.2 88 ((S.1 54 43)) := congrFun (hS384.2 88 (by decide)) _
            have e32 : S331.2 88 ((S.1 54 43)) = S1c.2 88 ((S.1 54 43)) := congrFun (hS331.2 88 (by decide)) _
            first | have e33 : S1c.2 88 ((S.1 54 43)) = S.2 88 ((S.1 54 43)) := by have q := c9 ((S.1 54 43)); omega | have e33 := c9 ((S.1 54 43))
            have e34 : S384.1 54 60 = S331.1 54 60 := hS384.1 60 (by decide)
            exact hK ((l4 + 2)) S384 (Ch.wk (Ch.tr (Ch.tr hS1c hS331) hS384) (by decide) (by decide)) (by omega) (by omega) (PA.mv2 c3 (((Ch.tr hS331 hS384)).1 51 (by decide)) (((Ch.tr hS331 hS384)).1 56 (by decide)) (((Ch.tr hS331 hS384)).2 92 (by decide)) (((Ch.tr hS331 hS384)).2 93 (by decide)) (((Ch.tr hS331 hS384)).2 94 (by decide)) (((Ch.tr hS331 hS384)).2 95 (by decide))) (PR.mv c4 (((Ch.tr hS331 hS384)).1 43 (by decide)) (((Ch.tr hS331 hS384)).1 51 (by decide)) (((Ch.tr hS331 hS384)).2 86 (by decide)) (((Ch.tr hS331 hS384)).2 87 (by decide)) (((Ch.tr hS331 hS384)).2 88 (by decide)) (((Ch.tr hS331 hS384)).2 90 (by decide)) (((Ch.tr hS331 hS384)).2 91 (by decide))) (PO.mv c5 (((Ch.tr hS331 hS384)).1 43 (by decide)) (((Ch.tr hS331 hS384)).2 88 (by decide))) (Or.inl ⟨by omega, by omega⟩) (by
                  intro x
                  have e35 : S384.2 88 x = S331.2 88 x := congrFun (hS384.2 88 (by decide)) _
                  have e36 : S331.2 88 x = S1c.2 88 x := congrFun (hS331.2 88 (by decide)) _
                  have e37 := c9 x
                  omega) (by
                  unfold PB
                  have e38 : S384.1 54 41 = S331.1 54 41 := hS384.1 41 (by decide)
                  have e39 : S331.1 54 41 = S1c.1 54 41 := hS331.1 41 (by decide)
                  have e40 : S1c.1 54 41 = S.1 54 41 := hS1c.1 41 (by decide)
                  have e41 : S384.1 54 56 = S331.1 54 56 := hS384.1 56 (by decide)
                  have e42 : S331.1 54 56 = S1c.1 54 56 := hS331.1 56 (by decide)
                  have e43 : S384.1 54 51 = S331.1 54 51 := hS384.1 51 (by decide)
                  have e44 : S331.1 54 51 = S1c.1 54 51 := hS331.1 51 (by decide)
                  first | exact Or.inl (by omega) | exact Or.inr ⟨by omega, by omega, by omega⟩)
        · refine tX11_fail (by omega) (fun r360 S360 hS360 n360_0 => ?_)
          have e45 : S360.1 54 43 = S331.1 54 43 := hS360.1 43 (by decide)
          have e46 : S331.1 54 43 = S1c.1 54 43 := hS331.1 43 (by decide)
          have e47 : S360.2 88 ((S.1 54 43)) = S331.2 88 ((S.1 54 43)) := congrFun (hS360.2 88 (by decide)) _
          have e48 : S331.2 88 ((S.1 54 43)) = S1c.2 88 ((S.1 54 43)) := congrFun (hS331.2 88 (by decide)) _
          first | have e49 : S1c.2 88 ((S.1 54 43)) = S.2 88 ((S.1 54 43)) := by have q := c9 ((S.1 54 43)); omega | have e49 := c9 ((S.1 54 43))
          have e50 : S360.1 54 60 = S331.1 54 60 := hS360.1 60 (by decide)
          exact hK ((l4 + 2)) S360 (Ch.wk (Ch.tr (Ch.tr hS1c hS331) hS360) (by decide) (by decide)) (by omega) (by omega) (PA.mv2 c3 (((Ch.tr hS331 hS360)).1 51 (by decide)) (((Ch.tr hS331 hS360)).1 56 (by decide)) (((Ch.tr hS331 hS360)).2 92 (by decide)) (((Ch.tr hS331 hS360)).2 93 (by decide)) (((Ch.tr hS331 hS360)).2 94 (by decide)) (((Ch.tr hS331 hS360)).2 95 (by decide))) (PR.mv c4 (((Ch.tr hS331 hS360)).1 43 (by decide)) (((Ch.tr hS331 hS360)).1 51 (by decide)) (((Ch.tr hS331 hS360)).2 86 (by decide)) (((Ch.tr hS331 hS360)).2 87 (by decide)) (((Ch.tr hS331 hS360)).2 88 (by decide)) (((Ch.tr hS331 hS360)).2 90 (by decide)) (((Ch.tr hS331 hS360)).2 91 (by decide))) (PO.mv c5 (((Ch.tr hS331 hS360)).1 43 (by decide)) (((Ch.tr hS331 hS360)).2 88 (by decide))) (Or.inl ⟨by omega, by omega⟩) (by
                intro x
                have e51 : S360.2 88 x = S331.2 88 x := congrFun (hS360.2 88 (by decide)) _
                have e52 : S331.2 88 x = S1c.2 88 x := congrFun (hS331.2 88 (by decide)) _
                have e53 := c9 x
                omega) (by
                unfold PB
                have e54 : S360.1 54 41 = S331.1 54 41 := hS360.1 41 (by decide)
                have e55 : S331.1 54 41 = S1c.1 54 41 := hS331.1 41 (by decide)
                have e56 : S1c.1 54 41 = S.1 54 41 := hS1c.1 41 (by decide)
                have e57 : S360.1 54 56 = S331.1 54 56 := hS360.1 56 (by decide)
                have e58 : S331.1 54 56 = S1c.1 54 56 := hS331.1 56 (by decide)
                have e59 : S360.1 54 51 = S331.1 54 51 := hS360.1 51 (by decide)
                have e60 : S331.1 54 51 = S1c.1 54 51 := hS331.1 51 (by decide)
                first | exact Or.inl (by omega) | exact Or.inr ⟨by omega, by omega, by omega⟩)
      · have e61 : S331.1 54 43 = S1c.1 54 43 := hS331.1 43 (by decide)
        have e62 : S331.2 88 ((S.1 54 43)) = S1c.2 88 ((S.1 54 43)) := congrFun (hS331.2 88 (by decide)) _
        first | have e63 : S1c.2 88 ((S.1 54 43)) = S.2 88 ((S.1 54 43)) := by have q := c9 ((S.1 54 43)); omega | have e63 := c9 ((S.1 54 43))
        have e64 : S331.1 54 59 = S1c.1 54 59 := hS331.1 59 (by decide)
        exact hK ((l4 + 1)) S331 (Ch.wk (Ch.tr hS1c hS331) (by decide) (by decide)) (by omega) (by omega) (PA.mv2 c3 ((hS331).1 51 (by decide)) ((hS331).1 56 (by decide)) ((hS331).2 92 (by decide)) ((hS331).2 93 (by decide)) ((hS331).2 94 (by decide)) ((hS331).2 95 (by decide))) (PR.mv c4 ((hS331).1 43 (by decide)) ((hS331).1 51 (by decide)) ((hS331).2 86 (by decide)) ((hS331).2 87 (by decide)) ((hS331).2 88 (by decide)) ((hS331).2 90 (by decide)) ((hS331).2 91 (by decide))) (PO.mv c5 ((hS331).1 43 (by decide)) ((hS331).2 88 (by decide))) (Or.inl ⟨by omega, by omega⟩) (by
              intro x
              have e65 : S331.2 88 x = S1c.2 88 x := congrFun (hS331.2 88 (by decide)) _
              have e66 := c9 x
              omega) (by
              unfold PB
              have e67 : S331.1 54 59 = S1c.1 54 59 := hS331.1 59 (by decide)
              have e68 : S331.1 54 41 = S1c.1 54 41 := hS331.1 41 (by decide)
              have e69 : S1c.1 54 41 = S.1 54 41 := hS1c.1 41 (by decide)
              have e70 : S331.1 54 56 = S1c.1 54 56 := hS331.1 56 (by decide)
              have e71 : S331.1 54 51 = S1c.1 54 51 := hS331.1 51 (by decide)
              first | exact Or.inl (by omega) | exact Or.inr ⟨by omega, by omega, by omega⟩)
    · unfold wX11_beginTag_331
      refine ⟨by omega, ?_⟩
      intro S331 hS331e
      have hS331 : Ch [60] [] S1c S331 := Ch_I hS331e
      have hS331v : S331.1 54 60 = ((1)) := pI_at hS331e
      intro q72
      refine ⟨fun h338 => ?_, fun h338 => ?_⟩
      · refine ⟨by omega, ?_⟩
        have e73 : S331.1 54 41 = S1c.1 54 41 := hS331.1 41 (by decide)
        have e74 : S1c.1 54 41 = S.1 54 41 := hS1c.1 41 (by decide)
        have e75 : S331.2 84 (l4) = S1c.2 84 (l4) := congrFun (hS331.2 84 (by decide)) _
        have e76 : S1c.2 84 (l4) = S.2 84 (l4) := congrFun (hS1c.2 84 (by decide)) _
        have e77 : S331.1 54 41 = S1c.1 54 41 := hS331.1 41 (by decide)
        have e78 : S1c.1 54 41 = S.1 54 41 := hS1c.1 41 (by decide)
        refine tX11_docAt (by omega) (fun r349 n349_0 n349_1 n349_2 => ?_)
        refine ⟨by omega, ?_⟩
        refine ⟨fun h354 => ?_, fun h354 => ?_⟩
        · refine ⟨by omega, ?_⟩
          have e79 : S331.1 54 41 = S1c.1 54 41 := hS331.1 41 (by decide)
          have e80 : S1c.1 54 41 = S.1 54 41 := hS1c.1 41 (by decide)
          have e81 : S331.2 84 ((l4 + 1)) = S1c.2 84 ((l4 + 1)) := congrFun (hS331.2 84 (by decide)) _
          have e82 : S1c.2 84 ((l4 + 1)) = S.2 84 ((l4 + 1)) := congrFun (hS1c.2 84 (by decide)) _
          have e83 : S331.1 54 41 = S1c.1 54 41 := hS331.1 41 (by decide)
          have e84 : S1c.1 54 41 = S.1 54 41 := hS1c.1 41 (by decide)
          refine tX11_docAt (by omega) (fun r371 n371_0 n371_1 n371_2 => ?_)
          refine ⟨by omega, ?_⟩
          refine ⟨fun h376 => ?_, fun h376 => ?_⟩
          · have e85 : S331.1 54 43 = S1c.1 54 43 := hS331.1 43 (by decide)
            have e86 : S331.2 88 ((S.1 54 43)) = S1c.2 88 ((S.1 54 43)) := congrFun (hS331.2 88 (by decide)) _
            first | have e87 : S1c.2 88 ((S.1 54 43)) = S.2 88 ((S.1 54 43)) := by have q := c9 ((S.1 54 43)); omega | have e87 := c9 ((S.1 54 43))
            have e88 : S331.1 54 59 = S1c.1 54 59 := hS331.1 59 (by decide)
            exact hK ((l4 + 2)) S331 (Ch.wk (Ch.tr hS1c hS331) (by decide) (by decide)) (by omega) (by omega) (PA.mv2 c3 ((hS331).1 51 (by decide)) ((hS331).1 56 (by decide)) ((hS331).2 92 (by decide)) ((hS331).2 93 (by decide)) ((hS331).2 94 (by decide)) ((hS331).2 95 (by decide))) (PR.mv c4 ((hS331).1 43 (by decide)) ((hS331).1 51 (by decide)) ((hS331).2 86 (by decide)) ((hS331).2 87 (by decide)) ((hS331).2 88 (by decide)) ((hS331).2 90 (by decide)) ((hS331).2 91 (by decide))) (PO.mv c5 ((hS331).1 43 (by decide)) ((hS331).2 88 (by decide))) (Or.inl ⟨by omega, by omega⟩) (by
                  intro x
                  have e89 : S331.2 88 x = S1c.2 88 x := congrFun (hS331.2 88 (by decide)) _
                  have e90 := c9 x
                  omega) (by
                  unfold PB
                  have e91 : S331.1 54 59 = S1c.1 54 59 := hS331.1 59 (by decide)
                  have e92 : S331.1 54 41 = S1c.1 54 41 := hS331.1 41 (by decide)
                  have e93 : S1c.1 54 41 = S.1 54 41 := hS1c.1 41 (by decide)
                  have e94 : S331.1 54 56 = S1c.1 54 56 := hS331.1 56 (by decide)
                  have e95 : S331.1 54 51 = S1c.1 54 51 := hS331.1 51 (by decide)
                  first | exact Or.inl (by omega) | exact Or.inr ⟨by omega, by omega, by omega⟩)
          · refine tX11_fail (by omega) (fun r384 S384 hS384 n384_0 => ?_)
            have e96 : S384.1 54 43 = S331.1 54 43 := hS384.1 43 (by decide)
            have e97 : S331.1 54 43 = S1c.1 54 43 := hS331.1 43 (by decide)
            have e98 : S384.2 88 ((S.1 54 43)) = S331.2 88 ((S.1 54 43)) := congrFun (hS384.2 88 (by decide)) _
            have e99 : S331.2 88 ((S.1 54 43)) = S1c.2 88 ((S.1 54 43)) := congrFun (hS331.2 88 (by decide)) _
            first | have e100 : S1c.2 88 ((S.1 54 43)) = S.2 88 ((S.1 54 43)) := by have q := c9 ((S.1 54 43)); omega | have e100 := c9 ((S.1 54 43))
            have e101 : S384.1 54 60 = S331.1 54 60 := hS384.1 60 (by decide)
            exact hK ((l4 + 2)) S384 (Ch.wk (Ch.tr (Ch.tr hS1c hS331) hS384) (by decide) (by decide)) (by omega) (by omega) (PA.mv2 c3 (((Ch.tr hS331 hS384)).1 51 (by decide)) (((Ch.tr hS331 hS384)).1 56 (by decide)) (((Ch.tr hS331 hS384)).2 92 (by decide)) (((Ch.tr hS331 hS384)).2 93 (by decide)) (((Ch.tr hS331 hS384)).2 94 (by decide)) (((Ch.tr hS331 hS384)).2 95 (by decide))) (PR.mv c4 (((Ch.tr hS331 hS384)).1 43 (by decide)) (((Ch.tr hS331 hS384)).1 51 (by decide)) (((Ch.tr hS331 hS384)).2 86 (by decide)) (((Ch.tr hS331 hS384)).2 87 (by decide)) (((Ch.tr hS331 hS384)).2 88 (by decide)) (((Ch.tr hS331 hS384)).2 90 (by decide)) (((Ch.tr hS331 hS384)).2 91 (by decide))) (PO.mv c5 (((Ch.tr hS331 hS384)).1 43 (by decide)) (((Ch.tr hS331 hS384)).2 88 (by decide))) (Or.inl ⟨by omega, by omega⟩) (by
                  intro x
                  have e102 : S384.2 88 x = S331.2 88 x := congrFun (hS384.2 88 (by decide)) _
                  have e103 : S331.2 88 x = S1c.2 88 x := congrFun (hS331.2 88 (by decide)) _
                  have e104 := c9 x
                  omega) (by
                  unfold PB
                  have e105 : S384.1 54 41 = S331.1 54 41 := hS384.1 41 (by decide)
                  have e106 : S331.1 54 41 = S1c.1 54 41 := hS331.1 41 (by decide)
                  have e107 : S1c.1 54 41 = S.1 54 41 := hS1c.1 41 (by decide)
                  have e108 : S384.1 54 56 = S331.1 54 56 := hS384.1 56 (by decide)
                  have e109 : S331.1 54 56 = S1c.1 54 56 := hS331.1 56 (by decide)
                  have e110 : S384.1 54 51 = S331.1 54 51 := hS384.1 51 (by decide)
                  have e111 : S331.1 54 51 = S1c.1 54 51 := hS331.1 51 (by decide)
                  first | exact Or.inl (by omega) | exact Or.inr ⟨by omega, by omega, by omega⟩)
        · refine tX11_fail (by omega) (fun r360 S360 hS360 n360_0 => ?_)
          have e112 : S360.1 54 43 = S331.1 54 43 := hS360.1 43 (by decide)
          have e113 : S331.1 54 43 = S1c.1 54 43 := hS331.1 43 (by decide)
          have e114 : S360.2 88 ((S.1 54 43)) = S331.2 88 ((S.1 54 43)) := congrFun (hS360.2 88 (by decide)) _
          have e115 : S331.2 88 ((S.1 54 43)) = S1c.2 88 ((S.1 54 43)) := congrFun (hS331.2 88 (by decide)) _
          first | have e116 : S1c.2 88 ((S.1 54 43)) = S.2 88 ((S.1 54 43)) := by have q := c9 ((S.1 54 43)); omega | have e116 := c9 ((S.1 54 43))
          have e117 : S360.1 54 60 = S331.1 54 60 := hS360.1 60 (by decide)
          exact hK ((l4 + 2)) S360 (Ch.wk (Ch.tr (Ch.tr hS1c hS331) hS360) (by decide) (by decide)) (by omega) (by omega) (PA.mv2 c3 (((Ch.tr hS331 hS360)).1 51 (by decide)) (((Ch.tr hS331 hS360)).1 56 (by decide)) (((Ch.tr hS331 hS360)).2 92 (by decide)) (((Ch.tr hS331 hS360)).2 93 (by decide)) (((Ch.tr hS331 hS360)).2 94 (by decide)) (((Ch.tr hS331 hS360)).2 95 (by decide))) (PR.mv c4 (((Ch.tr hS331 hS360)).1 43 (by decide)) (((Ch.tr hS331 hS360)).1 51 (by decide)) (((Ch.tr hS331 hS360)).2 86 (by decide)) (((Ch.tr hS331 hS360)).2 87 (by decide)) (((Ch.tr hS331 hS360)).2 88 (by decide)) (((Ch.tr hS331 hS360)).2 90 (by decide)) (((Ch.tr hS331 hS360)).2 91 (by decide))) (PO.mv c5 (((Ch.tr hS331 hS360)).1 43 (by decide)) (((Ch.tr hS331 hS360)).2 88 (by decide))) (Or.inl ⟨by omega, by omega⟩) (by
                intro x
                have e118 : S360.2 88 x = S331.2 88 x := congrFun (hS360.2 88 (by decide)) _
                have e119 : S331.2 88 x = S1c.2 88 x := congrFun (hS331.2 88 (by decide)) _
                have e120 := c9 x
                omega) (by
                unfold PB
                have e121 : S360.1 54 41 = S331.1 54 41 := hS360.1 41 (by decide)
                have e122 : S331.1 54 41 = S1c.1 54 41 := hS331.1 41 (by decide)
                have e123 : S1c.1 54 41 = S.1 54 41 := hS1c.1 41 (by decide)
                have e124 : S360.1 54 56 = S331.1 54 56 := hS360.1 56 (by decide)
                have e125 : S331.1 54 56 = S1c.1 54 56 := hS331.1 56 (by decide)
                have e126 : S360.1 54 51 = S331.1 54 51 := hS360.1 51 (by decide)
                have e127 : S331.1 54 51 = S1c.1 54 51 := hS331.1 51 (by decide)
                first | exact Or.inl (by omega) | exact Or.inr ⟨by omega, by omega, by omega⟩)
      · have e128 : S331.1 54 43 = S1c.1 54 43 := hS331.1 43 (by decide)
        have e129 : S331.2 88 ((S.1 54 43)) = S1c.2 88 ((S.1 54 43)) := congrFun (hS331.2 88 (by decide)) _
        first | have e130 : S1c.2 88 ((S.1 54 43)) = S.2 88 ((S.1 54 43)) := by have q := c9 ((S.1 54 43)); omega | have e130 := c9 ((S.1 54 43))
        have e131 : S331.1 54 59 = S1c.1 54 59 := hS331.1 59 (by decide)
        exact hK ((l4 + 1)) S331 (Ch.wk (Ch.tr hS1c hS331) (by decide) (by decide)) (by omega) (by omega) (PA.mv2 c3 ((hS331).1 51 (by decide)) ((hS331).1 56 (by decide)) ((hS331).2 92 (by decide)) ((hS331).2 93 (by decide)) ((hS331).2 94 (by decide)) ((hS331).2 95 (by decide))) (PR.mv c4 ((hS331).1 43 (by decide)) ((hS331).1 51 (by decide)) ((hS331).2 86 (by decide)) ((hS331).2 87 (by decide)) ((hS331).2 88 (by decide)) ((hS331).2 90 (by decide)) ((hS331).2 91 (by decide))) (PO.mv c5 ((hS331).1 43 (by decide)) ((hS331).2 88 (by decide))) (Or.inl ⟨by omega, by omega⟩) (by
              intro x
              have e132 : S331.2 88 x = S1c.2 88 x := congrFun (hS331.2 88 (by decide)) _
              have e133 := c9 x
              omega) (by
              unfold PB
              have e134 : S331.1 54 59 = S1c.1 54 59 := hS331.1 59 (by decide)
              have e135 : S331.1 54 41 = S1c.1 54 41 := hS331.1 41 (by decide)
              have e136 : S1c.1 54 41 = S.1 54 41 := hS1c.1 41 (by decide)
              have e137 : S331.1 54 56 = S1c.1 54 56 := hS331.1 56 (by decide)
              have e138 : S331.1 54 51 = S1c.1 54 51 := hS331.1 51 (by decide)
              first | exact Or.inl (by omega) | exact Or.inr ⟨by omega, by omega, by omega⟩)
  · first | have e139 : S1c.2 88 ((S.1 54 43)) = S.2 88 ((S.1 54 43)) := by have q := c9 ((S.1 54 43)); omega | have e139 := c9 ((S.1 54 43))
    exact hK (l4) S1c (Ch.wk hS1c (by decide) (by decide)) (by omega) (by omega) c3 c4 c5 (Or.inl ⟨by omega, by omega⟩) (by
          intro x
          have e140 := c9 x
          omega) (by
          unfold PB
          have e141 : S1c.1 54 41 = S.1 54 41 := hS1c.1 41 (by decide)
          first | exact Or.inl (by omega) | exact Or.inr ⟨by omega, by omega, by omega⟩)
set_option maxRecDepth 100000 in
set_option maxHeartbeats 4000000 in
theorem tX11_beginTag {a1 a2 a3 : Int} {S : St} {K : Int → St → Prop} (p1 : 0 ≤ a1) (p2 : a1 < (S.1 54 41)) (p3 : (S.1 54 41) ≤ 3000) (p4 : (S.1 54 56) ≤ a1) (p5 : 5 * (S.1 54 51) ≤ a1) (p6 : (S.1 54 60) = 0) (p7 : PA S) (p8 : PR S) (p9 : PO S) (p10 : PE S a2) (p11 : iv (-2) 199 a2) (hK : ∀ (r : Int) (S' : St), Ch [43, 51, 56, 59, 60] [85, 86, 87, 88, 89, 90, 91, 92, 93, 94, 95, 96, 97] S S' → (a1 < r) → (r ≤ 3010) → (PA S') → (PR S') → (PO S') → (((S'.1 54 43) = (S.1 54 43) + 1 ∧ (S'.2 88) ((S.1 54 43)) = a2) ∨ ((S'.1 54 43) = (S.1 54 43) ∧ -1 ≤ (S'.1 54 59) ∧ (S'.1 54 60) = 0)) → (∀ x, x = (S.1 54 43) ∨ (S'.2 88) x = (S.2 88) x) → (PB S' r) → K r S') : wX11_beginTag a1 a2 a3 S K := by
  unfold wX11_beginTag
  intro g1 g2 g3
  intro x3 hx3
  subst hx3
  refine ⟨by omega, ?_⟩
  refine tX11_docAt (by omega) (fun r8 n8_0 n8_1 n8_2 => ?_)
  refine ⟨by omega, ?_⟩
  refine tX11_beginsName  (fun r11 n11_0 => ?_)
  refine ⟨by omega, ?_⟩
  refine ⟨fun h14 => ?_, fun h14 => ?_⟩
  · intro q1
    refine ⟨fun h33 => ?_, fun h33 => ?_⟩
    · unfold wX11_beginTag_42
      refine ⟨by omega, ?_⟩
      refine tX11_fail (by omega) (fun r44 S44 hS44 n44_0 => ?_)
      have e2 : S44.1 54 43 = S.1 54 43 := hS44.1 43 (by decide)
      have e3 : S44.2 88 ((S.1 54 43)) = S.2 88 ((S.1 54 43)) := congrFun (hS44.2 88 (by decide)) _
      have e4 : S44.1 54 60 = S.1 54 60 := hS44.1 60 (by decide)
      exact hK (((a1 + 1))) S44 (Ch.wk hS44 (by decide) (by decide)) (by omega) (by omega) (PA.mv2 p7 ((hS44).1 51 (by decide)) ((hS44).1 56 (by decide)) ((hS44).2 92 (by decide)) ((hS44).2 93 (by decide)) ((hS44).2 94 (by decide)) ((hS44).2 95 (by decide))) (PR.mv p8 ((hS44).1 43 (by decide)) ((hS44).1 51 (by decide)) ((hS44).2 86 (by decide)) ((hS44).2 87 (by decide)) ((hS44).2 88 (by decide)) ((hS44).2 90 (by decide)) ((hS44).2 91 (by decide))) (PO.mv p9 ((hS44).1 43 (by decide)) ((hS44).2 88 (by decide))) (Or.inr ⟨by omega, by omega, by omega⟩) (by
            intro x
            have e5 : S44.2 88 x = S.2 88 x := congrFun (hS44.2 88 (by decide)) _
            omega) (by
            unfold PB
            have e6 : S44.1 54 41 = S.1 54 41 := hS44.1 41 (by decide)
            have e7 : S44.1 54 56 = S.1 54 56 := hS44.1 56 (by decide)
            have e8 : S44.1 54 51 = S.1 54 51 := hS44.1 51 (by decide)
            first | exact Or.inl (by omega) | exact Or.inr ⟨by omega, by omega, by omega⟩)
    · refine ⟨fun h39 => ?_, fun h39 => ?_⟩
      · have hE := p10.1
        refine ⟨by omega, ?_⟩
        intro S63 hS63e
        have hS63 : Ch [43] [] S S63 := Ch_I hS63e
        have hS63v : S63.1 54 43 = (S.1 54 43 + 1) := pI_at hS63e
        refine ⟨by omega, by omega, ?_⟩
        refine ⟨by omega, ?_⟩
        intro S73 hS73e
        have hS73 : Ch [] [85] S63 S73 := Ch_A hS73e
        have hS73v : ∀ x, (x = S.1 54 43 ∧ S73.2 85 x = a1) ∨ (¬ x = S.1 54 43 ∧ S73.2 85 x = S63.2 85 x) := pA_at hS73e
        refine ⟨by omega, by omega, ?_⟩
        refine ⟨by omega, ?_⟩
        intro S82 hS82e
        have hS82 : Ch [] [86] S73 S82 := Ch_A hS82e
        have hS82v : ∀ x, (x = S.1 54 43 ∧ S82.2 86 x = ((a1 + 1))) ∨ (¬ x = S.1 54 43 ∧ S82.2 86 x = S73.2 86 x) := pA_at hS82e
        have e9 : S82.1 54 41 = S73.1 54 41 := hS82.1 41 (by decide)
        have e10 : S73.1 54 41 = S63.1 54 41 := hS73.1 41 (by decide)
        have e11 : S63.1 54 41 = S.1 54 41 := hS63.1 41 (by decide)
        have e12 : S82.1 54 41 = S73.1 54 41 := hS82.1 41 (by decide)
        have e13 : S73.1 54 41 = S63.1 54 41 := hS73.1 41 (by decide)
        have e14 : S63.1 54 41 = S.1 54 41 := hS63.1 41 (by decide)
        have e15 : S82.1 54 41 = S73.1 54 41 := hS82.1 41 (by decide)
        have e16 : S73.1 54 41 = S63.1 54 41 := hS73.1 41 (by decide)
        have e17 : S63.1 54 41 = S.1 54 41 := hS63.1 41 (by decide)
        have e18 : S82.1 54 41 = S73.1 54 41 := hS82.1 41 (by decide)
        have e19 : S73.1 54 41 = S63.1 54 41 := hS73.1 41 (by decide)
        have e20 : S63.1 54 41 = S.1 54 41 := hS63.1 41 (by decide)
        have e21 : S82.2 84 (((a1 + 1))) = S73.2 84 (((a1 + 1))) := congrFun (hS82.2 84 (by decide)) _
        have e22 : S73.2 84 (((a1 + 1))) = S63.2 84 (((a1 + 1))) := congrFun (hS73.2 84 (by decide)) _
        have e23 : S63.2 84 (((a1 + 1))) = S.2 84 (((a1 + 1))) := congrFun (hS63.2 84 (by decide)) _
        refine tX11_nameEnd (by omega) (by omega) (by omega) (fun r86 n86_0 n86_1 n86_2 => ?_)
        refine ⟨by omega, by omega, ?_⟩
        intro q24
        have e25 : S82.2 86 (S.1 54 43) = (((a1 + 1))) := by have q := hS82v (S.1 54 43); omega
        have e26 : S73.2 86 (S.1 54 43) = S63.2 86 (S.1 54 43) := congrFun (hS73.2 86 (by decide)) _
        have e27 : S63.2 86 (S.1 54 43) = S.2 86 (S.1 54 43) := congrFun (hS63.2 86 (by decide)) _
        refine ⟨by omega, by omega, ?_⟩
        refine ⟨by omega, ?_⟩
        intro S107 hS107e
        have hS107 : Ch [] [87] S82 S107 := Ch_A hS107e
        have hS107v : ∀ x, (x = S.1 54 43 ∧ S107.2 87 x = (r86 - S82.2 86 (S.1 54 43))) ∨ (¬ x = S.1 54 43 ∧ S107.2 87 x = S82.2 87 x) := pA_at hS107e
        refine ⟨by omega, by omega, ?_⟩
        refine ⟨by omega, ?_⟩
        intro S115 hS115e
        have hS115 : Ch [] [88] S107 S115 := Ch_A hS115e
        have hS115v : ∀ x, (x = S.1 54 43 ∧ S115.2 88 x = a2) ∨ (¬ x = S.1 54 43 ∧ S115.2 88 x = S107.2 88 x) := pA_at hS115e
        refine ⟨by omega, by omega, ?_⟩
        intro S123 hS123e
        have hS123 : Ch [] [89] S115 S123 := Ch_A hS123e
        have hS123v : ∀ x, (x = S.1 54 43 ∧ S123.2 89 x = 1) ∨ (¬ x = S.1 54 43 ∧ S123.2 89 x = S115.2 89 x) := pA_at hS123e
        unfold wX11_beginTag_127
        have e28 : S123.2 89 (S.1 54 43) = (1) := by have q := hS123v (S.1 54 43); omega
        have e29 : S115.2 89 (S.1 54 43) = S107.2 89 (S.1 54 43) := congrFun (hS115.2 89 (by decide)) _
        have e30 : S107.2 89 (S.1 54 43) = S82.2 89 (S.1 54 43) := congrFun (hS107.2 89 (by decide)) _
        have e31 : S82.2 89 (S.1 54 43) = S73.2 89 (S.1 54 43) := congrFun (hS82.2 89 (by decide)) _
        have e32 : S73.2 89 (S.1 54 43) = S63.2 89 (S.1 54 43) := congrFun (hS73.2 89 (by decide)) _
        have e33 : S63.2 89 (S.1 54 43) = S.2 89 (S.1 54 43) := congrFun (hS63.2 89 (by decide)) _
        refine ⟨fun u2 u4 u5 u6 Sx => Ch [] [89] S123 Sx ∧ a2 = u2 ∧ r86 = u4 ∧ S.1 54 43 = u5 ∧ (0 ≤ u6) ∧ (u6 ≤ u5) ∧ ((Sx.2 89) u5 ≤ u6 + 1), fun u2 u4 u5 u6 Sx => (200 - u6).toNat, ?_, fun v127_2 v127_4 v127_5 v127_6 S127h hI => ?_⟩
        · exact ⟨Ch.re, rfl, rfl, rfl, by omega, by omega, by omega⟩
        obtain ⟨hS127h, rfl, rfl, rfl, i127_0, i127_1, i127_2⟩ := hI
        unfold wX11_beginTag_127'
        refine ⟨by omega, ?_⟩
        refine ⟨by omega, ?_⟩
        refine ⟨fun h131 => ?_, fun h131 => ?_⟩
        · intro q34
          have e35 : S127h.1 54 51 = S123.1 54 51 := hS127h.1 51 (by decide)
          have e36 : S123.1 54 51 = S115.1 54 51 := hS123.1 51 (by decide)
          have e37 : S115.1 54 51 = S107.1 54 51 := hS115.1 51 (by decide)
          have e38 : S107.1 54 51 = S82.1 54 51 := hS107.1 51 (by decide)
          have e39 : S82.1 54 51 = S73.1 54 51 := hS82.1 51 (by decide)
          have e40 : S73.1 54 51 = S63.1 54 51 := hS73.1 51 (by decide)
          have e41 : S63.1 54 51 = S.1 54 51 := hS63.1 51 (by decide)
          refine ⟨by omega, by omega, ?_⟩
          intro S222 hS222e
          have hS222 : Ch [] [90] S127h S222 := Ch_A hS222e
          have hS222v : ∀ x, (x = S.1 54 43 ∧ S222.2 90 x = S127h.1 54 51) ∨ (¬ x = S.1 54 43 ∧ S222.2 90 x = S127h.2 90 x) := pA_at hS222e
          refine ⟨by omega, by omega, ?_⟩
          intro S230 hS230e
          have hS230 : Ch [] [91] S222 S230 := Ch_A hS230e
          have hS230v : ∀ x, (x = S.1 54 43 ∧ S230.2 91 x = 0) ∨ (¬ x = S.1 54 43 ∧ S230.2 91 x = S222.2 91 x) := pA_at hS230e
          unfold wX11_beginTag_234
          have e42 : S230.2 90 (S.1 54 43) = S222.2 90 (S.1 54 43) := congrFun (hS230.2 90 (by decide)) _
          have e43 : S222.2 90 (S.1 54 43) = (S127h.1 54 51) := by have q := hS222v (S.1 54 43); omega
          have e44 : S127h.2 90 (S.1 54 43) = S123.2 90 (S.1 54 43) := congrFun (hS127h.2 90 (by decide)) _
          have e45 : S123.2 90 (S.1 54 43) = S115.2 90 (S.1 54 43) := congrFun (hS123.2 90 (by decide)) _
          have e46 : S115.2 90 (S.1 54 43) = S107.2 90 (S.1 54 43) := congrFun (hS115.2 90 (by decide)) _
          have e47 : S107.2 90 (S.1 54 43) = S82.2 90 (S.1 54 43) := congrFun (hS107.2 90 (by decide)) _
          have e48 : S82.2 90 (S.1 54 43) = S73.2 90 (S.1 54 43) := congrFun (hS82.2 90 (by decide)) _
          have e49 : S73.2 90 (S.1 54 43) = S63.2 90 (S.1 54 43) := congrFun (hS73.2 90 (by decide)) _
          have e50 : S63.2 90 (S.1 54 43) = S.2 90 (S.1 54 43) := congrFun (hS63.2 90 (by decide)) _
          have e51 : S230.2 91 (S.1 54 43) = (0) := by have q := hS230v (S.1 54 43); omega
          have e52 : S222.2 91 (S.1 54 43) = S127h.2 91 (S.1 54 43) := congrFun (hS222.2 91 (by decide)) _
          have e53 : S127h.2 91 (S.1 54 43) = S123.2 91 (S.1 54 43) := congrFun (hS127h.2 91 (by decide)) _
          have e54 : S123.2 91 (S.1 54 43) = S115.2 91 (S.1 54 43) := congrFun (hS123.2 91 (by decide)) _
          have e55 : S115.2 91 (S.1 54 43) = S107.2 91 (S.1 54 43) := congrFun (hS115.2 91 (by decide)) _
          have e56 : S107.2 91 (S.1 54 43) = S82.2 91 (S.1 54 43) := congrFun (hS107.2 91 (by decide)) _
          have e57 : S82.2 91 (S.1 54 43) = S73.2 91 (S.1 54 43) := congrFun (hS82.2 91 (by decide)) _
          have e58 : S73.2 91 (S.1 54 43) = S63.2 91 (S.1 54 43) := congrFun (hS73.2 91 (by decide)) _
          have e59 : S63.2 91 (S.1 54 43) = S.2 91 (S.1 54 43) := congrFun (hS63.2 91 (by decide)) _
          have e60 : S230.1 54 51 = S222.1 54 51 := hS230.1 51 (by decide)
          have e61 : S222.1 54 51 = S127h.1 54 51 := hS222.1 51 (by decide)
          have e62 : S127h.1 54 51 = S123.1 54 51 := hS127h.1 51 (by decide)
          have e63 : S123.1 54 51 = S115.1 54 51 := hS123.1 51 (by decide)
          have e64 : S115.1 54 51 = S107.1 54 51 := hS115.1 51 (by decide)
          have e65 : S107.1 54 51 = S82.1 54 51 := hS107.1 51 (by decide)
          have e66 : S82.1 54 51 = S73.1 54 51 := hS82.1 51 (by decide)
          have e67 : S73.1 54 51 = S63.1 54 51 := hS73.1 51 (by decide)
          have e68 : S63.1 54 51 = S.1 54 51 := hS63.1 51 (by decide)
          have e69 : S230.1 54 51 = S222.1 54 51 := hS230.1 51 (by decide)
          have e70 : S222.1 54 51 = S127h.1 54 51 := hS222.1 51 (by decide)
          have e71 : S127h.1 54 51 = S123.1 54 51 := hS127h.1 51 (by decide)
          have e72 : S123.1 54 51 = S115.1 54 51 := hS123.1 51 (by decide)
          have e73 : S115.1 54 51 = S107.1 54 51 := hS115.1 51 (by decide)
          have e74 : S107.1 54 51 = S82.1 54 51 := hS107.1 51 (by decide)
          have e75 : S82.1 54 51 = S73.1 54 51 := hS82.1 51 (by decide)
          have e76 : S73.1 54 51 = S63.1 54 51 := hS73.1 51 (by decide)
          have e77 : S63.1 54 51 = S.1 54 51 := hS63.1 51 (by decide)
          refine ⟨fun u4 u5 u6 Sx => Ch [51, 56, 59] [91, 92, 93, 94, 95, 96, 97] S230 Sx ∧ S.1 54 43 = u5 ∧ (iv 0 1 u6) ∧ (a1 + 1 ≤ u4) ∧ (u4 ≤ 3010) ∧ (PA Sx) ∧ ((Sx.2 90) u5 + (Sx.2 91) u5 ≤ (Sx.1 54 51)) ∧ (∀ x, x = u5 ∨ (Sx.2 91) x = (S230.2 91) x) ∧ ((S230.1 54 51) ≤ (Sx.1 54 51)) ∧ (PB Sx u4), fun u4 u5 u6 Sx => (2 * (3012 - u4) + u6).toNat, ?_, fun v234_4 v234_5 v234_6 S234h hI => ?_⟩
          · exact ⟨Ch.re, rfl, by omega, by omega, by omega, (PA.mv2 p7 (((Ch.tr (Ch.tr (Ch.tr (Ch.tr (Ch.tr (Ch.tr (Ch.tr (Ch.tr hS63 hS73) hS82) hS107) hS115) hS123) hS127h) hS222) hS230)).1 51 (by decide)) (((Ch.tr (Ch.tr (Ch.tr (Ch.tr (Ch.tr (Ch.tr (Ch.tr (Ch.tr hS63 hS73) hS82) hS107) hS115) hS123) hS127h) hS222) hS230)).1 56 (by decide)) (((Ch.tr (Ch.tr (Ch.tr (Ch.tr (Ch.tr (Ch.tr (Ch.tr (Ch.tr hS63 hS73) hS82) hS107) hS115) hS123) hS127h) hS222) hS230)).2 92 (by decide)) (((Ch.tr (Ch.tr (Ch.tr (Ch.tr (Ch.tr (Ch.tr (Ch.tr (Ch.tr hS63 hS73) hS82) hS107) hS115) hS123) hS127h) hS222) hS230)).2 93 (by decide)) (((Ch.tr (Ch.tr (Ch.tr (Ch.tr (Ch.tr (Ch.tr (Ch.tr (Ch.tr hS63 hS73) hS82) hS107) hS115) hS123) hS127h) hS222) hS230)).2 94 (by decide)) (((Ch.tr (Ch.tr (Ch.tr (Ch.tr (Ch.tr (Ch.tr (Ch.tr (Ch.tr hS63 hS73) hS82) hS107) hS115) hS123) hS127h) hS222) hS230)).2 95 (by decide))), by omega, (by
                intro x
                exact Or.inr rfl), by omega, (by
                unfold PB
                have e78 : S230.1 54 59 = S222.1 54 59 := hS230.1 59 (by decide)
                have e79 : S222.1 54 59 = S127h.1 54 59 := hS222.1 59 (by decide)
                have e80 : S127h.1 54 59 = S123.1 54 59 := hS127h.1 59 (by decide)
                have e81 : S123.1 54 59 = S115.1 54 59 := hS123.1 59 (by decide)
                have e82 : S115.1 54 59 = S107.1 54 59 := hS115.1 59 (by decide)
                have e83 : S107.1 54 59 = S82.1 54 59 := hS107.1 59 (by decide)
                have e84 : S82.1 54 59 = S73.1 54 59 := hS82.1 59 (by decide)
                have e85 : S73.1 54 59 = S63.1 54 59 := hS73.1 59 (by decide)
                have e86 : S63.1 54 59 = S.1 54 59 := hS63.1 59 (by decide)
                have e87 : S230.1 54 41 = S222.1 54 41 := hS230.1 41 (by decide)
                have e88 : S222.1 54 41 = S127h.1 54 41 := hS222.1 41 (by decide)
                have e89 : S127h.1 54 41 = S123.1 54 41 := hS127h.1 41 (by decide)
                have e90 : S123.1 54 41 = S115.1 54 41 := hS123.1 41 (by decide)
                have e91 : S115.1 54 41 = S107.1 54 41 := hS115.1 41 (by decide)
                have e92 : S107.1 54 41 = S82.1 54 41 := hS107.1 41 (by decide)
                have e93 : S82.1 54 41 = S73.1 54 41 := hS82.1 41 (by decide)
                have e94 : S73.1 54 41 = S63.1 54 41 := hS73.1 41 (by decide)
                have e95 : S63.1 54 41 = S.1 54 41 := hS63.1 41 (by decide)
                have e96 : S230.1 54 56 = S222.1 54 56 := hS230.1 56 (by decide)
                have e97 : S222.1 54 56 = S127h.1 54 56 := hS222.1 56 (by decide)
                have e98 : S127h.1 54 56 = S123.1 54 56 := hS127h.1 56 (by decide)
                have e99 : S123.1 54 56 = S115.1 54 56 := hS123.1 56 (by decide)
                have e100 : S115.1 54 56 = S107.1 54 56 := hS115.1 56 (by decide)
                have e101 : S107.1 54 56 = S82.1 54 56 := hS107.1 56 (by decide)
                have e102 : S82.1 54 56 = S73.1 54 56 := hS82.1 56 (by decide)
                have e103 : S73.1 54 56 = S63.1 54 56 := hS73.1 56 (by decide)
                have e104 : S63.1 54 56 = S.1 54 56 := hS63.1 56 (by decide)
                have e105 : S230.1 54 51 = S222.1 54 51 := hS230.1 51 (by decide)
                have e106 : S222.1 54 51 = S127h.1 54 51 := hS222.1 51 (by decide)
                have e107 : S127h.1 54 51 = S123.1 54 51 := hS127h.1 51 (by decide)
                have e108 : S123.1 54 51 = S115.1 54 51 := hS123.1 51 (by decide)
                have e109 : S115.1 54 51 = S107.1 54 51 := hS115.1 51 (by decide)
                have e110 : S107.1 54 51 = S82.1 54 51 := hS107.1 51 (by decide)
                have e111 : S82.1 54 51 = S73.1 54 51 := hS82.1 51 (by decide)
                have e112 : S73.1 54 51 = S63.1 54 51 := hS73.1 51 (by decide)
                have e113 : S63.1 54 51 = S.1 54 51 := hS63.1 51 (by decide)
                exact Or.inr ⟨by omega, by omega, by omega⟩)⟩
          obtain ⟨hS234h, rfl, i234_0, i234_1, i234_2, i234_3, i234_4, i234_5, i234_6, i234_7⟩ := hI
          unfold wX11_beginTag_234'
          refine ⟨by omega, ?_⟩
          refine ⟨fun h236 => ?_, fun h236 => ?_⟩
          · have e114 : S234h.1 54 43 = S230.1 54 43 := hS234h.1 43 (by decide)
            have e115 : S230.1 54 43 = S222.1 54 43 := hS230.1 43 (by decide)
            have e116 : S222.1 54 43 = S127h.1 54 43 := hS222.1 43 (by decide)
            have e117 : S127h.1 54 43 = S123.1 54 43 := hS127h.1 43 (by decide)
            have e118 : S123.1 54 43 = S115.1 54 43 := hS123.1 43 (by decide)
            have e119 : S115.1 54 43 = S107.1 54 43 := hS115.1 43 (by decide)
            have e120 : S107.1 54 43 = S82.1 54 43 := hS107.1 43 (by decide)
            have e121 : S82.1 54 43 = S73.1 54 43 := hS82.1 43 (by decide)
            have e122 : S73.1 54 43 = S63.1 54 43 := hS73.1 43 (by decide)
            have e123 : S234h.2 88 ((S.1 54 43)) = S230.2 88 ((S.1 54 43)) := congrFun (hS234h.2 88 (by decide)) _
            have e124 : S230.2 88 ((S.1 54 43)) = S222.2 88 ((S.1 54 43)) := congrFun (hS230.2 88 (by decide)) _
            have e125 : S222.2 88 ((S.1 54 43)) = S127h.2 88 ((S.1 54 43)) := congrFun (hS222.2 88 (by decide)) _
            have e126 : S127h.2 88 ((S.1 54 43)) = S123.2 88 ((S.1 54 43)) := congrFun (hS127h.2 88 (by decide)) _
            have e127 : S123.2 88 ((S.1 54 43)) = S115.2 88 ((S.1 54 43)) := congrFun (hS123.2 88 (by decide)) _
            have e128 : S115.2 88 ((S.1 54 43)) = (a2) := by have q := hS115v ((S.1 54 43)); omega
            have e129 : S107.2 88 ((S.1 54 43)) = S82.2 88 ((S.1 54 43)) := congrFun (hS107.2 88 (by decide)) _
            have e130 : S82.2 88 ((S.1 54 43)) = S73.2 88 ((S.1 54 43)) := congrFun (hS82.2 88 (by decide)) _
            have e131 : S73.2 88 ((S.1 54 43)) = S63.2 88 ((S.1 54 43)) := congrFun (hS73.2 88 (by decide)) _
            have e132 : S63.2 88 ((S.1 54 43)) = S.2 88 ((S.1 54 43)) := congrFun (hS63.2 88 (by decide)) _
            have e133 : S234h.1 54 43 = S230.1 54 43 := hS234h.1 43 (by decide)
            have e134 : S230.1 54 43 = S222.1 54 43 := hS230.1 43 (by decide)
            have e135 : S222.1 54 43 = S127h.1 54 43 := hS222.1 43 (by decide)
            have e136 : S127h.1 54 43 = S123.1 54 43 := hS127h.1 43 (by decide)
            have e137 : S123.1 54 43 = S115.1 54 43 := hS123.1 43 (by decide)
            have e138 : S115.1 54 43 = S107.1 54 43 := hS115.1 43 (by decide)
            have e139 : S107.1 54 43 = S82.1 54 43 := hS107.1 43 (by decide)
            have e140 : S82.1 54 43 = S73.1 54 43 := hS82.1 43 (by decide)
            have e141 : S73.1 54 43 = S63.1 54 43 := hS73.1 43 (by decide)
            have e142 : S234h.2 88 (S.1 54 43) = S230.2 88 (S.1 54 43) := congrFun (hS234h.2 88 (by decide)) _
            have e143 : S230.2 88 (S.1 54 43) = S222.2 88 (S.1 54 43) := congrFun (hS230.2 88 (by decide)) _
            have e144 : S222.2 88 (S.1 54 43) = S127h.2 88 (S.1 54 43) := congrFun (hS222.2 88 (by decide)) _
            have e145 : S127h.2 88 (S.1 54 43) = S123.2 88 (S.1 54 43) := congrFun (hS127h.2 88 (by decide)) _
            have e146 : S123.2 88 (S.1 54 43) = S115.2 88 (S.1 54 43) := congrFun (hS123.2 88 (by decide)) _
            have e147 : S115.2 88 (S.1 54 43) = (a2) := by have q := hS115v (S.1 54 43); omega
            have e148 : S107.2 88 (S.1 54 43) = S82.2 88 (S.1 54 43) := congrFun (hS107.2 88 (by decide)) _
            have e149 : S82.2 88 (S.1 54 43) = S73.2 88 (S.1 54 43) := congrFun (hS82.2 88 (by decide)) _
            have e150 : S73.2 88 (S.1 54 43) = S63.2 88 (S.1 54 43) := congrFun (hS73.2 88 (by decide)) _
            have e151 : S63.2 88 (S.1 54 43) = S.2 88 (S.1 54 43) := congrFun (hS63.2 88 (by decide)) _
            have e152 : S234h.2 86 (S.1 54 43) = S230.2 86 (S.1 54 43) := congrFun (hS234h.2 86 (by decide)) _
            have e153 : S230.2 86 (S.1 54 43) = S222.2 86 (S.1 54 43) := congrFun (hS230.2 86 (by decide)) _
            have e154 : S222.2 86 (S.1 54 43) = S127h.2 86 (S.1 54 43) := congrFun (hS222.2 86 (by decide)) _
            have e155 : S127h.2 86 (S.1 54 43) = S123.2 86 (S.1 54 43) := congrFun (hS127h.2 86 (by decide)) _
            have e156 : S123.2 86 (S.1 54 43) = S115.2 86 (S.1 54 43) := congrFun (hS123.2 86 (by decide)) _
            have e157 : S115.2 86 (S.1 54 43) = S107.2 86 (S.1 54 43) := congrFun (hS115.2 86 (by decide)) _
            have e158 : S107.2 86 (S.1 54 43) = S82.2 86 (S.1 54 43) := congrFun (hS107.2 86 (by decide)) _
            have e159 : S82.2 86 (S.1 54 43) = (((a1 + 1))) := by have q := hS82v (S.1 54 43); omega
            have e160 : S73.2 86 (S.1 54 43) = S63.2 86 (S.1 54 43) := congrFun (hS73.2 86 (by decide)) _
            have e161 : S63.2 86 (S.1 54 43) = S.2 86 (S.1 54 43) := congrFun (hS63.2 86 (by decide)) _
            have e162 : S234h.2 87 (S.1 54 43) = S230.2 87 (S.1 54 43) := congrFun (hS234h.2 87 (by decide)) _
            have e163 : S230.2 87 (S.1 54 43) = S222.2 87 (S.1 54 43) := congrFun (hS230.2 87 (by decide)) _
            have e164 : S222.2 87 (S.1 54 43) = S127h.2 87 (S.1 54 43) := congrFun (hS222.2 87 (by decide)) _
            have e165 : S127h.2 87 (S.1 54 43) = S123.2 87 (S.1 54 43) := congrFun (hS127h.2 87 (by decide)) _
            have e166 : S123.2 87 (S.1 54 43) = S115.2 87 (S.1 54 43) := congrFun (hS123.2 87 (by decide)) _
            have e167 : S115.2 87 (S.1 54 43) = S107.2 87 (S.1 54 43) := congrFun (hS115.2 87 (by decide)) _
            have e168 : S107.2 87 (S.1 54 43) = ((r86 - S82.2 86 (S.1 54 43))) := by have q := hS107v (S.1 54 43); omega
            have e169 : S82.2 87 (S.1 54 43) = S73.2 87 (S.1 54 43) := congrFun (hS82.2 87 (by decide)) _
            have e170 : S73.2 87 (S.1 54 43) = S63.2 87 (S.1 54 43) := congrFun (hS73.2 87 (by decide)) _
            have e171 : S63.2 87 (S.1 54 43) = S.2 87 (S.1 54 43) := congrFun (hS63.2 87 (by decide)) _
            have e172 : S234h.2 90 (S.1 54 43) = S230.2 90 (S.1 54 43) := congrFun (hS234h.2 90 (by decide)) _
            have e173 : S230.2 90 (S.1 54 43) = S222.2 90 (S.1 54 43) := congrFun (hS230.2 90 (by decide)) _
            have e174 : S222.2 90 (S.1 54 43) = (S127h.1 54 51) := by have q := hS222v (S.1 54 43); omega
            have e175 : S127h.2 90 (S.1 54 43) = S123.2 90 (S.1 54 43) := congrFun (hS127h.2 90 (by decide)) _
            have e176 : S123.2 90 (S.1 54 43) = S115.2 90 (S.1 54 43) := congrFun (hS123.2 90 (by decide)) _
            have e177 : S115.2 90 (S.1 54 43) = S107.2 90 (S.1 54 43) := congrFun (hS115.2 90 (by decide)) _
            have e178 : S107.2 90 (S.1 54 43) = S82.2 90 (S.1 54 43) := congrFun (hS107.2 90 (by decide)) _
            have e179 : S82.2 90 (S.1 54 43) = S73.2 90 (S.1 54 43) := congrFun (hS82.2 90 (by decide)) _
            have e180 : S73.2 90 (S.1 54 43) = S63.2 90 (S.1 54 43) := congrFun (hS73.2 90 (by decide)) _
            have e181 : S63.2 90 (S.1 54 43) = S.2 90 (S.1 54 43) := congrFun (hS63.2 90 (by decide)) _
            first | have e182 : S234h.2 91 (S.1 54 43) = S230.2 91 (S.1 54 43) := by have q := i234_5 (S.1 54 43); omega | have e182 := i234_5 (S.1 54 43)
            have e183 : S230.2 91 (S.1 54 43) = (0) := by have q := hS230v (S.1 54 43); omega
            have e184 : S222.2 91 (S.1 54 43) = S127h.2 91 (S.1 54 43) := congrFun (hS222.2 91 (by decide)) _
            have e185 : S127h.2 91 (S.1 54 43) = S123.2 91 (S.1 54 43) := congrFun (hS127h.2 91 (by decide)) _
            have e186 : S123.2 91 (S.1 54 43) = S115.2 91 (S.1 54 43) := congrFun (hS123.2 91 (by decide)) _
            have e187 : S115.2 91 (S.1 54 43) = S107.2 91 (S.1 54 43) := congrFun (hS115.2 91 (by decide)) _
            have e188 : S107.2 91 (S.1 54 43) = S82.2 91 (S.1 54 43) := congrFun (hS107.2 91 (by decide)) _
            have e189 : S82.2 91 (S.1 54 43) = S73.2 91 (S.1 54 43) := congrFun (hS82.2 91 (by decide)) _
            have e190 : S73.2 91 (S.1 54 43) = S63.2 91 (S.1 54 43) := congrFun (hS73.2 91 (by decide)) _
            have e191 : S63.2 91 (S.1 54 43) = S.2 91 (S.1 54 43) := congrFun (hS63.2 91 (by decide)) _
            exact tX11_beginTag_302 g1 g2 g3 p1 p2 p3 p4 p5 p6 p7 p8 p9 p10 p11 (Ch.wk (Ch.tr (Ch.tr (Ch.tr (Ch.tr (Ch.tr (Ch.tr (Ch.tr (Ch.tr (Ch.tr hS63 hS73) hS82) hS107) hS115) hS123) hS127h) hS222) hS230) hS234h) (by decide) (by decide)) (by omega) (by omega) i234_3 (PR_new p8 p10 (by omega) (by omega) (by omega) (by omega) (by omega) (by
                  intro x
                  have e192 : S234h.2 88 x = S230.2 88 x := congrFun (hS234h.2 88 (by decide)) _
                  have e193 : S230.2 88 x = S222.2 88 x := congrFun (hS230.2 88 (by decide)) _
                  have e194 : S222.2 88 x = S127h.2 88 x := congrFun (hS222.2 88 (by decide)) _
                  have e195 : S127h.2 88 x = S123.2 88 x := congrFun (hS127h.2 88 (by decide)) _
                  have e196 : S123.2 88 x = S115.2 88 x := congrFun (hS123.2 88 (by decide)) _
                  have e197 := hS115v x
                  have e198 : S107.2 88 x = S82.2 88 x := congrFun (hS107.2 88 (by decide)) _
                  have e199 : S82.2 88 x = S73.2 88 x := congrFun (hS82.2 88 (by decide)) _
                  have e200 : S73.2 88 x = S63.2 88 x := congrFun (hS73.2 88 (by decide)) _
                  have e201 : S63.2 88 x = S.2 88 x := congrFun (hS63.2 88 (by decide)) _
                  omega) (by
                  intro x
                  have e202 : S234h.2 86 x = S230.2 86 x := congrFun (hS234h.2 86 (by decide)) _
                  have e203 : S230.2 86 x = S222.2 86 x := congrFun (hS230.2 86 (by decide)) _
                  have e204 : S222.2 86 x = S127h.2 86 x := congrFun (hS222.2 86 (by decide)) _
                  have e205 : S127h.2 86 x = S123.2 86 x := congrFun (hS127h.2 86 (by decide)) _
                  have e206 : S123.2 86 x = S115.2 86 x := congrFun (hS123.2 86 (by decide)) _
                  have e207 : S115.2 86 x = S107.2 86 x := congrFun (hS115.2 86 (by decide)) _
                  have e208 : S107.2 86 x = S82.2 86 x := congrFun (hS107.2 86 (by decide)) _
                  have e209 := hS82v x
                  have e210 : S73.2 86 x = S63.2 86 x := congrFun (hS73.2 86 (by decide)) _
                  have e211 : S63.2 86 x = S.2 86 x := congrFun (hS63.2 86 (by decide)) _
                  omega) (by
                  intro x
                  have e212 : S234h.2 87 x = S230.2 87 x := congrFun (hS234h.2 87 (by decide)) _
                  have e213 : S230.2 87 x = S222.2 87 x := congrFun (hS230.2 87 (by decide)) _
                  have e214 : S222.2 87 x = S127h.2 87 x := congrFun (hS222.2 87 (by decide)) _
                  have e215 : S127h.2 87 x = S123.2 87 x := congrFun (hS127h.2 87 (by decide)) _
                  have e216 : S123.2 87 x = S115.2 87 x := congrFun (hS123.2 87 (by decide)) _
                  have e217 : S115.2 87 x = S107.2 87 x := congrFun (hS115.2 87 (by decide)) _
                  have e218 := hS107v x
                  have e219 : S82.2 87 x = S73.2 87 x := congrFun (hS82.2 87 (by decide)) _
                  have e220 : S73.2 87 x = S63.2 87 x := congrFun (hS73.2 87 (by decide)) _
                  have e221 : S63.2 87 x = S.2 87 x := congrFun (hS63.2 87 (by decide)) _
                  omega) (by
                  intro x
                  have e222 : S234h.2 90 x = S230.2 90 x := congrFun (hS234h.2 90 (by decide)) _
                  have e223 : S230.2 90 x = S222.2 90 x := congrFun (hS230.2 90 (by decide)) _
                  have e224 := hS222v x
                  have e225 : S127h.2 90 x = S123.2 90 x := congrFun (hS127h.2 90 (by decide)) _
                  have e226 : S123.2 90 x = S115.2 90 x := congrFun (hS123.2 90 (by decide)) _
                  have e227 : S115.2 90 x = S107.2 90 x := congrFun (hS115.2 90 (by decide)) _
                  have e228 : S107.2 90 x = S82.2 90 x := congrFun (hS107.2 90 (by decide)) _
                  have e229 : S82.2 90 x = S73.2 90 x := congrFun (hS82.2 90 (by decide)) _
                  have e230 : S73.2 90 x = S63.2 90 x := congrFun (hS73.2 90 (by decide)) _
                  have e231 : S63.2 90 x = S.2 90 x := congrFun (hS63.2 90 (by decide)) _
                  omega) (by
                  intro x
                  have e232 := i234_5 x
                  have e233 := hS230v x
                  have e234 : S222.2 91 x = S127h.2 91 x := congrFun (hS222.2 91 (by decide)) _
                  have e235 : S127h.2 91 x = S123.2 91 x := congrFun (hS127h.2 91 (by decide)) _
                  have e236 : S123.2 91 x = S115.2 91 x := congrFun (hS123.2 91 (by decide)) _
                  have e237 : S115.2 91 x = S107.2 91 x := congrFun (hS115.2 91 (by decide)) _
                  have e238 : S107.2 91 x = S82.2 91 x := congrFun (hS107.2 91 (by decide)) _
                  have e239 : S82.2 91 x = S73.2 91 x := congrFun (hS82.2 91 (by decide)) _
                  have e240 : S73.2 91 x = S63.2 91 x := congrFun (hS73.2 91 (by decide)) _
                  have e241 : S63.2 91 x = S.2 91 x := congrFun (hS63.2 91 (by decide)) _
                  omega)) (PO_new p8 p9 p10 (by omega) (by omega) (by
                  intro x
                  have e242 : S234h.2 88 x = S230.2 88 x := congrFun (hS234h.2 88 (by decide)) _
                  have e243 : S230.2 88 x = S222.2 88 x := congrFun (hS230.2 88 (by decide)) _
                  have e244 : S222.2 88 x = S127h.2 88 x := congrFun (hS222.2 88 (by decide)) _
                  have e245 : S127h.2 88 x = S123.2 88 x := congrFun (hS127h.2 88 (by decide)) _
                  have e246 : S123.2 88 x = S115.2 88 x := congrFun (hS123.2 88 (by decide)) _
                  have e247 := hS115v x
                  have e248 : S107.2 88 x = S82.2 88 x := congrFun (hS107.2 88 (by decide)) _
                  have e249 : S82.2 88 x = S73.2 88 x := congrFun (hS82.2 88 (by decide)) _
                  have e250 : S73.2 88 x = S63.2 88 x := congrFun (hS73.2 88 (by decide)) _
                  have e251 : S63.2 88 x = S.2 88 x := congrFun (hS63.2 88 (by decide)) _
                  omega)) i234_7 (by omega) (by omega) (by
                  intro x
                  have e252 : S234h.2 88 x = S230.2 88 x := congrFun (hS234h.2 88 (by decide)) _
                  have e253 : S230.2 88 x = S222.2 88 x := congrFun (hS230.2 88 (by decide)) _
                  have e254 : S222.2 88 x = S127h.2 88 x := congrFun (hS222.2 88 (by decide)) _
                  have e255 : S127h.2 88 x = S123.2 88 x := congrFun (hS127h.2 88 (by decide)) _
                  have e256 : S123.2 88 x = S115.2 88 x := congrFun (hS123.2 88 (by decide)) _
                  have e257 := hS115v x
                  have e258 : S107.2 88 x = S82.2 88 x := congrFun (hS107.2 88 (by decide)) _
                  have e259 : S82.2 88 x = S73.2 88 x := congrFun (hS82.2 88 (by decide)) _
                  have e260 : S73.2 88 x = S63.2 88 x := congrFun (hS73.2 88 (by decide)) _
                  have e261 : S63.2 88 x = S.2 88 x := congrFun (hS63.2 88 (by decide)) _
                  omega) hK
          · intro q262
            refine ⟨fun h245 => ?_, fun h245 => ?_⟩
            · have e263 : S234h.1 54 43 = S230.1 54 43 := hS234h.1 43 (by decide)
              have e264 : S230.1 54 43 = S222.1 54 43 := hS230.1 43 (by decide)
              have e265 : S222.1 54 43 = S127h.1 54 43 := hS222.1 43 (by decide)
              have e266 : S127h.1 54 43 = S123.1 54 43 := hS127h.1 43 (by decide)
              have e267 : S123.1 54 43 = S115.1 54 43 := hS123.1 43 (by decide)
              have e268 : S115.1 54 43 = S107.1 54 43 := hS115.1 43 (by decide)
              have e269 : S107.1 54 43 = S82.1 54 43 := hS107.1 43 (by decide)
              have e270 : S82.1 54 43 = S73.1 54 43 := hS82.1 43 (by decide)
              have e271 : S73.1 54 43 = S63.1 54 43 := hS73.1 43 (by decide)
              have e272 : S234h.2 88 ((S.1 54 43)) = S230.2 88 ((S.1 54 43)) := congrFun (hS234h.2 88 (by decide)) _
              have e273 : S230.2 88 ((S.1 54 43)) = S222.2 88 ((S.1 54 43)) := congrFun (hS230.2 88 (by decide)) _
              have e274 : S222.2 88 ((S.1 54 43)) = S127h.2 88 ((S.1 54 43)) := congrFun (hS222.2 88 (by decide)) _
              have e275 : S127h.2 88 ((S.1 54 43)) = S123.2 88 ((S.1 54 43)) := congrFun (hS127h.2 88 (by decide)) _
              have e276 : S123.2 88 ((S.1 54 43)) = S115.2 88 ((S.1 54 43)) := congrFun (hS123.2 88 (by decide)) _
              have e277 : S115.2 88 ((S.1 54 43)) = (a2) := by have q := hS115v ((S.1 54 43)); omega
              have e278 : S107.2 88 ((S.1 54 43)) = S82.2 88 ((S.1 54 43)) := congrFun (hS107.2 88 (by decide)) _
              have e279 : S82.2 88 ((S.1 54 43)) = S73.2 88 ((S.1 54 43)) := congrFun (hS82.2 88 (by decide)) _
              have e280 : S73.2 88 ((S.1 54 43)) = S63.2 88 ((S.1 54 43)) := congrFun (hS73.2 88 (by decide)) _
              have e281 : S63.2 88 ((S.1 54 43)) = S.2 88 ((S.1 54 43)) := congrFun (hS63.2 88 (by decide)) _
              have e282 : S234h.1 54 43 = S230.1 54 43 := hS234h.1 43 (by decide)
              have e283 : S230.1 54 43 = S222.1 54 43 := hS230.1 43 (by decide)
              have e284 : S222.1 54 43 = S127h.1 54 43 := hS222.1 43 (by decide)
              have e285 : S127h.1 54 43 = S123.1 54 43 := hS127h.1 43 (by decide)
              have e286 : S123.1 54 43 = S115.1 54 43 := hS123.1 43 (by decide)
              have e287 : S115.1 54 43 = S107.1 54 43 := hS115.1 43 (by decide)
              have e288 : S107.1 54 43 = S82.1 54 43 := hS107.1 43 (by decide)
              have e289 : S82.1 54 43 = S73.1 54 43 := hS82.1 43 (by decide)
              have e290 : S73.1 54 43 = S63.1 54 43 := hS73.1 43 (by decide)
              have e291 : S234h.2 88 (S.1 54 43) = S230.2 88 (S.1 54 43) := congrFun (hS234h.2 88 (by decide)) _
              have e292 : S230.2 88 (S.1 54 43) = S222.2 88 (S.1 54 43) := congrFun (hS230.2 88 (by decide)) _
              have e293 : S222.2 88 (S.1 54 43) = S127h.2 88 (S.1 54 43) := congrFun (hS222.2 88 (by decide)) _
              have e294 : S127h.2 88 (S.1 54 43) = S123.2 88 (S.1 54 43) := congrFun (hS127h.2 88 (by decide)) _
              have e295 : S123.2 88 (S.1 54 43) = S115.2 88 (S.1 54 43) := congrFun (hS123.2 88 (by decide)) _
              have e296 : S115.2 88 (S.1 54 43) = (a2) := by have q := hS115v (S.1 54 43); omega
              have e297 : S107.2 88 (S.1 54 43) = S82.2 88 (S.1 54 43) := congrFun (hS107.2 88 (by decide)) _
              have e298 : S82.2 88 (S.1 54 43) = S73.2 88 (S.1 54 43) := congrFun (hS82.2 88 (by decide)) _
              have e299 : S73.2 88 (S.1 54 43) = S63.2 88 (S.1 54 43) := congrFun (hS73.2 88 (by decide)) _
              have e300 : S63.2 88 (S.1 54 43) = S.2 88 (S.1 54 43) := congrFun (hS63.2 88 (by decide)) _
              have e301 : S234h.2 86 (S.1 54 43) = S230.2 86 (S.1 54 43) := congrFun (hS234h.2 86 (by decide)) _
              have e302 : S230.2 86 (S.1 54 43) = S222.2 86 (S.1 54 43) := congrFun (hS230.2 86 (by decide)) _
              have e303 : S222.2 86 (S.1 54 43) = S127h.2 86 (S.1 54 43) := congrFun (hS222.2 86 (by decide)) _
              have e304 : S127h.2 86 (S.1 54 43) = S123.2 86 (S.1 54 43) := congrFun (hS127h.2 86 (by decide)) _
              have e305 : S123.2 86 (S.1 54 43) = S115.2 86 (S.1 54 43) := congrFun (hS123.2 86 (by decide)) _
              have e306 : S115.2 86 (S.1 54 43) = S107.2 86 (S.1 54 43) := congrFun (hS115.2 86 (by decide)) _
              have e307 : S107.2 86 (S.1 54 43) = S82.2 86 (S.1 54 43) := congrFun (hS107.2 86 (by decide)) _
              have e308 : S82.2 86 (S.1 54 43) = (((a1 + 1))) := by have q := hS82v (S.1 54 43); omega
              have e309 : S73.2 86 (S.1 54 43) = S63.2 86 (S.1 54 43) := congrFun (hS73.2 86 (by decide)) _
              have e310 : S63.2 86 (S.1 54 43) = S.2 86 (S.1 54 43) := congrFun (hS63.2 86 (by decide)) _
              have e311 : S234h.2 87 (S.1 54 43) = S230.2 87 (S.1 54 43) := congrFun (hS234h.2 87 (by decide)) _
              have e312 : S230.2 87 (S.1 54 43) = S222.2 87 (S.1 54 43) := congrFun (hS230.2 87 (by decide)) _
              have e313 : S222.2 87 (S.1 54 43) = S127h.2 87 (S.1 54 43) := congrFun (hS222.2 87 (by decide)) _
              have e314 : S127h.2 87 (S.1 54 43) = S123.2 87 (S.1 54 43) := congrFun (hS127h.2 87 (by decide)) _
              have e315 : S123.2 87 (S.1 54 43) = S115.2 87 (S.1 54 43) := congrFun (hS123.2 87 (by decide)) _
              have e316 : S115.2 87 (S.1 54 43) = S107.2 87 (S.1 54 43) := congrFun (hS115.2 87 (by decide)) _
              have e317 : S107.2 87 (S.1 54 43) = ((r86 - S82.2 86 (S.1 54 43))) := by have q := hS107v (S.1 54 43); omega
              have e318 : S82.2 87 (S.1 54 43) = S73.2 87 (S.1 54 43) := congrFun (hS82.2 87 (by decide)) _
              have e319 : S73.2 87 (S.1 54 43) = S63.2 87 (S.1 54 43) := congrFun (hS73.2 87 (by decide)) _
              have e320 : S63.2 87 (S.1 54 43) = S.2 87 (S.1 54 43) := congrFun (hS63.2 87 (by decide)) _
              have e321 : S234h.2 90 (S.1 54 43) = S230.2 90 (S.1 54 43) := congrFun (hS234h.2 90 (by decide)) _
              have e322 : S230.2 90 (S.1 54 43) = S222.2 90 (S.1 54 43) := congrFun (hS230.2 90 (by decide)) _
              have e323 : S222.2 90 (S.1 54 43) = (S127h.1 54 51) := by have q := hS222v (S.1 54 43); omega
              have e324 : S127h.2 90 (S.1 54 43) = S123.2 90 (S.1 54 43) := congrFun (hS127h.2 90 (by decide)) _
              have e325 : S123.2 90 (S.1 54 43) = S115.2 90 (S.1 54 43) := congrFun (hS123.2 90 (by decide)) _
              have e326 : S115.2 90 (S.1 54 43) = S107.2 90 (S.1 54 43) := congrFun (hS115.2 90 (by decide)) _
              have e327 : S107.2 90 (S.1 54 43) = S82.2 90 (S.1 54 43) := congrFun (hS107.2 90 (by decide)) _
              have e328 : S82.2 90 (S.1 54 43) = S73.2 90 (S.1 54 43) := congrFun (hS82.2 90 (by decide)) _
              have e329 : S73.2 90 (S.1 54 43) = S63.2 90 (S.1 54 43) := congrFun (hS73.2 90 (by decide)) _
              have e330 : S63.2 90 (S.1 54 43) = S.2 90 (S.1 54 43) := congrFun (hS63.2 90 (by decide)) _
              first | have e331 : S234h.2 91 (S.1 54 43) = S230.2 91 (S.1 54 43) := by have q := i234_5 (S.1 54 43); omega | have e331 := i234_5 (S.1 54 43)
              have e332 : S230.2 91 (S.1 54 43) = (0) := by have q := hS230v (S.1 54 43); omega
              have e333 : S222.2 91 (S.1 54 43) = S127h.2 91 (S.1 54 43) := congrFun (hS222.2 91 (by decide)) _
              have e334 : S127h.2 91 (S.1 54 43) = S123.2 91 (S.1 54 43) := congrFun (hS127h.2 91 (by decide)) _
              have e335 : S123.2 91 (S.1 54 43) = S115.2 91 (S.1 54 43) := congrFun (hS123.2 91 (by decide)) _
              have e336 : S115.2 91 (S.1 54 43) = S107.2 91 (S.1 54 43) := congrFun (hS115.2 91 (by decide)) _
              have e337 : S107.2 91 (S.1 54 43) = S82.2 91 (S.1 54 43) := congrFun (hS107.2 91 (by decide)) _
              have e338 : S82.2 91 (S.1 54 43) = S73.2 91 (S.1 54 43) := congrFun (hS82.2 91 (by decide)) _
              have e339 : S73.2 91 (S.1 54 43) = S63.2 91 (S.1 54 43) := congrFun (hS73.2 91 (by decide)) _
              have e340 : S63.2 91 (S.1 54 43) = S.2 91 (S.1 54 43) := congrFun (hS63.2 91 (by decide)) _
              exact tX11_beginTag_302 g1 g2 g3 p1 p2 p3 p4 p5 p6 p7 p8 p9 p10 p11 (Ch.wk (Ch.tr (Ch.tr (Ch.tr (Ch.tr (Ch.tr (Ch.tr (Ch.tr (Ch.tr (Ch.tr hS63 hS73) hS82) hS107) hS115) hS123) hS127h) hS222) hS230) hS234h) (by decide) (by decide)) (by omega) (by omega) i234_3 (PR_new p8 p10 (by omega) (by omega) (by omega) (by omega) (by omega) (by
                    intro x
                    have e341 : S234h.2 88 x = S230.2 88 x := congrFun (hS234h.2 88 (by decide)) _
                    have e342 : S230.2 88 x = S222.2 88 x := congrFun (hS230.2 88 (by decide)) _
                    have e343 : S222.2 88 x = S127h.2 88 x := congrFun (hS222.2 88 (by decide)) _
                    have e344 : S127h.2 88 x = S123.2 88 x := congrFun (hS127h.2 88 (by decide)) _
                    have e345 : S123.2 88 x = S115.2 88 x := congrFun (hS123.2 88 (by decide)) _
                    have e346 := hS115v x
                    have e347 : S107.2 88 x = S82.2 88 x := congrFun (hS107.2 88 (by decide)) _
                    have e348 : S82.2 88 x = S73.2 88 x := congrFun (hS82.2 88 (by decide)) _
                    have e349 : S73.2 88 x = S63.2 88 x := congrFun (hS73.2 88 (by decide)) _
                    have e350 : S63.2 88 x = S.2 88 x := congrFun (hS63.2 88 (by decide)) _
                    omega) (by
                    intro x
                    have e351 : S234h.2 86 x = S230.2 86 x := congrFun (hS234h.2 86 (by decide)) _
                    have e352 : S230.2 86 x = S222.2 86 x := congrFun (hS230.2 86 (by decide)) _
                    have e353 : S222.2 86 x = S127h.2 86 x := congrFun (hS222.2 86 (by decide)) _
                    have e354 : S127h.2 86 x = S123.2 86 x := congrFun (hS127h.2 86 (by decide)) _
                    have e355 : S123.2 86 x = S115.2 86 x := congrFun (hS123.2 86 (by decide)) _
                    have e356 : S115.2 86 x = S107.2 86 x := congrFun (hS115.2 86 (by decide)) _
                    have e357 : S107.2 86 x = S82.2 86 x := congrFun (hS107.2 86 (by decide)) _
                    have e358 := hS82v x
                    have e359 : S73.2 86 x = S63.2 86 x := congrFun (hS73.2 86 (by decide)) _
                    have e360 : S63.2 86 x = S.2 86 x := congrFun (hS63.2 86 (by decide)) _
                    omega) (by
                    intro x
                    have e361 : S234h.2 87 x = S230.2 87 x := congrFun (hS234h.2 87 (by decide)) _
                    have e362 : S230.2 87 x = S222.2 87 x := congrFun (hS230.2 87 (by decide)) _
                    have e363 : S222.2 87 x = S127h.2 87 x := congrFun (hS222.2 87 (by decide)) _
                    have e364 : S127h.2 87 x = S123.2 87 x := congrFun (hS127h.2 87 (by decide)) _
                    have e365 : S123.2 87 x = S115.2 87 x := congrFun (hS123.2 87 (by decide)) _
                    have e366 : S115.2 87 x = S107.2 87 x := congrFun (hS115.2 87 (by decide)) _
                    have e367 := hS107v x
                    have e368 : S82.2 87 x = S73.2 87 x := congrFun (hS82.2 87 (by decide)) _
                    have e369 : S73.2 87 x = S63.2 87 x := congrFun (hS73.2 87 (by decide)) _
                    have e370 : S63.2 87 x = S.2 87 x := congrFun (hS63.2 87 (by decide)) _
                    omega) (by
                    intro x
                    have e371 : S234h.2 90 x = S230.2 90 x := congrFun (hS234h.2 90 (by decide)) _
                    have e372 : S230.2 90 x = S222.2 90 x := congrFun (hS230.2 90 (by decide)) _
                    have e373 := hS222v x
                    have e374 : S127h.2 90 x = S123.2 90 x := congrFun (hS127h.2 90 (by decide)) _
                    have e375 : S123.2 90 x = S115.2 90 x := congrFun (hS123.2 90 (by decide)) _
                    have e376 : S115.2 90 x = S107.2 90 x := congrFun (hS115.2 90 (by decide)) _
                    have e377 : S107.2 90 x = S82.2 90 x := congrFun (hS107.2 90 (by decide)) _
                    have e378 : S82.2 90 x = S73.2 90 x := congrFun (hS82.2 90 (by decide)) _
                    have e379 : S73.2 90 x = S63.2 90 x := congrFun (hS73.2 90 (by decide)) _
                    have e380 : S63.2 90 x = S.2 90 x := congrFun (hS63.2 90 (by decide)) _
                    omega) (by
                    intro x
                    have e381 := i234_5 x
                    have e382 := hS230v x
                    have e383 : S222.2 91 x = S127h.2 91 x := congrFun (hS222.2 91 (by decide)) _
                    have e384 : S127h.2 91 x = S123.2 91 x := congrFun (hS127h.2 91 (by decide)) _
                    have e385 : S123.2 91 x = S115.2 91 x := congrFun (hS123.2 91 (by decide)) _
                    have e386 : S115.2 91 x = S107.2 91 x := congrFun (hS115.2 91 (by decide)) _
                    have e387 : S107.2 91 x = S82.2 91 x := congrFun (hS107.2 91 (by decide)) _
                    have e388 : S82.2 91 x = S73.2 91 x := congrFun (hS82.2 91 (by decide)) _
                    have e389 : S73.2 91 x = S63.2 91 x := congrFun (hS73.2 91 (by decide)) _
                    have e390 : S63.2 91 x = S.2 91 x := congrFun (hS63.2 91 (by decide)) _
                    omega)) (PO_new p8 p9 p10 (by omega) (by omega) (by
                    intro x
                    have e391 : S234h.2 88 x = S230.2 88 x := congrFun (hS234h.2 88 (by decide)) _
                    have e392 : S230.2 88 x = S222.2 88 x := congrFun (hS230.2 88 (by decide)) _
                    have e393 : S222.2 88 x = S127h.2 88 x := congrFun (hS222.2 88 (by decide)) _
                    have e394 : S127h.2 88 x = S123.2 88 x := congrFun (hS127h.2 88 (by decide)) _
                    have e395 : S123.2 88 x = S115.2 88 x := congrFun (hS123.2 88 (by decide)) _
                    have e396 := hS115v x
                    have e397 : S107.2 88 x = S82.2 88 x := congrFun (hS107.2 88 (by decide)) _
                    have e398 : S82.2 88 x = S73.2 88 x := congrFun (hS82.2 88 (by decide)) _
                    have e399 : S73.2 88 x = S63.2 88 x := congrFun (hS73.2 88 (by decide)) _
                    have e400 : S63.2 88 x = S.2 88 x := congrFun (hS63.2 88 (by decide)) _
                    omega)) i234_7 (by omega) (by omega) (by
                    intro x
                    have e401 : S234h.2 88 x = S230.2 88 x := congrFun (hS234h.2 88 (by decide)) _
                    have e402 : S230.2 88 x = S222.2 88 x := congrFun (hS230.2 88 (by decide)) _
                    have e403 : S222.2 88 x = S127h.2 88 x := congrFun (hS222.2 88 (by decide)) _
                    have e404 : S127h.2 88 x = S123.2 88 x := congrFun (hS127h.2 88 (by decide)) _
                    have e405 : S123.2 88 x = S115.2 88 x := congrFun (hS123.2 88 (by decide)) _
                    have e406 := hS115v x
                    have e407 : S107.2 88 x = S82.2 88 x := congrFun (hS107.2 88 (by decide)) _
                    have e408 : S82.2 88 x = S73.2 88 x := congrFun (hS82.2 88 (by decide)) _
                    have e409 : S73.2 88 x = S63.2 88 x := congrFun (hS73.2 88 (by decide)) _
                    have e410 : S63.2 88 x = S.2 88 x := congrFun (hS63.2 88 (by decide)) _
                    omega) hK
            · have hib : PB S234h (v234_4) := i234_7
              unfold PB at hib
              have hib := hib.resolve_left (by omega)
              refine ⟨by omega, ?_⟩
              have e411 : S234h.1 54 41 = S230.1 54 41 := hS234h.1 41 (by decide)
              have e412 : S230.1 54 41 = S222.1 54 41 := hS230.1 41 (by decide)
              have e413 : S222.1 54 41 = S127h.1 54 41 := hS222.1 41 (by decide)
              have e414 : S127h.1 54 41 = S123.1 54 41 := hS127h.1 41 (by decide)
              have e415 : S123.1 54 41 = S115.1 54 41 := hS123.1 41 (by decide)
              have e416 : S115.1 54 41 = S107.1 54 41 := hS115.1 41 (by decide)
              have e417 : S107.1 54 41 = S82.1 54 41 := hS107.1 41 (by decide)
              have e418 : S82.1 54 41 = S73.1 54 41 := hS82.1 41 (by decide)
              have e419 : S73.1 54 41 = S63.1 54 41 := hS73.1 41 (by decide)
              have e420 : S63.1 54 41 = S.1 54 41 := hS63.1 41 (by decide)
              have e421 : S234h.1 54 41 = S230.1 54 41 := hS234h.1 41 (by decide)
              have e422 : S230.1 54 41 = S222.1 54 41 := hS230.1 41 (by decide)
              have e423 : S222.1 54 41 = S127h.1 54 41 := hS222.1 41 (by decide)
              have e424 : S127h.1 54 41 = S123.1 54 41 := hS127h.1 41 (by decide)
              have e425 : S123.1 54 41 = S115.1 54 41 := hS123.1 41 (by decide)
              have e426 : S115.1 54 41 = S107.1 54 41 := hS115.1 41 (by decide)
              have e427 : S107.1 54 41 = S82.1 54 41 := hS107.1 41 (by decide)
              have e428 : S82.1 54 41 = S73.1 54 41 := hS82.1 41 (by decide)
              have e429 : S73.1 54 41 = S63.1 54 41 := hS73.1 41 (by decide)
              have e430 : S63.1 54 41 = S.1 54 41 := hS63.1 41 (by decide)
              have e431 : S234h.1 54 41 = S230.1 54 41 := hS234h.1 41 (by decide)
              have e432 : S230.1 54 41 = S222.1 54 41 := hS230.1 41 (by decide)
              have e433 : S222.1 54 41 = S127h.1 54 41 := hS222.1 41 (by decide)
              have e434 : S127h.1 54 41 = S123.1 54 41 := hS127h.1 41 (by decide)
              have e435 : S123.1 54 41 = S115.1 54 41 := hS123.1 41 (by decide)
              have e436 : S115.1 54 41 = S107.1 54 41 := hS115.1 41 (by decide)
              have e437 : S107.1 54 41 = S82.1 54 41 := hS107.1 41 (by decide)
              have e438 : S82.1 54 41 = S73.1 54 41 := hS82.1 41 (by decide)
              have e439 : S73.1 54 41 = S63.1 54 41 := hS73.1 41 (by decide)
              have e440 : S63.1 54 41 = S.1 54 41 := hS63.1 41 (by decide)
              refine tX11_blanksFrom (by omega) (by omega) (by omega) (fun r251 n251_0 n251_1 => ?_)
              refine ⟨by omega, ?_⟩
              have e441 : S234h.1 54 41 = S230.1 54 41 := hS234h.1 41 (by decide)
              have e442 : S230.1 54 41 = S222.1 54 41 := hS230.1 41 (by decide)
              have e443 : S222.1 54 41 = S127h.1 54 41 := hS222.1 41 (by decide)
              have e444 : S127h.1 54 41 = S123.1 54 41 := hS127h.1 41 (by decide)
              have e445 : S123.1 54 41 = S115.1 54 41 := hS123.1 41 (by decide)
              have e446 : S115.1 54 41 = S107.1 54 41 := hS115.1 41 (by decide)
              have e447 : S107.1 54 41 = S82.1 54 41 := hS107.1 41 (by decide)
              have e448 : S82.1 54 41 = S73.1 54 41 := hS82.1 41 (by decide)
              have e449 : S73.1 54 41 = S63.1 54 41 := hS73.1 41 (by decide)
              have e450 : S63.1 54 41 = S.1 54 41 := hS63.1 41 (by decide)
              have e451 : S234h.2 84 (r251) = S230.2 84 (r251) := congrFun (hS234h.2 84 (by decide)) _
              have e452 : S230.2 84 (r251) = S222.2 84 (r251) := congrFun (hS230.2 84 (by decide)) _
              have e453 : S222.2 84 (r251) = S127h.2 84 (r251) := congrFun (hS222.2 84 (by decide)) _
              have e454 : S127h.2 84 (r251) = S123.2 84 (r251) := congrFun (hS127h.2 84 (by decide)) _
              have e455 : S123.2 84 (r251) = S115.2 84 (r251) := congrFun (hS123.2 84 (by decide)) _
              have e456 : S115.2 84 (r251) = S107.2 84 (r251) := congrFun (hS115.2 84 (by decide)) _
              have e457 : S107.2 84 (r251) = S82.2 84 (r251) := congrFun (hS107.2 84 (by decide)) _
              have e458 : S82.2 84 (r251) = S73.2 84 (r251) := congrFun (hS82.2 84 (by decide)) _
              have e459 : S73.2 84 (r251) = S63.2 84 (r251) := congrFun (hS73.2 84 (by decide)) _
              have e460 : S63.2 84 (r251) = S.2 84 (r251) := congrFun (hS63.2 84 (by decide)) _
              have e461 : S234h.1 54 41 = S230.1 54 41 := hS234h.1 41 (by decide)
              have e462 : S230.1 54 41 = S222.1 54 41 := hS230.1 41 (by decide)
              have e463 : S222.1 54 41 = S127h.1 54 41 := hS222.1 41 (by decide)
              have e464 : S127h.1 54 41 = S123.1 54 41 := hS127h.1 41 (by decide)
              have e465 : S123.1 54 41 = S115.1 54 41 := hS123.1 41 (by decide)
              have e466 : S115.1 54 41 = S107.1 54 41 := hS115.1 41 (by decide)
              have e467 : S107.1 54 41 = S82.1 54 41 := hS107.1 41 (by decide)
              have e468 : S82.1 54 41 = S73.1 54 41 := hS82.1 41 (by decide)
              have e469 : S73.1 54 41 = S63.1 54 41 := hS73.1 41 (by decide)
              have e470 : S63.1 54 41 = S.1 54 41 := hS63.1 41 (by decide)
              refine tX11_docAt (by omega) (fun r259 n259_0 n259_1 n259_2 => ?_)
              refine ⟨fun h268 => ?_, fun h268 => ?_⟩
              · unfold wX11_beginTag_292
                unfold wX11_beginTag_299
                have e471 : S234h.2 90 (S.1 54 43) = S230.2 90 (S.1 54 43) := congrFun (hS234h.2 90 (by decide)) _
                have e472 : S230.2 90 (S.1 54 43) = S222.2 90 (S.1 54 43) := congrFun (hS230.2 90 (by decide)) _
                have e473 : S222.2 90 (S.1 54 43) = (S127h.1 54 51) := by have q := hS222v (S.1 54 43); omega
                have e474 : S127h.2 90 (S.1 54 43) = S123.2 90 (S.1 54 43) := congrFun (hS127h.2 90 (by decide)) _
                have e475 : S123.2 90 (S.1 54 43) = S115.2 90 (S.1 54 43) := congrFun (hS123.2 90 (by decide)) _
                have e476 : S115.2 90 (S.1 54 43) = S107.2 90 (S.1 54 43) := congrFun (hS115.2 90 (by decide)) _
                have e477 : S107.2 90 (S.1 54 43) = S82.2 90 (S.1 54 43) := congrFun (hS107.2 90 (by decide)) _
                have e478 : S82.2 90 (S.1 54 43) = S73.2 90 (S.1 54 43) := congrFun (hS82.2 90 (by decide)) _
                have e479 : S73.2 90 (S.1 54 43) = S63.2 90 (S.1 54 43) := congrFun (hS73.2 90 (by decide)) _
                have e480 : S63.2 90 (S.1 54 43) = S.2 90 (S.1 54 43) := congrFun (hS63.2 90 (by decide)) _
                first | have e481 : S234h.2 91 (S.1 54 43) = S230.2 91 (S.1 54 43) := by have q := i234_5 (S.1 54 43); omega | have e481 := i234_5 (S.1 54 43)
                have e482 : S230.2 91 (S.1 54 43) = (0) := by have q := hS230v (S.1 54 43); omega
                have e483 : S222.2 91 (S.1 54 43) = S127h.2 91 (S.1 54 43) := congrFun (hS222.2 91 (by decide)) _
                have e484 : S127h.2 91 (S.1 54 43) = S123.2 91 (S.1 54 43) := congrFun (hS127h.2 91 (by decide)) _
                have e485 : S123.2 91 (S.1 54 43) = S115.2 91 (S.1 54 43) := congrFun (hS123.2 91 (by decide)) _
                have e486 : S115.2 91 (S.1 54 43) = S107.2 91 (S.1 54 43) := congrFun (hS115.2 91 (by decide)) _
                have e487 : S107.2 91 (S.1 54 43) = S82.2 91 (S.1 54 43) := congrFun (hS107.2 91 (by decide)) _
                have e488 : S82.2 91 (S.1 54 43) = S73.2 91 (S.1 54 43) := congrFun (hS82.2 91 (by decide)) _
                have e489 : S73.2 91 (S.1 54 43) = S63.2 91 (S.1 54 43) := congrFun (hS73.2 91 (by decide)) _
                have e490 : S63.2 91 (S.1 54 43) = S.2 91 (S.1 54 43) := congrFun (hS63.2 91 (by decide)) _
                exact ⟨⟨(Ch.wk hS234h (by decide) (by decide)), rfl, by omega, by omega, by omega, i234_3, by omega, (by
                      intro x
                      have e491 := i234_5 x
                      have e492 := hS230v x
                      have e493 : S222.2 91 x = S127h.2 91 x := congrFun (hS222.2 91 (by decide)) _
                      have e494 : S127h.2 91 x = S123.2 91 x := congrFun (hS127h.2 91 (by decide)) _
                      have e495 : S123.2 91 x = S115.2 91 x := congrFun (hS123.2 91 (by decide)) _
                      have e496 : S115.2 91 x = S107.2 91 x := congrFun (hS115.2 91 (by decide)) _
                      have e497 : S107.2 91 x = S82.2 91 x := congrFun (hS107.2 91 (by decide)) _
                      have e498 : S82.2 91 x = S73.2 91 x := congrFun (hS82.2 91 (by decide)) _
                      have e499 : S73.2 91 x = S63.2 91 x := congrFun (hS73.2 91 (by decide)) _
                      have e500 : S63.2 91 x = S.2 91 x := congrFun (hS63.2 91 (by decide)) _
                      omega), by omega, (by
                      unfold PB
                      exact Or.inr ⟨by omega, by omega, by omega⟩)⟩, show (2 * (3012 - r251) + (((0)))).toNat < (2 * (3012 - v234_4) + v234_6).toNat by omega⟩
              · refine ⟨by omega, ?_⟩
                refine tX11_beginsName  (fun r273 n273_0 => ?_)
                refine ⟨by omega, ?_⟩
                refine ⟨fun h276 => ?_, fun h276 => ?_⟩
                · unfold wX11_beginTag_292
                  unfold wX11_beginTag_299
                  have e501 : S234h.2 90 (S.1 54 43) = S230.2 90 (S.1 54 43) := congrFun (hS234h.2 90 (by decide)) _
                  have e502 : S230.2 90 (S.1 54 43) = S222.2 90 (S.1 54 43) := congrFun (hS230.2 90 (by decide)) _
                  have e503 : S222.2 90 (S.1 54 43) = (S127h.1 54 51) := by have q := hS222v (S.1 54 43); omega
                  have e504 : S127h.2 90 (S.1 54 43) = S123.2 90 (S.1 54 43) := congrFun (hS127h.2 90 (by decide)) _
                  have e505 : S123.2 90 (S.1 54 43) = S115.2 90 (S.1 54 43) := congrFun (hS123.2 90 (by decide)) _
                  have e506 : S115.2 90 (S.1 54 43) = S107.2 90 (S.1 54 43) := congrFun (hS115.2 90 (by decide)) _
                  have e507 : S107.2 90 (S.1 54 43) = S82.2 90 (S.1 54 43) := congrFun (hS107.2 90 (by decide)) _
                  have e508 : S82.2 90 (S.1 54 43) = S73.2 90 (S.1 54 43) := congrFun (hS82.2 90 (by decide)) _
                  have e509 : S73.2 90 (S.1 54 43) = S63.2 90 (S.1 54 43) := congrFun (hS73.2 90 (by decide)) _
                  have e510 : S63.2 90 (S.1 54 43) = S.2 90 (S.1 54 43) := congrFun (hS63.2 90 (by decide)) _
                  first | have e511 : S234h.2 91 (S.1 54 43) = S230.2 91 (S.1 54 43) := by have q := i234_5 (S.1 54 43); omega | have e511 := i234_5 (S.1 54 43)
                  have e512 : S230.2 91 (S.1 54 43) = (0) := by have q := hS230v (S.1 54 43); omega
                  have e513 : S222.2 91 (S.1 54 43) = S127h.2 91 (S.1 54 43) := congrFun (hS222.2 91 (by decide)) _
                  have e514 : S127h.2 91 (S.1 54 43) = S123.2 91 (S.1 54 43) := congrFun (hS127h.2 91 (by decide)) _
                  have e515 : S123.2 91 (S.1 54 43) = S115.2 91 (S.1 54 43) := congrFun (hS123.2 91 (by decide)) _
                  have e516 : S115.2 91 (S.1 54 43) = S107.2 91 (S.1 54 43) := congrFun (hS115.2 91 (by decide)) _
                  have e517 : S107.2 91 (S.1 54 43) = S82.2 91 (S.1 54 43) := congrFun (hS107.2 91 (by decide)) _
                  have e518 : S82.2 91 (S.1 54 43) = S73.2 91 (S.1 54 43) := congrFun (hS82.2 91 (by decide)) _
                  have e519 : S73.2 91 (S.1 54 43) = S63.2 91 (S.1 54 43) := congrFun (hS73.2 91 (by decide)) _
                  have e520 : S63.2 91 (S.1 54 43) = S.2 91 (S.1 54 43) := congrFun (hS63.2 91 (by decide)) _
                  exact ⟨⟨(Ch.wk hS234h (by decide) (by decide)), rfl, by omega, by omega, by omega, i234_3, by omega, (by
                        intro x
                        have e521 := i234_5 x
                        have e522 := hS230v x
                        have e523 : S222.2 91 x = S127h.2 91 x := congrFun (hS222.2 91 (by decide)) _
                        have e524 : S127h.2 91 x = S123.2 91 x := congrFun (hS127h.2 91 (by decide)) _
                        have e525 : S123.2 91 x = S115.2 91 x := congrFun (hS123.2 91 (by decide)) _
                        have e526 : S115.2 91 x = S107.2 91 x := congrFun (hS115.2 91 (by decide)) _
                        have e527 : S107.2 91 x = S82.2 91 x := congrFun (hS107.2 91 (by decide)) _
                        have e528 : S82.2 91 x = S73.2 91 x := congrFun (hS82.2 91 (by decide)) _
                        have e529 : S73.2 91 x = S63.2 91 x := congrFun (hS73.2 91 (by decide)) _
                        have e530 : S63.2 91 x = S.2 91 x := congrFun (hS63.2 91 (by decide)) _
                        omega), by omega, (by
                        unfold PB
                        exact Or.inr ⟨by omega, by omega, by omega⟩)⟩, show (2 * (3012 - r251) + (((0)))).toNat < (2 * (3012 - v234_4) + v234_6).toNat by omega⟩
                · have hnb : NB (S234h.2 84 (r251)) := by
                    unfold NB
                    omega
                  refine ⟨by omega, ?_⟩
                  have e531 : S234h.1 54 41 = S230.1 54 41 := hS234h.1 41 (by decide)
                  have e532 : S230.1 54 41 = S222.1 54 41 := hS230.1 41 (by decide)
                  have e533 : S222.1 54 41 = S127h.1 54 41 := hS222.1 41 (by decide)
                  have e534 : S127h.1 54 41 = S123.1 54 41 := hS127h.1 41 (by decide)
                  have e535 : S123.1 54 41 = S115.1 54 41 := hS123.1 41 (by decide)
                  have e536 : S115.1 54 41 = S107.1 54 41 := hS115.1 41 (by decide)
                  have e537 : S107.1 54 41 = S82.1 54 41 := hS107.1 41 (by decide)
                  have e538 : S82.1 54 41 = S73.1 54 41 := hS82.1 41 (by decide)
                  have e539 : S73.1 54 41 = S63.1 54 41 := hS73.1 41 (by decide)
                  have e540 : S63.1 54 41 = S.1 54 41 := hS63.1 41 (by decide)
                  have e541 : S234h.1 54 41 = S230.1 54 41 := hS234h.1 41 (by decide)
                  have e542 : S230.1 54 41 = S222.1 54 41 := hS230.1 41 (by decide)
                  have e543 : S222.1 54 41 = S127h.1 54 41 := hS222.1 41 (by decide)
                  have e544 : S127h.1 54 41 = S123.1 54 41 := hS127h.1 41 (by decide)
                  have e545 : S123.1 54 41 = S115.1 54 41 := hS123.1 41 (by decide)
                  have e546 : S115.1 54 41 = S107.1 54 41 := hS115.1 41 (by decide)
                  have e547 : S107.1 54 41 = S82.1 54 41 := hS107.1 41 (by decide)
                  have e548 : S82.1 54 41 = S73.1 54 41 := hS82.1 41 (by decide)
                  have e549 : S73.1 54 41 = S63.1 54 41 := hS73.1 41 (by decide)
                  have e550 : S63.1 54 41 = S.1 54 41 := hS63.1 41 (by decide)
                  have e551 : S234h.2 84 (r251) = S230.2 84 (r251) := congrFun (hS234h.2 84 (by decide)) _
                  have e552 : S230.2 84 (r251) = S222.2 84 (r251) := congrFun (hS230.2 84 (by decide)) _
                  have e553 : S222.2 84 (r251) = S127h.2 84 (r251) := congrFun (hS222.2 84 (by decide)) _
                  have e554 : S127h.2 84 (r251) = S123.2 84 (r251) := congrFun (hS127h.2 84 (by decide)) _
                  have e555 : S123.2 84 (r251) = S115.2 84 (r251) := congrFun (hS123.2 84 (by decide)) _
                  have e556 : S115.2 84 (r251) = S107.2 84 (r251) := congrFun (hS115.2 84 (by decide)) _
                  have e557 : S107.2 84 (r251) = S82.2 84 (r251) := congrFun (hS107.2 84 (by decide)) _
                  have e558 : S82.2 84 (r251) = S73.2 84 (r251) := congrFun (hS82.2 84 (by decide)) _
                  have e559 : S73.2 84 (r251) = S63.2 84 (r251) := congrFun (hS73.2 84 (by decide)) _
                  have e560 : S63.2 84 (r251) = S.2 84 (r251) := congrFun (hS63.2 84 (by decide)) _
                  have e561 : S234h.2 90 (S.1 54 43) = S230.2 90 (S.1 54 43) := congrFun (hS234h.2 90 (by decide)) _
                  have e562 : S230.2 90 (S.1 54 43) = S222.2 90 (S.1 54 43) := congrFun (hS230.2 90 (by decide)) _
                  have e563 : S222.2 90 (S.1 54 43) = (S127h.1 54 51) := by have q := hS222v (S.1 54 43); omega
                  have e564 : S127h.2 90 (S.1 54 43) = S123.2 90 (S.1 54 43) := congrFun (hS127h.2 90 (by decide)) _
                  have e565 : S123.2 90 (S.1 54 43) = S115.2 90 (S.1 54 43) := congrFun (hS123.2 90 (by decide)) _
                  have e566 : S115.2 90 (S.1 54 43) = S107.2 90 (S.1 54 43) := congrFun (hS115.2 90 (by decide)) _
                  have e567 : S107.2 90 (S.1 54 43) = S82.2 90 (S.1 54 43) := congrFun (hS107.2 90 (by decide)) _
                  have e568 : S82.2 90 (S.1 54 43) = S73.2 90 (S.1 54 43) := congrFun (hS82.2 90 (by decide)) _
                  have e569 : S73.2 90 (S.1 54 43) = S63.2 90 (S.1 54 43) := congrFun (hS73.2 90 (by decide)) _
                  have e570 : S63.2 90 (S.1 54 43) = S.2 90 (S.1 54 43) := congrFun (hS63.2 90 (by decide)) _
                  first | have e571 : S234h.2 91 (S.1 54 43) = S230.2 91 (S.1 54 43) := by have q := i234_5 (S.1 54 43); omega | have e571 := i234_5 (S.1 54 43)
                  have e572 : S230.2 91 (S.1 54 43) = (0) := by have q := hS230v (S.1 54 43); omega
                  have e573 : S222.2 91 (S.1 54 43) = S127h.2 91 (S.1 54 43) := congrFun (hS222.2 91 (by decide)) _
                  have e574 : S127h.2 91 (S.1 54 43) = S123.2 91 (S.1 54 43) := congrFun (hS127h.2 91 (by decide)) _
                  have e575 : S123.2 91 (S.1 54 43) = S115.2 91 (S.1 54 43) := congrFun (hS123.2 91 (by decide)) _
                  have e576 : S115.2 91 (S.1 54 43) = S107.2 91 (S.1 54 43) := congrFun (hS115.2 91 (by decide)) _
                  have e577 : S107.2 91 (S.1 54 43) = S82.2 91 (S.1 54 43) := congrFun (hS107.2 91 (by decide)) _
                  have e578 : S82.2 91 (S.1 54 43) = S73.2 91 (S.1 54 43) := congrFun (hS82.2 91 (by decide)) _
                  have e579 : S73.2 91 (S.1 54 43) = S63.2 91 (S.1 54 43) := congrFun (hS73.2 91 (by decide)) _
                  have e580 : S63.2 91 (S.1 54 43) = S.2 91 (S.1 54 43) := congrFun (hS63.2 91 (by decide)) _
                  have e581 : S234h.2 90 (S.1 54 43) = S230.2 90 (S.1 54 43) := congrFun (hS234h.2 90 (by decide)) _
                  have e582 : S230.2 90 (S.1 54 43) = S222.2 90 (S.1 54 43) := congrFun (hS230.2 90 (by decide)) _
                  have e583 : S222.2 90 (S.1 54 43) = (S127h.1 54 51) := by have q := hS222v (S.1 54 43); omega
                  have e584 : S127h.2 90 (S.1 54 43) = S123.2 90 (S.1 54 43) := congrFun (hS127h.2 90 (by decide)) _
                  have e585 : S123.2 90 (S.1 54 43) = S115.2 90 (S.1 54 43) := congrFun (hS123.2 90 (by decide)) _
                  have e586 : S115.2 90 (S.1 54 43) = S107.2 90 (S.1 54 43) := congrFun (hS115.2 90 (by decide)) _
                  have e587 : S107.2 90 (S.1 54 43) = S82.2 90 (S.1 54 43) := congrFun (hS107.2 90 (by decide)) _
                  have e588 : S82.2 90 (S.1 54 43) = S73.2 90 (S.1 54 43) := congrFun (hS82.2 90 (by decide)) _
                  have e589 : S73.2 90 (S.1 54 43) = S63.2 90 (S.1 54 43) := congrFun (hS73.2 90 (by decide)) _
                  have e590 : S63.2 90 (S.1 54 43) = S.2 90 (S.1 54 43) := congrFun (hS63.2 90 (by decide)) _
                  refine tX11_attribute (by omega) (by omega) (by omega) (hnb) (by omega) (by omega) (i234_3) (by omega) (by omega) (by omega) (fun r284 S284 hS284 n284_0 n284_1 n284_2 n284_3 n284_4 n284_5 n284_6 => ?_)
                  unfold wX11_beginTag_299
                  have e591 : S284.2 90 (S.1 54 43) = S234h.2 90 (S.1 54 43) := congrFun (hS284.2 90 (by decide)) _
                  have e592 : S234h.2 90 (S.1 54 43) = S230.2 90 (S.1 54 43) := congrFun (hS234h.2 90 (by decide)) _
                  have e593 : S230.2 90 (S.1 54 43) = S222.2 90 (S.1 54 43) := congrFun (hS230.2 90 (by decide)) _
                  have e594 : S222.2 90 (S.1 54 43) = (S127h.1 54 51) := by have q := hS222v (S.1 54 43); omega
                  have e595 : S127h.2 90 (S.1 54 43) = S123.2 90 (S.1 54 43) := congrFun (hS127h.2 90 (by decide)) _
                  have e596 : S123.2 90 (S.1 54 43) = S115.2 90 (S.1 54 43) := congrFun (hS123.2 90 (by decide)) _
                  have e597 : S115.2 90 (S.1 54 43) = S107.2 90 (S.1 54 43) := congrFun (hS115.2 90 (by decide)) _
                  have e598 : S107.2 90 (S.1 54 43) = S82.2 90 (S.1 54 43) := congrFun (hS107.2 90 (by decide)) _
                  have e599 : S82.2 90 (S.1 54 43) = S73.2 90 (S.1 54 43) := congrFun (hS82.2 90 (by decide)) _
                  have e600 : S73.2 90 (S.1 54 43) = S63.2 90 (S.1 54 43) := congrFun (hS73.2 90 (by decide)) _
                  have e601 : S63.2 90 (S.1 54 43) = S.2 90 (S.1 54 43) := congrFun (hS63.2 90 (by decide)) _
                  first | have e602 : S284.2 91 (S.1 54 43) = S234h.2 91 (S.1 54 43) := by have q := n284_4 (S.1 54 43); omega | have e602 := n284_4 (S.1 54 43)
                  first | have e603 : S234h.2 91 (S.1 54 43) = S230.2 91 (S.1 54 43) := by have q := i234_5 (S.1 54 43); omega | have e603 := i234_5 (S.1 54 43)
                  have e604 : S230.2 91 (S.1 54 43) = (0) := by have q := hS230v (S.1 54 43); omega
                  have e605 : S222.2 91 (S.1 54 43) = S127h.2 91 (S.1 54 43) := congrFun (hS222.2 91 (by decide)) _
                  have e606 : S127h.2 91 (S.1 54 43) = S123.2 91 (S.1 54 43) := congrFun (hS127h.2 91 (by decide)) _
                  have e607 : S123.2 91 (S.1 54 43) = S115.2 91 (S.1 54 43) := congrFun (hS123.2 91 (by decide)) _
                  have e608 : S115.2 91 (S.1 54 43) = S107.2 91 (S.1 54 43) := congrFun (hS115.2 91 (by decide)) _
                  have e609 : S107.2 91 (S.1 54 43) = S82.2 91 (S.1 54 43) := congrFun (hS107.2 91 (by decide)) _
                  have e610 : S82.2 91 (S.1 54 43) = S73.2 91 (S.1 54 43) := congrFun (hS82.2 91 (by decide)) _
                  have e611 : S73.2 91 (S.1 54 43) = S63.2 91 (S.1 54 43) := congrFun (hS73.2 91 (by decide)) _
                  have e612 : S63.2 91 (S.1 54 43) = S.2 91 (S.1 54 43) := congrFun (hS63.2 91 (by decide)) _
                  exact ⟨⟨(Ch.wk (Ch.tr hS234h hS284) (by decide) (by decide)), rfl, by omega, by omega, by omega, n284_2, by omega, (by
                        intro x
                        have e613 := n284_4 x
                        have e614 := i234_5 x
                        have e615 := hS230v x
                        have e616 : S222.2 91 x = S127h.2 91 x := congrFun (hS222.2 91 (by decide)) _
                        have e617 : S127h.2 91 x = S123.2 91 x := congrFun (hS127h.2 91 (by decide)) _
                        have e618 : S123.2 91 x = S115.2 91 x := congrFun (hS123.2 91 (by decide)) _
                        have e619 : S115.2 91 x = S107.2 91 x := congrFun (hS115.2 91 (by decide)) _
                        have e620 : S107.2 91 x = S82.2 91 x := congrFun (hS107.2 91 (by decide)) _
                        have e621 : S82.2 91 x = S73.2 91 x := congrFun (hS82.2 91 (by decide)) _
                        have e622 : S73.2 91 x = S63.2 91 x := congrFun (hS73.2 91 (by decide)) _
                        have e623 : S63.2 91 x = S.2 91 x := congrFun (hS63.2 91 (by decide)) _
                        omega), by omega, n284_6⟩, show (2 * (3012 - r284) + v234_6).toNat < (2 * (3012 - v234_4) + v234_6).toNat by omega⟩
        · have hpr := p8.at (x := v127_6) (by omega) (by omega)
          refine ⟨by omega, by omega, ?_⟩
          intro q624
          have e625 : S127h.2 88 (v127_6) = S123.2 88 (v127_6) := congrFun (hS127h.2 88 (by decide)) _
          have e626 : S123.2 88 (v127_6) = S115.2 88 (v127_6) := congrFun (hS123.2 88 (by decide)) _
          first | have e627 : S115.2 88 (v127_6) = S107.2 88 (v127_6) := by have q := hS115v (v127_6); omega | have e627 : S115.2 88 (v127_6) = (a2) := by have q := hS115v (v127_6); omega | have e627 := hS115v (v127_6)
          have e628 : S107.2 88 (v127_6) = S82.2 88 (v127_6) := congrFun (hS107.2 88 (by decide)) _
          have e629 : S82.2 88 (v127_6) = S73.2 88 (v127_6) := congrFun (hS82.2 88 (by decide)) _
          have e630 : S73.2 88 (v127_6) = S63.2 88 (v127_6) := congrFun (hS73.2 88 (by decide)) _
          have e631 : S63.2 88 (v127_6) = S.2 88 (v127_6) := congrFun (hS63.2 88 (by decide)) _
          refine ⟨by omega, ?_⟩
          refine ⟨fun h148 => ?_, fun h148 => ?_⟩
          · unfold wX11_beginTag_198
            refine ⟨by omega, by omega, ?_⟩
            intro q632
            unfold wX11_beginTag_205
            refine ⟨by omega, by omega, ?_⟩
            refine ⟨by omega, ?_⟩
            intro S205 hS205e
            have hS205 : Ch [] [89] S127h S205 := Ch_A hS205e
            have hS205v : ∀ x, (x = (S.1 54 43) ∧ S205.2 89 x = S127h.2 89 (S.1 54 43)) ∨ (¬ x = (S.1 54 43) ∧ S205.2 89 x = S127h.2 89 x) := pA_at hS205e
            have e633 : S205.2 89 (S.1 54 43) = (S127h.2 89 (S.1 54 43)) := by have q := hS205v (S.1 54 43); omega
            exact ⟨⟨(Ch.wk (Ch.tr hS127h hS205) (by decide) (by decide)), rfl, rfl, rfl, by omega, by omega, by omega⟩, show (200 - ((v127_6 + 1))).toNat < (200 - v127_6).toNat by omega⟩
          · refine ⟨by omega, by omega, ?_⟩
            intro q634
            have e635 : S127h.2 86 (v127_6) = S123.2 86 (v127_6) := congrFun (hS127h.2 86 (by decide)) _
            have e636 : S123.2 86 (v127_6) = S115.2 86 (v127_6) := congrFun (hS123.2 86 (by decide)) _
            have e637 : S115.2 86 (v127_6) = S107.2 86 (v127_6) := congrFun (hS115.2 86 (by decide)) _
            have e638 : S107.2 86 (v127_6) = S82.2 86 (v127_6) := congrFun (hS107.2 86 (by decide)) _
            first | have e639 : S82.2 86 (v127_6) = S73.2 86 (v127_6) := by have q := hS82v (v127_6); omega | have e639 : S82.2 86 (v127_6) = (((a1 + 1))) := by have q := hS82v (v127_6); omega | have e639 := hS82v (v127_6)
            have e640 : S73.2 86 (v127_6) = S63.2 86 (v127_6) := congrFun (hS73.2 86 (by decide)) _
            have e641 : S63.2 86 (v127_6) = S.2 86 (v127_6) := congrFun (hS63.2 86 (by decide)) _
            refine ⟨by omega, by omega, ?_⟩
            intro q642
            have e643 : S127h.2 87 (v127_6) = S123.2 87 (v127_6) := congrFun (hS127h.2 87 (by decide)) _
            have e644 : S123.2 87 (v127_6) = S115.2 87 (v127_6) := congrFun (hS123.2 87 (by decide)) _
            have e645 : S115.2 87 (v127_6) = S107.2 87 (v127_6) := congrFun (hS115.2 87 (by decide)) _
            first | have e646 : S107.2 87 (v127_6) = S82.2 87 (v127_6) := by have q := hS107v (v127_6); omega | have e646 : S107.2 87 (v127_6) = ((r86 - S82.2 86 (S.1 54 43))) := by have q := hS107v (v127_6); omega | have e646 := hS107v (v127_6)
            have e647 : S82.2 87 (v127_6) = S73.2 87 (v127_6) := congrFun (hS82.2 87 (by decide)) _
            have e648 : S73.2 87 (v127_6) = S63.2 87 (v127_6) := congrFun (hS73.2 87 (by decide)) _
            have e649 : S63.2 87 (v127_6) = S.2 87 (v127_6) := congrFun (hS63.2 87 (by decide)) _
            refine ⟨by omega, by omega, ?_⟩
            intro q650
            have e651 : S127h.2 86 (S.1 54 43) = S123.2 86 (S.1 54 43) := congrFun (hS127h.2 86 (by decide)) _
            have e652 : S123.2 86 (S.1 54 43) = S115.2 86 (S.1 54 43) := congrFun (hS123.2 86 (by decide)) _
            have e653 : S115.2 86 (S.1 54 43) = S107.2 86 (S.1 54 43) := congrFun (hS115.2 86 (by decide)) _
            have e654 : S107.2 86 (S.1 54 43) = S82.2 86 (S.1 54 43) := congrFun (hS107.2 86 (by decide)) _
            have e655 : S82.2 86 (S.1 54 43) = (((a1 + 1))) := by have q := hS82v (S.1 54 43); omega
            have e656 : S73.2 86 (S.1 54 43) = S63.2 86 (S.1 54 43) := congrFun (hS73.2 86 (by decide)) _
            have e657 : S63.2 86 (S.1 54 43) = S.2 86 (S.1 54 43) := congrFun (hS63.2 86 (by decide)) _
            refine ⟨by omega, by omega, ?_⟩
            intro q658
            have e659 : S127h.2 87 (S.1 54 43) = S123.2 87 (S.1 54 43) := congrFun (hS127h.2 87 (by decide)) _
            have e660 : S123.2 87 (S.1 54 43) = S115.2 87 (S.1 54 43) := congrFun (hS123.2 87 (by decide)) _
            have e661 : S115.2 87 (S.1 54 43) = S107.2 87 (S.1 54 43) := congrFun (hS115.2 87 (by decide)) _
            have e662 : S107.2 87 (S.1 54 43) = ((r86 - S82.2 86 (S.1 54 43))) := by have q := hS107v (S.1 54 43); omega
            have e663 : S82.2 87 (S.1 54 43) = S73.2 87 (S.1 54 43) := congrFun (hS82.2 87 (by decide)) _
            have e664 : S73.2 87 (S.1 54 43) = S63.2 87 (S.1 54 43) := congrFun (hS73.2 87 (by decide)) _
            have e665 : S63.2 87 (S.1 54 43) = S.2 87 (S.1 54 43) := congrFun (hS63.2 87 (by decide)) _
            refine tX11_sameNames (by omega) (by omega) (by omega) (by omega) (by omega) (fun r180 n180_0 => ?_)
            refine ⟨by omega, ?_⟩
            refine ⟨fun h183 => ?_, fun h183 => ?_⟩
            · unfold wX11_beginTag_198
              refine ⟨by omega, by omega, ?_⟩
              intro q666
              unfold wX11_beginTag_205
              refine ⟨by omega, by omega, ?_⟩
              refine ⟨by omega, ?_⟩
              intro S205 hS205e
              have hS205 : Ch [] [89] S127h S205 := Ch_A hS205e
              have hS205v : ∀ x, (x = (S.1 54 43) ∧ S205.2 89 x = S127h.2 89 (S.1 54 43)) ∨ (¬ x = (S.1 54 43) ∧ S205.2 89 x = S127h.2 89 x) := pA_at hS205e
              have e667 : S205.2 89 (S.1 54 43) = (S127h.2 89 (S.1 54 43)) := by have q := hS205v (S.1 54 43); omega
              exact ⟨⟨(Ch.wk (Ch.tr hS127h hS205) (by decide) (by decide)), rfl, rfl, rfl, by omega, by omega, by omega⟩, show (200 - ((v127_6 + 1))).toNat < (200 - v127_6).toNat by omega⟩
            · refine ⟨by omega, by omega, ?_⟩
              intro q668
              unfold wX11_beginTag_205
              refine ⟨by omega, by omega, ?_⟩
              refine ⟨by omega, ?_⟩
              intro S205 hS205e
              have hS205 : Ch [] [89] S127h S205 := Ch_A hS205e
              have hS205v : ∀ x, (x = (S.1 54 43) ∧ S205.2 89 x = (S127h.2 89 (S.1 54 43) + 1)) ∨ (¬ x = (S.1 54 43) ∧ S205.2 89 x = S127h.2 89 x) := pA_at hS205e
              have e669 : S205.2 89 (S.1 54 43) = ((S127h.2 89 (S.1 54 43) + 1)) := by have q := hS205v (S.1 54 43); omega
              exact ⟨⟨(Ch.wk (Ch.tr hS127h hS205) (by decide) (by decide)), rfl, rfl, rfl, by omega, by omega, by omega⟩, show (200 - ((v127_6 + 1))).toNat < (200 - v127_6).toNat by omega⟩
      · unfold wX11_beginTag_42
        refine ⟨by omega, ?_⟩
        refine tX11_fail (by omega) (fun r44 S44 hS44 n44_0 => ?_)
        have e670 : S44.1 54 43 = S.1 54 43 := hS44.1 43 (by decide)
        have e671 : S44.2 88 ((S.1 54 43)) = S.2 88 ((S.1 54 43)) := congrFun (hS44.2 88 (by decide)) _
        have e672 : S44.1 54 60 = S.1 54 60 := hS44.1 60 (by decide)
        exact hK (((a1 + 1))) S44 (Ch.wk hS44 (by decide) (by decide)) (by omega) (by omega) (PA.mv2 p7 ((hS44).1 51 (by decide)) ((hS44).1 56 (by decide)) ((hS44).2 92 (by decide)) ((hS44).2 93 (by decide)) ((hS44).2 94 (by decide)) ((hS44).2 95 (by decide))) (PR.mv p8 ((hS44).1 43 (by decide)) ((hS44).1 51 (by decide)) ((hS44).2 86 (by decide)) ((hS44).2 87 (by decide)) ((hS44).2 88 (by decide)) ((hS44).2 90 (by decide)) ((hS44).2 91 (by decide))) (PO.mv p9 ((hS44).1 43 (by decide)) ((hS44).2 88 (by decide))) (Or.inr ⟨by omega, by omega, by omega⟩) (by
              intro x
              have e673 : S44.2 88 x = S.2 88 x := congrFun (hS44.2 88 (by decide)) _
              omega) (by
              unfold PB
              have e674 : S44.1 54 41 = S.1 54 41 := hS44.1 41 (by decide)
              have e675 : S44.1 54 56 = S.1 54 56 := hS44.1 56 (by decide)
              have e676 : S44.1 54 51 = S.1 54 51 := hS44.1 51 (by decide)
              first | exact Or.inl (by omega) | exact Or.inr ⟨by omega, by omega, by omega⟩)
  · refine tX11_fail (by omega) (fun r20 S20 hS20 n20_0 => ?_)
    have e677 : S20.1 54 43 = S.1 54 43 := hS20.1 43 (by decide)
    have e678 : S20.2 88 ((S.1 54 43)) = S.2 88 ((S.1 54 43)) := congrFun (hS20.2 88 (by decide)) _
    have e679 : S20.1 54 60 = S.1 54 60 := hS20.1 60 (by decide)
    exact hK (((a1 + 1))) S20 (Ch.wk hS20 (by decide) (by decide)) (by omega) (by omega) (PA.mv2 p7 ((hS20).1 51 (by decide)) ((hS20).1 56 (by decide)) ((hS20).2 92 (by decide)) ((hS20).2 93 (by decide)) ((hS20).2 94 (by decide)) ((hS20).2 95 (by decide))) (PR.mv p8 ((hS20).1 43 (by decide)) ((hS20).1 51 (by decide)) ((hS20).2 86 (by decide)) ((hS20).2 87 (by decide)) ((hS20).2 88 (by decide)) ((hS20).2 90 (by decide)) ((hS20).2 91 (by decide))) (PO.mv p9 ((hS20).1 43 (by decide)) ((hS20).2 88 (by decide))) (Or.inr ⟨by omega, by omega, by omega⟩) (by
          intro x
          have e680 : S20.2 88 x = S.2 88 x := congrFun (hS20.2 88 (by decide)) _
          omega) (by
          unfold PB
          have e681 : S20.1 54 41 = S.1 54 41 := hS20.1 41 (by decide)
          have e682 : S20.1 54 56 = S.1 54 56 := hS20.1 56 (by decide)
          have e683 : S20.1 54 51 = S.1 54 51 := hS20.1 51 (by decide)
          first | exact Or.inl (by omega) | exact Or.inr ⟨by omega, by omega, by omega⟩)

