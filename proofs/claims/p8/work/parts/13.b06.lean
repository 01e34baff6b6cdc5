set_option maxRecDepth 100000 in
set_option maxHeartbeats 4000000 in
theorem tX11_goesOn {a1 : Int} {S : St} {K : Int → St → Prop} (p1 : 1 ≤ (S.1 54 32)) (p2 : (S.1 54 39) ≤ 3000) (p3 : (S.1 54 30) ≤ (S.1 54 25)) (p4 : (S.1 54 32) ≤ (S.1 54 19)) (p5 : PW S) (p6 : BW S) (p7 : OK0 S) (p8 : OL0 S) (p9 : NMS S) (p10 : OWI S) (p11 : EWI S) (p12 : (S.2 67) 0 ≤ 30) (p13 : iv 1 20 (S.1 54 19)) (hK : ∀ (r : Int) (S' : St), Ch [25, 30, 32, 39] [72, 73, 74, 75, 76, 77, 78, 79, 80, 81, 82, 83] S S' → (iv 0 1 r) → ((S'.1 54 30) ≤ (S'.1 54 25)) → ((S'.1 54 32) ≤ (S.1 54 19)) → (PW S') → (BW S') → (OWI S') → (EWI S') → ((S'.1 54 39) = 3001 ∨ (S.1 54 39) < (S'.1 54 39) ∨ r = 0 ∨ ((S'.1 54 39) = (S.1 54 39) ∧ (S'.1 54 32) = (S.1 54 32) ∧ (S'.2 80) ((S.1 54 32) - 1) = (S.2 80) ((S.1 54 32) - 1) + 1 ∧ 0 ≤ (S.2 80) ((S.1 54 32) - 1) ∧ (S.2 80) ((S.1 54 32) - 1) ≤ 3)) → ((S.1 54 39) ≤ (S'.1 54 39)) → K r S') : wX11_goesOn a1 S K := by
  unfold wX11_goesOn
  intro g1
  intro q1
  intro x6 hx6
  subst hx6
  refine ⟨by omega, by omega, ?_⟩
  intro q2
  intro x13 hx13
  subst hx13
  refine ⟨by omega, by omega, ?_⟩
  intro q3
  intro x20 hx20
  subst hx20
  refine ⟨by omega, by omega, ?_⟩
  intro q4
  intro x28 hx28
  subst hx28
  have hw6 := owi_of p10 (x := (S.1 54 32 - 1)) (by omega) (by omega)
  unfold owi at hw6
  have hel := EWI_lt p11 p2 (by omega) (by omega)
  refine ⟨by omega, by omega, ?_⟩
  intro q5
  refine ⟨fun h39 => ?_, fun h39 => ?_⟩
  · have hk8 := p7 (S.2 77 (S.1 54 32 - 1)) (S.2 80 (S.1 54 32 - 1))
    unfold tyV at hk8
    have hnm := p9 (S.2 77 (S.1 54 32 - 1)) (S.2 80 (S.1 54 32 - 1))
    intro x71 hx71
    subst hx71
    intro x78 hx78
    subst hx78
    refine ⟨by omega, by omega, ?_⟩
    intro q6
    intro x91 hx91
    subst hx91
    refine ⟨by omega, by omega, ?_⟩
    intro q7
    refine ⟨fun h101 => ?_, fun h101 => ?_⟩
    · refine ⟨by omega, by omega, ?_⟩
      intro q8
      refine ⟨by omega, by omega, ?_⟩
      refine ⟨by omega, ?_⟩
      intro S124 hS124e
      have hS124 : Ch [] [80] S S124 := Ch_A hS124e
      have hS124v : ∀ x, S124.2 80 x = if x = ((S.1 54 32 - 1)) then (S.2 80 (((S.1 54 32 - 1))) + 1) else S.2 80 x := pA_at hS124e
      refine ⟨by omega, by omega, ?_⟩
      intro q9
      have e10 : S124.2 59 ((((4 * (S.2 68 ((S.2 77 (((S.1 54 32 - 1))))))) + (S.2 80 (((S.1 54 32 - 1))))))) = S.2 59 ((((4 * (S.2 68 ((S.2 77 (((S.1 54 32 - 1))))))) + (S.2 80 (((S.1 54 32 - 1))))))) := congrFun (hS124.2 59 (by decide)) _
      refine ⟨fun h133 => ?_, fun h133 => ?_⟩
      · refine ⟨by omega, by omega, ?_⟩
        intro q11
        have e12 : S124.2 60 ((((4 * (S.2 68 ((S.2 77 (((S.1 54 32 - 1))))))) + (S.2 80 (((S.1 54 32 - 1))))))) = S.2 60 ((((4 * (S.2 68 ((S.2 77 (((S.1 54 32 - 1))))))) + (S.2 80 (((S.1 54 32 - 1))))))) := congrFun (hS124.2 60 (by decide)) _
        refine ⟨fun h175 => ?_, fun h175 => ?_⟩
        · have e22 : S124.1 54 30 = S.1 54 30 := hS124.1 30 (by decide)
          have e23 : S124.1 54 25 = S.1 54 25 := hS124.1 25 (by decide)
          have e24 : S124.1 54 32 = S.1 54 32 := hS124.1 32 (by decide)
          have e25 : S124.1 54 39 = S.1 54 39 := hS124.1 39 (by decide)
          have e26 : S124.1 54 32 = S.1 54 32 := hS124.1 32 (by decide)
          have e27 := hS124v ((S.1 54 32) - 1)
          have e28 : S124.1 54 39 = S.1 54 39 := hS124.1 39 (by decide)
          have e29 : S124.2 77 (S.1 54 32 - 1) = S.2 77 (S.1 54 32 - 1) := congrFun (hS124.2 77 (by decide)) _
          have e30 : S124.2 78 (S.1 54 32 - 1) = S.2 78 (S.1 54 32 - 1) := congrFun (hS124.2 78 (by decide)) _
          have e31 : S124.2 79 (S.1 54 32 - 1) = S.2 79 (S.1 54 32 - 1) := congrFun (hS124.2 79 (by decide)) _
          have e32 := hS124v (S.1 54 32 - 1)
          have e33 : S124.2 81 (S.1 54 32 - 1) = S.2 81 (S.1 54 32 - 1) := congrFun (hS124.2 81 (by decide)) _
          have e34 : S124.2 82 (S.1 54 32 - 1) = S.2 82 (S.1 54 32 - 1) := congrFun (hS124.2 82 (by decide)) _
          have fb := fl_z (S := S124) (o := (S.1 54 32 - 1)) (by omega)
          have fa := fl_01 (S := S) (x := (S.1 54 32 - 1))
          have fa0 := fl_z (S := S) (o := (S.1 54 32 - 1)) (by omega)
          exact hK (1) S124 (Ch.wk hS124 (by decide) (by decide)) (by omega) (by omega) (by omega) (PW.mv p5 ((hS124).1 25 (by decide)) ((hS124).2 72 (by decide))) (BW.mv2 p6 ((hS124).1 25 (by decide)) ((hS124).2 75 (by decide))) (OWI_step (o := (S.1 54 32 - 1)) (Ch.wk hS124 (by decide) (by decide)) (by omega) (by omega) (by omega) p10 (by
                intro x
                have e13 : S124.2 77 x = S.2 77 x := congrFun (hS124.2 77 (by decide)) _
                omega) (by
                intro x
                have e14 : S124.2 78 x = S.2 78 x := congrFun (hS124.2 78 (by decide)) _
                omega) (by
                intro x
                have e15 : S124.2 79 x = S.2 79 x := congrFun (hS124.2 79 (by decide)) _
                omega) (by
                intro x
                have e16 := hS124v x
                omega) (by
                intro x
                have e17 : S124.2 81 x = S.2 81 x := congrFun (hS124.2 81 (by decide)) _
                omega) (by
                intro x
                have e18 : S124.2 82 x = S.2 82 x := congrFun (hS124.2 82 (by decide)) _
                omega) (Or.inr (owi_top (Ch.wk hS124 (by decide) (by decide)) (owi_of p10 (by omega) (by omega)) (by omega) (by omega) (by omega) (by omega) (by omega) (by omega))) (Or.inl (by omega))) (EWI_step (o := (S.1 54 32 - 1)) (by omega) (Ch.wk hS124 (by decide) (by decide)) (by omega) p11 (by omega) (by
                intro x
                have e19 : S124.2 77 x = S.2 77 x := congrFun (hS124.2 77 (by decide)) _
                omega) (by
                intro x
                have e20 := hS124v x
                omega) (by
                intro x
                have e21 : S124.2 81 x = S.2 81 x := congrFun (hS124.2 81 (by decide)) _
                omega) (by omega)) (by omega) (by omega)
        · refine ⟨by omega, by omega, ?_⟩
          intro q35
          have e36 : S124.2 78 (((S.1 54 32 - 1))) = S.2 78 (((S.1 54 32 - 1))) := congrFun (hS124.2 78 (by decide)) _
          refine ⟨by omega, ?_⟩
          have e37 : S124.1 54 25 = S.1 54 25 := hS124.1 25 (by decide)
          have e38 : S124.1 54 25 = S.1 54 25 := hS124.1 25 (by decide)
          have e39 : S124.1 54 25 = S.1 54 25 := hS124.1 25 (by decide)
          have e40 : S124.1 54 25 = S.1 54 25 := hS124.1 25 (by decide)
          refine tX11_element (by omega) (by omega) (by omega) (by omega) (PW.mv p5 ((hS124).1 25 (by decide)) ((hS124).2 72 (by decide))) (BW.mv2 p6 ((hS124).1 25 (by decide)) ((hS124).2 75 (by decide))) (fun r187 S187 hS187 n187_0 n187_1 n187_2 n187_3 => ?_)
          have e41 : S187.1 54 39 = S124.1 54 39 := hS187.1 39 (by decide)
          have e42 : S124.1 54 39 = S.1 54 39 := hS124.1 39 (by decide)
          refine tX11_put  (fun r195 S195 hS195 n195_0 => ?_)
          refine tX11_putName (by omega) (fun r201 S201 hS201 n201_0 n201_1 => ?_)
          refine ⟨by omega, by omega, ?_⟩
          intro q43
          have e44 : S201.2 59 ((((4 * (S.2 68 ((S.2 77 (((S.1 54 32 - 1))))))) + (S.2 80 (((S.1 54 32 - 1))))))) = S195.2 59 ((((4 * (S.2 68 ((S.2 77 (((S.1 54 32 - 1))))))) + (S.2 80 (((S.1 54 32 - 1))))))) := congrFun (hS201.2 59 (by decide)) _
          have e45 : S195.2 59 ((((4 * (S.2 68 ((S.2 77 (((S.1 54 32 - 1))))))) + (S.2 80 (((S.1 54 32 - 1))))))) = S187.2 59 ((((4 * (S.2 68 ((S.2 77 (((S.1 54 32 - 1))))))) + (S.2 80 (((S.1 54 32 - 1))))))) := congrFun (hS195.2 59 (by decide)) _
          have e46 : S187.2 59 ((((4 * (S.2 68 ((S.2 77 (((S.1 54 32 - 1))))))) + (S.2 80 (((S.1 54 32 - 1))))))) = S124.2 59 ((((4 * (S.2 68 ((S.2 77 (((S.1 54 32 - 1))))))) + (S.2 80 (((S.1 54 32 - 1))))))) := congrFun (hS187.2 59 (by decide)) _
          have e47 : S124.2 59 ((((4 * (S.2 68 ((S.2 77 (((S.1 54 32 - 1))))))) + (S.2 80 (((S.1 54 32 - 1))))))) = S.2 59 ((((4 * (S.2 68 ((S.2 77 (((S.1 54 32 - 1))))))) + (S.2 80 (((S.1 54 32 - 1))))))) := congrFun (hS124.2 59 (by decide)) _
          refine ⟨fun h212 => ?_, fun h212 => ?_⟩
          · unfold wX11_goesOn_232
            refine tX11_put  (fun r235 S235 hS235 n235_0 => ?_)
            refine ⟨by omega, ?_⟩
            refine ⟨by omega, ?_⟩
            refine ⟨by omega, ?_⟩
            refine tX11_putValue (by omega) (by omega) (by omega) (by omega) (fun r245 S245 hS245 n245_0 => ?_)
            refine ⟨by omega, ?_⟩
            refine tX11_end (by omega) (fun r251 S251 hS251 n251_0 n251_1 n251_2 => ?_)
            have e111 : S251.1 54 30 = S245.1 54 30 := hS251.1 30 (by decide)
            have e112 : S245.1 54 30 = S235.1 54 30 := hS245.1 30 (by decide)
            have e113 : S235.1 54 30 = S201.1 54 30 := hS235.1 30 (by decide)
            have e114 : S201.1 54 30 = S195.1 54 30 := hS201.1 30 (by decide)
            have e115 : S195.1 54 30 = S187.1 54 30 := hS195.1 30 (by decide)
            have e116 : S187.1 54 30 = S124.1 54 30 := hS187.1 30 (by decide)
            have e117 : S124.1 54 30 = S.1 54 30 := hS124.1 30 (by decide)
            have e118 : S251.1 54 25 = S245.1 54 25 := hS251.1 25 (by decide)
            have e119 : S245.1 54 25 = S235.1 54 25 := hS245.1 25 (by decide)
            have e120 : S235.1 54 25 = S201.1 54 25 := hS235.1 25 (by decide)
            have e121 : S201.1 54 25 = S195.1 54 25 := hS201.1 25 (by decide)
            have e122 : S195.1 54 25 = S187.1 54 25 := hS195.1 25 (by decide)
            have e123 : S251.1 54 32 = S245.1 54 32 := hS251.1 32 (by decide)
            have e124 : S245.1 54 32 = S235.1 54 32 := hS245.1 32 (by decide)
            have e125 : S235.1 54 32 = S201.1 54 32 := hS235.1 32 (by decide)
            have e126 : S201.1 54 32 = S195.1 54 32 := hS201.1 32 (by decide)
            have e127 : S195.1 54 32 = S187.1 54 32 := hS195.1 32 (by decide)
            have e128 : S187.1 54 32 = S124.1 54 32 := hS187.1 32 (by decide)
            have e129 : S124.1 54 32 = S.1 54 32 := hS124.1 32 (by decide)
            have e130 : S251.1 54 32 = S245.1 54 32 := hS251.1 32 (by decide)
            have e131 : S245.1 54 32 = S235.1 54 32 := hS245.1 32 (by decide)
            have e132 : S235.1 54 32 = S201.1 54 32 := hS235.1 32 (by decide)
            have e133 : S201.1 54 32 = S195.1 54 32 := hS201.1 32 (by decide)
            have e134 : S195.1 54 32 = S187.1 54 32 := hS195.1 32 (by decide)
            have e135 : S187.1 54 32 = S124.1 54 32 := hS187.1 32 (by decide)
            have e136 : S124.1 54 32 = S.1 54 32 := hS124.1 32 (by decide)
            have e137 : S251.2 80 ((S.1 54 32) - 1) = S245.2 80 ((S.1 54 32) - 1) := congrFun (hS251.2 80 (by decide)) _
            have e138 : S245.2 80 ((S.1 54 32) - 1) = S235.2 80 ((S.1 54 32) - 1) := congrFun (hS245.2 80 (by decide)) _
            have e139 : S235.2 80 ((S.1 54 32) - 1) = S201.2 80 ((S.1 54 32) - 1) := congrFun (hS235.2 80 (by decide)) _
            have e140 : S201.2 80 ((S.1 54 32) - 1) = S195.2 80 ((S.1 54 32) - 1) := congrFun (hS201.2 80 (by decide)) _
            have e141 : S195.2 80 ((S.1 54 32) - 1) = S187.2 80 ((S.1 54 32) - 1) := congrFun (hS195.2 80 (by decide)) _
            have e142 : S187.2 80 ((S.1 54 32) - 1) = S124.2 80 ((S.1 54 32) - 1) := congrFun (hS187.2 80 (by decide)) _
            have e143 := hS124v ((S.1 54 32) - 1)
            have e144 : S251.2 77 (S.1 54 32 - 1) = S245.2 77 (S.1 54 32 - 1) := congrFun (hS251.2 77 (by decide)) _
            have e145 : S245.2 77 (S.1 54 32 - 1) = S235.2 77 (S.1 54 32 - 1) := congrFun (hS245.2 77 (by decide)) _
            have e146 : S235.2 77 (S.1 54 32 - 1) = S201.2 77 (S.1 54 32 - 1) := congrFun (hS235.2 77 (by decide)) _
            have e147 : S201.2 77 (S.1 54 32 - 1) = S195.2 77 (S.1 54 32 - 1) := congrFun (hS201.2 77 (by decide)) _
            have e148 : S195.2 77 (S.1 54 32 - 1) = S187.2 77 (S.1 54 32 - 1) := congrFun (hS195.2 77 (by decide)) _
            have e149 : S187.2 77 (S.1 54 32 - 1) = S124.2 77 (S.1 54 32 - 1) := congrFun (hS187.2 77 (by decide)) _
            have e150 : S124.2 77 (S.1 54 32 - 1) = S.2 77 (S.1 54 32 - 1) := congrFun (hS124.2 77 (by decide)) _
            have e151 : S251.2 78 (S.1 54 32 - 1) = S245.2 78 (S.1 54 32 - 1) := congrFun (hS251.2 78 (by decide)) _
            have e152 : S245.2 78 (S.1 54 32 - 1) = S235.2 78 (S.1 54 32 - 1) := congrFun (hS245.2 78 (by decide)) _
            have e153 : S235.2 78 (S.1 54 32 - 1) = S201.2 78 (S.1 54 32 - 1) := congrFun (hS235.2 78 (by decide)) _
            have e154 : S201.2 78 (S.1 54 32 - 1) = S195.2 78 (S.1 54 32 - 1) := congrFun (hS201.2 78 (by decide)) _
            have e155 : S195.2 78 (S.1 54 32 - 1) = S187.2 78 (S.1 54 32 - 1) := congrFun (hS195.2 78 (by decide)) _
            have e156 : S187.2 78 (S.1 54 32 - 1) = S124.2 78 (S.1 54 32 - 1) := congrFun (hS187.2 78 (by decide)) _
            have e157 : S124.2 78 (S.1 54 32 - 1) = S.2 78 (S.1 54 32 - 1) := congrFun (hS124.2 78 (by decide)) _
            have e158 : S251.2 79 (S.1 54 32 - 1) = S245.2 79 (S.1 54 32 - 1) := congrFun (hS251.2 79 (by decide)) _
            have e159 : S245.2 79 (S.1 54 32 - 1) = S235.2 79 (S.1 54 32 - 1) := congrFun (hS245.2 79 (by decide)) _
            have e160 : S235.2 79 (S.1 54 32 - 1) = S201.2 79 (S.1 54 32 - 1) := congrFun (hS235.2 79 (by decide)) _
            have e161 : S201.2 79 (S.1 54 32 - 1) = S195.2 79 (S.1 54 32 - 1) := congrFun (hS201.2 79 (by decide)) _
            have e162 : S195.2 79 (S.1 54 32 - 1) = S187.2 79 (S.1 54 32 - 1) := congrFun (hS195.2 79 (by decide)) _
            have e163 : S187.2 79 (S.1 54 32 - 1) = S124.2 79 (S.1 54 32 - 1) := congrFun (hS187.2 79 (by decide)) _
            have e164 : S124.2 79 (S.1 54 32 - 1) = S.2 79 (S.1 54 32 - 1) := congrFun (hS124.2 79 (by decide)) _
            have e165 : S251.2 80 (S.1 54 32 - 1) = S245.2 80 (S.1 54 32 - 1) := congrFun (hS251.2 80 (by decide)) _
            have e166 : S245.2 80 (S.1 54 32 - 1) = S235.2 80 (S.1 54 32 - 1) := congrFun (hS245.2 80 (by decide)) _
            have e167 : S235.2 80 (S.1 54 32 - 1) = S201.2 80 (S.1 54 32 - 1) := congrFun (hS235.2 80 (by decide)) _
            have e168 : S201.2 80 (S.1 54 32 - 1) = S195.2 80 (S.1 54 32 - 1) := congrFun (hS201.2 80 (by decide)) _
            have e169 : S195.2 80 (S.1 54 32 - 1) = S187.2 80 (S.1 54 32 - 1) := congrFun (hS195.2 80 (by decide)) _
            have e170 : S187.2 80 (S.1 54 32 - 1) = S124.2 80 (S.1 54 32 - 1) := congrFun (hS187.2 80 (by decide)) _
            have e171 := hS124v (S.1 54 32 - 1)
            have e172 : S251.2 81 (S.1 54 32 - 1) = S245.2 81 (S.1 54 32 - 1) := congrFun (hS251.2 81 (by decide)) _
            have e173 : S245.2 81 (S.1 54 32 - 1) = S235.2 81 (S.1 54 32 - 1) := congrFun (hS245.2 81 (by decide)) _
            have e174 : S235.2 81 (S.1 54 32 - 1) = S201.2 81 (S.1 54 32 - 1) := congrFun (hS235.2 81 (by decide)) _
            have e175 : S201.2 81 (S.1 54 32 - 1) = S195.2 81 (S.1 54 32 - 1) := congrFun (hS201.2 81 (by decide)) _
            have e176 : S195.2 81 (S.1 54 32 - 1) = S187.2 81 (S.1 54 32 - 1) := congrFun (hS195.2 81 (by decide)) _
            have e177 : S187.2 81 (S.1 54 32 - 1) = S124.2 81 (S.1 54 32 - 1) := congrFun (hS187.2 81 (by decide)) _
            have e178 : S124.2 81 (S.1 54 32 - 1) = S.2 81 (S.1 54 32 - 1) := congrFun (hS124.2 81 (by decide)) _
            have e179 : S251.2 82 (S.1 54 32 - 1) = S245.2 82 (S.1 54 32 - 1) := congrFun (hS251.2 82 (by decide)) _
            have e180 : S245.2 82 (S.1 54 32 - 1) = S235.2 82 (S.1 54 32 - 1) := congrFun (hS245.2 82 (by decide)) _
            have e181 : S235.2 82 (S.1 54 32 - 1) = S201.2 82 (S.1 54 32 - 1) := congrFun (hS235.2 82 (by decide)) _
            have e182 : S201.2 82 (S.1 54 32 - 1) = S195.2 82 (S.1 54 32 - 1) := congrFun (hS201.2 82 (by decide)) _
            have e183 : S195.2 82 (S.1 54 32 - 1) = S187.2 82 (S.1 54 32 - 1) := congrFun (hS195.2 82 (by decide)) _
            have e184 : S187.2 82 (S.1 54 32 - 1) = S124.2 82 (S.1 54 32 - 1) := congrFun (hS187.2 82 (by decide)) _
            have e185 : S124.2 82 (S.1 54 32 - 1) = S.2 82 (S.1 54 32 - 1) := congrFun (hS124.2 82 (by decide)) _
            have fb := fl_z (S := S251) (o := (S.1 54 32 - 1)) (by omega)
            have fa := fl_01 (S := S) (x := (S.1 54 32 - 1))
            have fa0 := fl_z (S := S) (o := (S.1 54 32 - 1)) (by omega)
            exact hK (1) S251 (Ch.wk (Ch.tr (Ch.tr (Ch.tr (Ch.tr (Ch.tr (Ch.tr hS124 hS187) hS195) hS201) hS235) hS245) hS251) (by decide) (by decide)) (by omega) (by omega) (by omega) (PW.mv n187_2 (((Ch.tr (Ch.tr (Ch.tr (Ch.tr hS195 hS201) hS235) hS245) hS251)).1 25 (by decide)) (((Ch.tr (Ch.tr (Ch.tr (Ch.tr hS195 hS201) hS235) hS245) hS251)).2 72 (by decide))) (BW.mv2 n187_3 (((Ch.tr (Ch.tr (Ch.tr (Ch.tr hS195 hS201) hS235) hS245) hS251)).1 25 (by decide)) (((Ch.tr (Ch.tr (Ch.tr (Ch.tr hS195 hS201) hS235) hS245) hS251)).2 75 (by decide))) (OWI_step (o := (S.1 54 32 - 1)) (Ch.wk (Ch.tr (Ch.tr (Ch.tr (Ch.tr (Ch.tr (Ch.tr hS124 hS187) hS195) hS201) hS235) hS245) hS251) (by decide) (by decide)) (by omega) (by omega) (by omega) p10 (by
                  intro x
                  have e48 : S251.2 77 x = S245.2 77 x := congrFun (hS251.2 77 (by decide)) _
                  have e49 : S245.2 77 x = S235.2 77 x := congrFun (hS245.2 77 (by decide)) _
                  have e50 : S235.2 77 x = S201.2 77 x := congrFun (hS235.2 77 (by decide)) _
                  have e51 : S201.2 77 x = S195.2 77 x := congrFun (hS201.2 77 (by decide)) _
                  have e52 : S195.2 77 x = S187.2 77 x := congrFun (hS195.2 77 (by decide)) _
                  have e53 : S187.2 77 x = S124.2 77 x := congrFun (hS187.2 77 (by decide)) _
                  have e54 : S124.2 77 x = S.2 77 x := congrFun (hS124.2 77 (by decide)) _
                  omega) (by
                  intro x
                  have e55 : S251.2 78 x = S245.2 78 x := congrFun (hS251.2 78 (by decide)) _
                  have e56 : S245.2 78 x = S235.2 78 x := congrFun (hS245.2 78 (by decide)) _
                  have e57 : S235.2 78 x = S201.2 78 x := congrFun (hS235.2 78 (by decide)) _
                  have e58 : S201.2 78 x = S195.2 78 x := congrFun (hS201.2 78 (by decide)) _
                  have e59 : S195.2 78 x = S187.2 78 x := congrFun (hS195.2 78 (by decide)) _
                  have e60 : S187.2 78 x = S124.2 78 x := congrFun (hS187.2 78 (by decide)) _
                  have e61 : S124.2 78 x = S.2 78 x := congrFun (hS124.2 78 (by decide)) _
                  omega) (by
                  intro x
                  have e62 : S251.2 79 x = S245.2 79 x := congrFun (hS251.2 79 (by decide)) _
                  have e63 : S245.2 79 x = S235.2 79 x := congrFun (hS245.2 79 (by decide)) _
                  have e64 : S235.2 79 x = S201.2 79 x := congrFun (hS235.2 79 (by decide)) _
                  have e65 : S201.2 79 x = S195.2 79 x := congrFun (hS201.2 79 (by decide)) _
                  have e66 : S195.2 79 x = S187.2 79 x := congrFun (hS195.2 79 (by decide)) _
                  have e67 : S187.2 79 x = S124.2 79 x := congrFun (hS187.2 79 (by decide)) _
                  have e68 : S124.2 79 x = S.2 79 x := congrFun (hS124.2 79 (by decide)) _
                  omega) (by
                  intro x
                  have e69 : S251.2 80 x = S245.2 80 x := congrFun (hS251.2 80 (by decide)) _
                  have e70 : S245.2 80 x = S235.2 80 x := congrFun (hS245.2 80 (by decide)) _
                  have e71 : S235.2 80 x = S201.2 80 x := congrFun (hS235.2 80 (by decide)) _
                  have e72 : S201.2 80 x = S195.2 80 x := congrFun (hS201.2 80 (by decide)) _
                  have e73 : S195.2 80 x = S187.2 80 x := congrFun (hS195.2 80 (by decide)) _
                  have e74 : S187.2 80 x = S124.2 80 x := congrFun (hS187.2 80 (by decide)) _
                  have e75 := hS124v x
                  omega) (by
                  intro x
                  have e76 : S251.2 81 x = S245.2 81 x := congrFun (hS251.2 81 (by decide)) _
                  have e77 : S245.2 81 x = S235.2 81 x := congrFun (hS245.2 81 (by decide)) _
                  have e78 : S235.2 81 x = S201.2 81 x := congrFun (hS235.2 81 (by decide)) _
                  have e79 : S201.2 81 x = S195.2 81 x := congrFun (hS201.2 81 (by decide)) _
                  have e80 : S195.2 81 x = S187.2 81 x := congrFun (hS195.2 81 (by decide)) _
                  have e81 : S187.2 81 x = S124.2 81 x := congrFun (hS187.2 81 (by decide)) _
                  have e82 : S124.2 81 x = S.2 81 x := congrFun (hS124.2 81 (by decide)) _
                  omega) (by
                  intro x
                  have e83 : S251.2 82 x = S245.2 82 x := congrFun (hS251.2 82 (by decide)) _
                  have e84 : S245.2 82 x = S235.2 82 x := congrFun (hS245.2 82 (by decide)) _
                  have e85 : S235.2 82 x = S201.2 82 x := congrFun (hS235.2 82 (by decide)) _
                  have e86 : S201.2 82 x = S195.2 82 x := congrFun (hS201.2 82 (by decide)) _
                  have e87 : S195.2 82 x = S187.2 82 x := congrFun (hS195.2 82 (by decide)) _
                  have e88 : S187.2 82 x = S124.2 82 x := congrFun (hS187.2 82 (by decide)) _
                  have e89 : S124.2 82 x = S.2 82 x := congrFun (hS124.2 82 (by decide)) _
                  omega) (Or.inr (owi_top (Ch.wk (Ch.tr (Ch.tr (Ch.tr (Ch.tr (Ch.tr (Ch.tr hS124 hS187) hS195) hS201) hS235) hS245) hS251) (by decide) (by decide)) (owi_of p10 (by omega) (by omega)) (by omega) (by omega) (by omega) (by omega) (by omega) (by omega))) (Or.inl (by omega))) (EWI_step (o := (S.1 54 32 - 1)) (by omega) (Ch.wk (Ch.tr (Ch.tr (Ch.tr (Ch.tr (Ch.tr (Ch.tr hS124 hS187) hS195) hS201) hS235) hS245) hS251) (by decide) (by decide)) (by omega) p11 (by omega) (by
                  intro x
                  have e90 : S251.2 77 x = S245.2 77 x := congrFun (hS251.2 77 (by decide)) _
                  have e91 : S245.2 77 x = S235.2 77 x := congrFun (hS245.2 77 (by decide)) _
                  have e92 : S235.2 77 x = S201.2 77 x := congrFun (hS235.2 77 (by decide)) _
                  have e93 : S201.2 77 x = S195.2 77 x := congrFun (hS201.2 77 (by decide)) _
                  have e94 : S195.2 77 x = S187.2 77 x := congrFun (hS195.2 77 (by decide)) _
                  have e95 : S187.2 77 x = S124.2 77 x := congrFun (hS187.2 77 (by decide)) _
                  have e96 : S124.2 77 x = S.2 77 x := congrFun (hS124.2 77 (by decide)) _
                  omega) (by
                  intro x
                  have e97 : S251.2 80 x = S245.2 80 x := congrFun (hS251.2 80 (by decide)) _
                  have e98 : S245.2 80 x = S235.2 80 x := congrFun (hS245.2 80 (by decide)) _
                  have e99 : S235.2 80 x = S201.2 80 x := congrFun (hS235.2 80 (by decide)) _
                  have e100 : S201.2 80 x = S195.2 80 x := congrFun (hS201.2 80 (by decide)) _
                  have e101 : S195.2 80 x = S187.2 80 x := congrFun (hS195.2 80 (by decide)) _
                  have e102 : S187.2 80 x = S124.2 80 x := congrFun (hS187.2 80 (by decide)) _
                  have e103 := hS124v x
                  omega) (by
                  intro x
                  have e104 : S251.2 81 x = S245.2 81 x := congrFun (hS251.2 81 (by decide)) _
                  have e105 : S245.2 81 x = S235.2 81 x := congrFun (hS245.2 81 (by decide)) _
                  have e106 : S235.2 81 x = S201.2 81 x := congrFun (hS235.2 81 (by decide)) _
                  have e107 : S201.2 81 x = S195.2 81 x := congrFun (hS201.2 81 (by decide)) _
                  have e108 : S195.2 81 x = S187.2 81 x := congrFun (hS195.2 81 (by decide)) _
                  have e109 : S187.2 81 x = S124.2 81 x := congrFun (hS187.2 81 (by decide)) _
                  have e110 : S124.2 81 x = S.2 81 x := congrFun (hS124.2 81 (by decide)) _
                  omega) (by omega)) (by omega) (by omega)
          · refine ⟨fun h217 => ?_, fun h217 => ?_⟩
            · unfold wX11_goesOn_232
              refine tX11_put  (fun r235 S235 hS235 n235_0 => ?_)
              refine ⟨by omega, ?_⟩
              refine ⟨by omega, ?_⟩
              refine ⟨by omega, ?_⟩
              refine tX11_putValue (by omega) (by omega) (by omega) (by omega) (fun r245 S245 hS245 n245_0 => ?_)
              refine ⟨by omega, ?_⟩
              refine tX11_end (by omega) (fun r251 S251 hS251 n251_0 n251_1 n251_2 => ?_)
              have e249 : S251.1 54 30 = S245.1 54 30 := hS251.1 30 (by decide)
              have e250 : S245.1 54 30 = S235.1 54 30 := hS245.1 30 (by decide)
              have e251 : S235.1 54 30 = S201.1 54 30 := hS235.1 30 (by decide)
              have e252 : S201.1 54 30 = S195.1 54 30 := hS201.1 30 (by decide)
              have e253 : S195.1 54 30 = S187.1 54 30 := hS195.1 30 (by decide)
              have e254 : S187.1 54 30 = S124.1 54 30 := hS187.1 30 (by decide)
              have e255 : S124.1 54 30 = S.1 54 30 := hS124.1 30 (by decide)
              have e256 : S251.1 54 25 = S245.1 54 25 := hS251.1 25 (by decide)
              have e257 : S245.1 54 25 = S235.1 54 25 := hS245.1 25 (by decide)
              have e258 : S235.1 54 25 = S201.1 54 25 := hS235.1 25 (by decide)
              have e259 : S201.1 54 25 = S195.1 54 25 := hS201.1 25 (by decide)
              have e260 : S195.1 54 25 = S187.1 54 25 := hS195.1 25 (by decide)
              have e261 : S251.1 54 32 = S245.1 54 32 := hS251.1 32 (by decide)
              have e262 : S245.1 54 32 = S235.1 54 32 := hS245.1 32 (by decide)
              have e263 : S235.1 54 32 = S201.1 54 32 := hS235.1 32 (by decide)
              have e264 : S201.1 54 32 = S195.1 54 32 := hS201.1 32 (by decide)
              have e265 : S195.1 54 32 = S187.1 54 32 := hS195.1 32 (by decide)
              have e266 : S187.1 54 32 = S124.1 54 32 := hS187.1 32 (by decide)
              have e267 : S124.1 54 32 = S.1 54 32 := hS124.1 32 (by decide)
              have e268 : S251.1 54 32 = S245.1 54 32 := hS251.1 32 (by decide)
              have e269 : S245.1 54 32 = S235.1 54 32 := hS245.1 32 (by decide)
              have e270 : S235.1 54 32 = S201.1 54 32 := hS235.1 32 (by decide)
              have e271 : S201.1 54 32 = S195.1 54 32 := hS201.1 32 (by decide)
              have e272 : S195.1 54 32 = S187.1 54 32 := hS195.1 32 (by decide)
              have e273 : S187.1 54 32 = S124.1 54 32 := hS187.1 32 (by decide)
              have e274 : S124.1 54 32 = S.1 54 32 := hS124.1 32 (by decide)
              have e275 : S251.2 80 ((S.1 54 32) - 1) = S245.2 80 ((S.1 54 32) - 1) := congrFun (hS251.2 80 (by decide)) _
              have e276 : S245.2 80 ((S.1 54 32) - 1) = S235.2 80 ((S.1 54 32) - 1) := congrFun (hS245.2 80 (by decide)) _
              have e277 : S235.2 80 ((S.1 54 32) - 1) = S201.2 80 ((S.1 54 32) - 1) := congrFun (hS235.2 80 (by decide)) _
              have e278 : S201.2 80 ((S.1 54 32) - 1) = S195.2 80 ((S.1 54 32) - 1) := congrFun (hS201.2 80 (by decide)) _
              have e279 : S195.2 80 ((S.1 54 32) - 1) = S187.2 80 ((S.1 54 32) - 1) := congrFun (hS195.2 80 (by decide)) _
              have e280 : S187.2 80 ((S.1 54 32) - 1) = S124.2 80 ((S.1 54 32) - 1) := congrFun (hS187.2 80 (by decide)) _
              have e281 := hS124v ((S.1 54 32) - 1)
              have e282 : S251.2 77 (S.1 54 32 - 1) = S245.2 77 (S.1 54 32 - 1) := congrFun (hS251.2 77 (by decide)) _
              have e283 : S245.2 77 (S.1 54 32 - 1) = S235.2 77 (S.1 54 32 - 1) := congrFun (hS245.2 77 (by decide)) _
              have e284 : S235.2 77 (S.1 54 32 - 1) = S201.2 77 (S.1 54 32 - 1) := congrFun (hS235.2 77 (by decide)) _
              have e285 : S201.2 77 (S.1 54 32 - 1) = S195.2 77 (S.1 54 32 - 1) := congrFun (hS201.2 77 (by decide)) _
              have e286 : S195.2 77 (S.1 54 32 - 1) = S187.2 77 (S.1 54 32 - 1) := congrFun (hS195.2 77 (by decide)) _
              have e287 : S187.2 77 (S.1 54 32 - 1) = S124.2 77 (S.1 54 32 - 1) := congrFun (hS187.2 77 (by decide)) _
              have e288 : S124.2 77 (S.1 54 32 - 1) = S.2 77 (S.1 54 32 - 1) := congrFun (hS124.2 77 (by decide)) _
              have e289 : S251.2 78 (S.1 54 32 - 1) = S245.2 78 (S.1 54 32 - 1) := congrFun (hS251.2 78 (by decide)) _
              have e290 : S245.2 78 (S.1 54 32 - 1) = S235.2 78 (S.1 54 32 - 1) := congrFun (hS245.2 78 (by decide)) _
              have e291 : S235.2 78 (S.1 54 32 - 1) = S201.2 78 (S.1 54 32 - 1) := congrFun (hS235.2 78 (by decide)) _
              have e292 : S201.2 78 (S.1 54 32 - 1) = S195.2 78 (S.1 54 32 - 1) := congrFun (hS201.2 78 (by decide)) _
              have e293 : S195.2 78 (S.1 54 32 - 1) = S187.2 78 (S.1 54 32 - 1) := congrFun (hS195.2 78 (by decide)) _
              have e294 : S187.2 78 (S.1 54 32 - 1) = S124.2 78 (S.1 54 32 - 1) := congrFun (hS187.2 78 (by decide)) _
              have e295 : S124.2 78 (S.1 54 32 - 1) = S.2 78 (S.1 54 32 - 1) := congrFun (hS124.2 78 (by decide)) _
              have e296 : S251.2 79 (S.1 54 32 - 1) = S245.2 79 (S.1 54 32 - 1) := congrFun (hS251.2 79 (by decide)) _
              have e297 : S245.2 79 (S.1 54 32 - 1) = S235.2 79 (S.1 54 32 - 1) := congrFun (hS245.2 79 (by decide)) _
              have e298 : S235.2 79 (S.1 54 32 - 1) = S201.2 79 (S.1 54 32 - 1) := congrFun (hS235.2 79 (by decide)) _
              have e299 : S201.2 79 (S.1 54 32 - 1) = S195.2 79 (S.1 54 32 - 1) := congrFun (hS201.2 79 (by decide)) _
              have e300 : S195.2 79 (S.1 54 32 - 1) = S187.2 79 (S.1 54 32 - 1) := congrFun (hS195.2 79 (by decide)) _
              have e301 : S187.2 79 (S.1 54 32 - 1) = S124.2 79 (S.1 54 32 - 1) := congrFun (hS187.2 79 (by decide)) _
              have e302 : S124.2 79 (S.1 54 32 - 1) = S.2 79 (S.1 54 32 - 1) := congrFun (hS124.2 79 (by decide)) _
              have e303 : S251.2 80 (S.1 54 32 - 1) = S245.2 80 (S.1 54 32 - 1) := congrFun (hS251.2 80 (by decide)) _
              have e304 : S245.2 80 (S.1 54 32 - 1) = S235.2 80 (S.1 54 32 - 1) := congrFun (hS245.2 80 (by decide)) _
              have e305 : S235.2 80 (S.1 54 32 - 1) = S201.2 80 (S.1 54 32 - 1) := congrFun (hS235.2 80 (by decide)) _
              have e306 : S201.2 80 (S.1 54 32 - 1) = S195.2 80 (S.1 54 32 - 1) := congrFun (hS201.2 80 (by decide)) _
              have e307 : S195.2 80 (S.1 54 32 - 1) = S187.2 80 (S.1 54 32 - 1) := congrFun (hS195.2 80 (by decide)) _
              have e308 : S187.2 80 (S.1 54 32 - 1) = S124.2 80 (S.1 54 32 - 1) := congrFun (hS187.2 80 (by decide)) _
              have e309 := hS124v (S.1 54 32 - 1)
              have e310 : S251.2 81 (S.1 54 32 - 1) = S245.2 81 (S.1 54 32 - 1) := congrFun (hS251.2 81 (by decide)) _
              have e311 : S245.2 81 (S.1 54 32 - 1) = S235.2 81 (S.1 54 32 - 1) := congrFun (hS245.2 81 (by decide)) _
              have e312 : S235.2 81 (S.1 54 32 - 1) = S201.2 81 (S.1 54 32 - 1) := congrFun (hS235.2 81 (by decide)) _
              have e313 : S201.2 81 (S.1 54 32 - 1) = S195.2 81 (S.1 54 32 - 1) := congrFun (hS201.2 81 (by decide)) _
              have e314 : S195.2 81 (S.1 54 32 - 1) = S187.2 81 (S.1 54 32 - 1) := congrFun (hS195.2 81 (by decide)) _
              have e315 : S187.2 81 (S.1 54 32 - 1) = S124.2 81 (S.1 54 32 - 1) := congrFun (hS187.2 81 (by decide)) _
              have e316 : S124.2 81 (S.1 54 32 - 1) = S.2 81 (S.1 54 32 - 1) := congrFun (hS124.2 81 (by decide)) _
              have e317 : S251.2 82 (S.1 54 32 - 1) = S245.2 82 (S.1 54 32 - 1) := congrFun (hS251.2 82 (by decide)) _
              have e318 : S245.2 82 (S.1 54 32 - 1) = S235.2 82 (S.1 54 32 - 1) := congrFun (hS245.2 82 (by decide)) _
              have e319 : S235.2 82 (S.1 54 32 - 1) = S201.2 82 (S.1 54 32 - 1) := congrFun (hS235.2 82 (by decide)) _
              have e320 : S201.2 82 (S.1 54 32 - 1) = S195.2 82 (S.1 54 32 - 1) := congrFun (hS201.2 82 (by decide)) _
              have e321 : S195.2 82 (S.1 54 32 - 1) = S187.2 82 (S.1 54 32 - 1) := congrFun (hS195.2 82 (by decide)) _
              have e322 : S187.2 82 (S.1 54 32 - 1) = S124.2 82 (S.1 54 32 - 1) := congrFun (hS187.2 82 (by decide)) _
              have e323 : S124.2 82 (S.1 54 32 - 1) = S.2 82 (S.1 54 32 - 1) := congrFun (hS124.2 82 (by decide)) _
              have fb := fl_z (S := S251) (o := (S.1 54 32 - 1)) (by omega)
              have fa := fl_01 (S := S) (x := (S.1 54 32 - 1))
              have fa0 := fl_z (S := S) (o := (S.1 54 32 - 1)) (by omega)
              exact hK (1) S251 (Ch.wk (Ch.tr (Ch.tr (Ch.tr (Ch.tr (Ch.tr (Ch.tr hS124 hS187) hS195) hS201) hS235) hS245) hS251) (by decide) (by decide)) (by omega) (by omega) (by omega) (PW.mv n187_2 (((Ch.tr (Ch.tr (Ch.tr (Ch.tr hS195 hS201) hS235) hS245) hS251)).1 25 (by decide)) (((Ch.tr (Ch.tr (Ch.tr (Ch.tr hS195 hS201) hS235) hS245) hS251)).2 72 (by decide))) (BW.mv2 n187_3 (((Ch.tr (Ch.tr (Ch.tr (Ch.tr hS195 hS201) hS235) hS245) hS251)).1 25 (by decide)) (((Ch.tr (Ch.tr (Ch.tr (Ch.tr hS195 hS201) hS235) hS245) hS251)).2 75 (by decide))) (OWI_step (o := (S.1 54 32 - 1)) (Ch.wk (Ch.tr (Ch.tr (Ch.tr (Ch.tr (Ch.tr (Ch.tr hS124 hS187) hS195) hS201) hS235) hS245) hS251) (by decide) (by decide)) (by omega) (by omega) (by omega) p10 (by
                    intro x
                    have e186 : S251.2 77 x = S245.2 77 x := congrFun (hS251.2 77 (by decide)) _
                    have e187 : S245.2 77 x = S235.2 77 x := congrFun (hS245.2 77 (by decide)) _
                    have e188 : S235.2 77 x = S201.2 77 x := congrFun (hS235.2 77 (by decide)) _
                    have e189 : S201.2 77 x = S195.2 77 x := congrFun (hS201.2 77 (by decide)) _
                    have e190 : S195.2 77 x = S187.2 77 x := congrFun (hS195.2 77 (by decide)) _
                    have e191 : S187.2 77 x = S124.2 77 x := congrFun (hS187.2 77 (by decide)) _
                    have e192 : S124.2 77 x = S.2 77 x := congrFun (hS124.2 77 (by decide)) _
                    omega) (by
                    intro x
                    have e193 : S251.2 78 x = S245.2 78 x := congrFun (hS251.2 78 (by decide)) _
                    have e194 : S245.2 78 x = S235.2 78 x := congrFun (hS245.2 78 (by decide)) _
                    have e195 : S235.2 78 x = S201.2 78 x := congrFun (hS235.2 78 (by decide)) _
                    have e196 : S201.2 78 x = S195.2 78 x := congrFun (hS201.2 78 (by decide)) _
                    have e197 : S195.2 78 x = S187.2 78 x := congrFun (hS195.2 78 (by decide)) _
                    have e198 : S187.2 78 x = S124.2 78 x := congrFun (hS187.2 78 (by decide)) _
                    have e199 : S124.2 78 x = S.2 78 x := congrFun (hS124.2 78 (by decide)) _
                    omega) (by
                    intro x
                    have e200 : S251.2 79 x = S245.2 79 x := congrFun (hS251.2 79 (by decide)) _
                    have e201 : S245.2 79 x = S235.2 79 x := congrFun (hS245.2 79 (by decide)) _
                    have e202 : S235.2 79 x = S201.2 79 x := congrFun (hS235.2 79 (by decide)) _
                    have e203 : S201.2 79 x = S195.2 79 x := congrFun (hS201.2 79 (by decide)) _
                    have e204 : S195.2 79 x = S187.2 79 x := congrFun (hS195.2 79 (by decide)) _
                    have e205 : S187.2 79 x = S124.2 79 x := congrFun (hS187.2 79 (by decide)) _
                    have e206 : S124.2 79 x = S.2 79 x := congrFun (hS124.2 79 (by decide)) _
                    omega) (by
                    intro x
                    have e207 : S251.2 80 x = S245.2 80 x := congrFun (hS251.2 80 (by decide)) _
                    have e208 : S245.2 80 x = S235.2 80 x := congrFun (hS245.2 80 (by decide)) _
                    have e209 : S235.2 80 x = S201.2 80 x := congrFun (hS235.2 80 (by decide)) _
                    have e210 : S201.2 80 x = S195.2 80 x := congrFun (hS201.2 80 (by decide)) _
                    have e211 : S195.2 80 x = S187.2 80 x := congrFun (hS195.2 80 (by decide)) _
                    have e212 : S187.2 80 x = S124.2 80 x := congrFun (hS187.2 80 (by decide)) _
                    have e213 := hS124v x
                    omega) (by
                    intro x
                    have e214 : S251.2 81 x = S245.2 81 x := congrFun (hS251.2 81 (by decide)) _
                    have e215 : S245.2 81 x = S235.2 81 x := congrFun (hS245.2 81 (by decide)) _
                    have e216 : S235.2 81 x = S201.2 81 x := congrFun (hS235.2 81 (by decide)) _
                    have e217 : S201.2 81 x = S195.2 81 x := congrFun (hS201.2 81 (by decide)) _
                    have e218 : S195.2 81 x = S187.2 81 x := congrFun (hS195.2 81 (by decide)) _
                    have e219 : S187.2 81 x = S124.2 81 x := congrFun (hS187.2 81 (by decide)) _
                    have e220 : S124.2 81 x = S.2 81 x := congrFun (hS124.2 81 (by decide)) _
                    omega) (by
                    intro x
                    have e221 : S251.2 82 x = S245.2 82 x := congrFun (hS251.2 82 (by decide)) _
                    have e222 : S245.2 82 x = S235.2 82 x := congrFun (hS245.2 82 (by decide)) _
                    have e223 : S235.2 82 x = S201.2 82 x := congrFun (hS235.2 82 (by decide)) _
                    have e224 : S201.2 82 x = S195.2 82 x := congrFun (hS201.2 82 (by decide)) _
                    have e225 : S195.2 82 x = S187.2 82 x := congrFun (hS195.2 82 (by decide)) _
                    have e226 : S187.2 82 x = S124.2 82 x := congrFun (hS187.2 82 (by decide)) _
                    have e227 : S124.2 82 x = S.2 82 x := congrFun (hS124.2 82 (by decide)) _
                    omega) (Or.inr (owi_top (Ch.wk (Ch.tr (Ch.tr (Ch.tr (Ch.tr (Ch.tr (Ch.tr hS124 hS187) hS195) hS201) hS235) hS245) hS251) (by decide) (by decide)) (owi_of p10 (by omega) (by omega)) (by omega) (by omega) (by omega) (by omega) (by omega) (by omega))) (Or.inl (by omega))) (EWI_step (o := (S.1 54 32 - 1)) (by omega) (Ch.wk (Ch.tr (Ch.tr (Ch.tr (Ch.tr (Ch.tr (Ch.tr hS124 hS187) hS195) hS201) hS235) hS245) hS251) (by decide) (by decide)) (by omega) p11 (by omega) (by
                    intro x
                    have e228 : S251.2 77 x = S245.2 77 x := congrFun (hS251.2 77 (by decide)) _
                    have e229 : S245.2 77 x = S235.2 77 x := congrFun (hS245.2 77 (by decide)) _
                    have e230 : S235.2 77 x = S201.2 77 x := congrFun (hS235.2 77 (by decide)) _
                    have e231 : S201.2 77 x = S195.2 77 x := congrFun (hS201.2 77 (by decide)) _
                    have e232 : S195.2 77 x = S187.2 77 x := congrFun (hS195.2 77 (by decide)) _
                    have e233 : S187.2 77 x = S124.2 77 x := congrFun (hS187.2 77 (by decide)) _
                    have e234 : S124.2 77 x = S.2 77 x := congrFun (hS124.2 77 (by decide)) _
                    omega) (by
                    intro x
                    have e235 : S251.2 80 x = S245.2 80 x := congrFun (hS251.2 80 (by decide)) _
                    have e236 : S245.2 80 x = S235.2 80 x := congrFun (hS245.2 80 (by decide)) _
                    have e237 : S235.2 80 x = S201.2 80 x := congrFun (hS235.2 80 (by decide)) _
                    have e238 : S201.2 80 x = S195.2 80 x := congrFun (hS201.2 80 (by decide)) _
                    have e239 : S195.2 80 x = S187.2 80 x := congrFun (hS195.2 80 (by decide)) _
                    have e240 : S187.2 80 x = S124.2 80 x := congrFun (hS187.2 80 (by decide)) _
                    have e241 := hS124v x
                    omega) (by
                    intro x
                    have e242 : S251.2 81 x = S245.2 81 x := congrFun (hS251.2 81 (by decide)) _
                    have e243 : S245.2 81 x = S235.2 81 x := congrFun (hS245.2 81 (by decide)) _
                    have e244 : S235.2 81 x = S201.2 81 x := congrFun (hS235.2 81 (by decide)) _
                    have e245 : S201.2 81 x = S195.2 81 x := congrFun (hS201.2 81 (by decide)) _
                    have e246 : S195.2 81 x = S187.2 81 x := congrFun (hS195.2 81 (by decide)) _
                    have e247 : S187.2 81 x = S124.2 81 x := congrFun (hS187.2 81 (by decide)) _
                    have e248 : S124.2 81 x = S.2 81 x := congrFun (hS124.2 81 (by decide)) _
                    omega) (by omega)) (by omega) (by omega)
            · refine tX11_putWord  (fun r227 S227 hS227 n227_0 n227_1 n227_2 => ?_)
              have e369 : S227.1 54 30 = S201.1 54 30 := hS227.1 30 (by decide)
              have e370 : S201.1 54 30 = S195.1 54 30 := hS201.1 30 (by decide)
              have e371 : S195.1 54 30 = S187.1 54 30 := hS195.1 30 (by decide)
              have e372 : S187.1 54 30 = S124.1 54 30 := hS187.1 30 (by decide)
              have e373 : S124.1 54 30 = S.1 54 30 := hS124.1 30 (by decide)
              have e374 : S227.1 54 25 = S201.1 54 25 := hS227.1 25 (by decide)
              have e375 : S201.1 54 25 = S195.1 54 25 := hS201.1 25 (by decide)
              have e376 : S195.1 54 25 = S187.1 54 25 := hS195.1 25 (by decide)
              have e377 : S227.1 54 32 = S201.1 54 32 := hS227.1 32 (by decide)
              have e378 : S201.1 54 32 = S195.1 54 32 := hS201.1 32 (by decide)
              have e379 : S195.1 54 32 = S187.1 54 32 := hS195.1 32 (by decide)
              have e380 : S187.1 54 32 = S124.1 54 32 := hS187.1 32 (by decide)
              have e381 : S124.1 54 32 = S.1 54 32 := hS124.1 32 (by decide)
              have e382 : S227.1 54 32 = S201.1 54 32 := hS227.1 32 (by decide)
              have e383 : S201.1 54 32 = S195.1 54 32 := hS201.1 32 (by decide)
              have e384 : S195.1 54 32 = S187.1 54 32 := hS195.1 32 (by decide)
              have e385 : S187.1 54 32 = S124.1 54 32 := hS187.1 32 (by decide)
              have e386 : S124.1 54 32 = S.1 54 32 := hS124.1 32 (by decide)
              have e387 : S227.2 80 ((S.1 54 32) - 1) = S201.2 80 ((S.1 54 32) - 1) := congrFun (hS227.2 80 (by decide)) _
              have e388 : S201.2 80 ((S.1 54 32) - 1) = S195.2 80 ((S.1 54 32) - 1) := congrFun (hS201.2 80 (by decide)) _
              have e389 : S195.2 80 ((S.1 54 32) - 1) = S187.2 80 ((S.1 54 32) - 1) := congrFun (hS195.2 80 (by decide)) _
              have e390 : S187.2 80 ((S.1 54 32) - 1) = S124.2 80 ((S.1 54 32) - 1) := congrFun (hS187.2 80 (by decide)) _
              have e391 := hS124v ((S.1 54 32) - 1)
              have e392 : S227.2 77 (S.1 54 32 - 1) = S201.2 77 (S.1 54 32 - 1) := congrFun (hS227.2 77 (by decide)) _
              have e393 : S201.2 77 (S.1 54 32 - 1) = S195.2 77 (S.1 54 32 - 1) := congrFun (hS201.2 77 (by decide)) _
              have e394 : S195.2 77 (S.1 54 32 - 1) = S187.2 77 (S.1 54 32 - 1) := congrFun (hS195.2 77 (by decide)) _
              have e395 : S187.2 77 (S.1 54 32 - 1) = S124.2 77 (S.1 54 32 - 1) := congrFun (hS187.2 77 (by decide)) _
              have e396 : S124.2 77 (S.1 54 32 - 1) = S.2 77 (S.1 54 32 - 1) := congrFun (hS124.2 77 (by decide)) _
              have e397 : S227.2 78 (S.1 54 32 - 1) = S201.2 78 (S.1 54 32 - 1) := congrFun (hS227.2 78 (by decide)) _
              have e398 : S201.2 78 (S.1 54 32 - 1) = S195.2 78 (S.1 54 32 - 1) := congrFun (hS201.2 78 (by decide)) _
              have e399 : S195.2 78 (S.1 54 32 - 1) = S187.2 78 (S.1 54 32 - 1) := congrFun (hS195.2 78 (by decide)) _
              have e400 : S187.2 78 (S.1 54 32 - 1) = S124.2 78 (S.1 54 32 - 1) := congrFun (hS187.2 78 (by decide)) _
              have e401 : S124.2 78 (S.1 54 32 - 1) = S.2 78 (S.1 54 32 - 1) := congrFun (hS124.2 78 (by decide)) _
              have e402 : S227.2 79 (S.1 54 32 - 1) = S201.2 79 (S.1 54 32 - 1) := congrFun (hS227.2 79 (by decide)) _
              have e403 : S201.2 79 (S.1 54 32 - 1) = S195.2 79 (S.1 54 32 - 1) := congrFun (hS201.2 79 (by decide)) _
              have e404 : S195.2 79 (S.1 54 32 - 1) = S187.2 79 (S.1 54 32 - 1) := congrFun (hS195.2 79 (by decide)) _
              have e405 : S187.2 79 (S.1 54 32 - 1) = S124.2 79 (S.1 54 32 - 1) := congrFun (hS187.2 79 (by decide)) _
              have e406 : S124.2 79 (S.1 54 32 - 1) = S.2 79 (S.1 54 32 - 1) := congrFun (hS124.2 79 (by decide)) _
              have e407 : S227.2 80 (S.1 54 32 - 1) = S201.2 80 (S.1 54 32 - 1) := congrFun (hS227.2 80 (by decide)) _
              have e408 : S201.2 80 (S.1 54 32 - 1) = S195.2 80 (S.1 54 32 - 1) := congrFun (hS201.2 80 (by decide)) _
              have e409 : S195.2 80 (S.1 54 32 - 1) = S187.2 80 (S.1 54 32 - 1) := congrFun (hS195.2 80 (by decide)) _
              have e410 : S187.2 80 (S.1 54 32 - 1) = S124.2 80 (S.1 54 32 - 1) := congrFun (hS187.2 80 (by decide)) _
              have e411 := hS124v (S.1 54 32 - 1)
              have e412 : S227.2 81 (S.1 54 32 - 1) = S201.2 81 (S.1 54 32 - 1) := congrFun (hS227.2 81 (by decide)) _
              have e413 : S201.2 81 (S.1 54 32 - 1) = S195.2 81 (S.1 54 32 - 1) := congrFun (hS201.2 81 (by decide)) _
              have e414 : S195.2 81 (S.1 54 32 - 1) = S187.2 81 (S.1 54 32 - 1) := congrFun (hS195.2 81 (by decide)) _
              have e415 : S187.2 81 (S.1 54 32 - 1) = S124.2 81 (S.1 54 32 - 1) := congrFun (hS187.2 81 (by decide)) _
              have e416 : S124.2 81 (S.1 54 32 - 1) = S.2 81 (S.1 54 32 - 1) := congrFun (hS124.2 81 (by decide)) _
              have e417 : S227.2 82 (S.1 54 32 - 1) = S201.2 82 (S.1 54 32 - 1) := congrFun (hS227.2 82 (by decide)) _
              have e418 : S201.2 82 (S.1 54 32 - 1) = S195.2 82 (S.1 54 32 - 1) := congrFun (hS201.2 82 (by decide)) _
              have e419 : S195.2 82 (S.1 54 32 - 1) = S187.2 82 (S.1 54 32 - 1) := congrFun (hS195.2 82 (by decide)) _
              have e420 : S187.2 82 (S.1 54 32 - 1) = S124.2 82 (S.1 54 32 - 1) := congrFun (hS187.2 82 (by decide)) _
              have e421 : S124.2 82 (S.1 54 32 - 1) = S.2 82 (S.1 54 32 - 1) := congrFun (hS124.2 82 (by decide)) _
              have fb := fl_z (S := S227) (o := (S.1 54 32 - 1)) (by omega)
              have fa := fl_01 (S := S) (x := (S.1 54 32 - 1))
              have fa0 := fl_z (S := S) (o := (S.1 54 32 - 1)) (by omega)
              exact hK (1) S227 (Ch.wk (Ch.tr (Ch.tr (Ch.tr (Ch.tr hS124 hS187) hS195) hS201) hS227) (by decide) (by decide)) (by omega) (by omega) (by omega) (PW.mv n187_2 (((Ch.tr (Ch.tr hS195 hS201) hS227)).1 25 (by decide)) (((Ch.tr (Ch.tr hS195 hS201) hS227)).2 72 (by decide))) (BW.mv2 n187_3 (((Ch.tr (Ch.tr hS195 hS201) hS227)).1 25 (by decide)) (((Ch.tr (Ch.tr hS195 hS201) hS227)).2 75 (by decide))) (OWI_step (o := (S.1 54 32 - 1)) (Ch.wk (Ch.tr (Ch.tr (Ch.tr (Ch.tr hS124 hS187) hS195) hS201) hS227) (by decide) (by decide)) (by omega) (by omega) (by omega) p10 (by
                    intro x
                    have e324 : S227.2 77 x = S201.2 77 x := congrFun (hS227.2 77 (by decide)) _
                    have e325 : S201.2 77 x = S195.2 77 x := congrFun (hS201.2 77 (by decide)) _
                    have e326 : S195.2 77 x = S187.2 77 x := congrFun (hS195.2 77 (by decide)) _
                    have e327 : S187.2 77 x = S124.2 77 x := congrFun (hS187.2 77 (by decide)) _
                    have e328 : S124.2 77 x = S.2 77 x := congrFun (hS124.2 77 (by decide)) _
                    omega) (by
                    intro x
                    have e329 : S227.2 78 x = S201.2 78 x := congrFun (hS227.2 78 (by decide)) _
                    have e330 : S201.2 78 x = S195.2 78 x := congrFun (hS201.2 78 (by decide)) _
                    have e331 : S195.2 78 x = S187.2 78 x := congrFun (hS195.2 78 (by decide)) _
                    have e332 : S187.2 78 x = S124.2 78 x := congrFun (hS187.2 78 (by decide)) _
                    have e333 : S124.2 78 x = S.2 78 x := congrFun (hS124.2 78 (by decide)) _
                    omega) (by
                    intro x
                    have e334 : S227.2 79 x = S201.2 79 x := congrFun (hS227.2 79 (by decide)) _
                    have e335 : S201.2 79 x = S195.2 79 x := congrFun (hS201.2 79 (by decide)) _
                    have e336 : S195.2 79 x = S187.2 79 x := congrFun (hS195.2 79 (by decide)) _
                    have e337 : S187.2 79 x = S124.2 79 x := congrFun (hS187.2 79 (by decide)) _
                    have e338 : S124.2 79 x = S.2 79 x := congrFun (hS124.2 79 (by decide)) _
                    omega) (by
                    intro x
                    have e339 : S227.2 80 x = S201.2 80 x := congrFun (hS227.2 80 (by decide)) _
                    have e340 : S201.2 80 x = S195.2 80 x := congrFun (hS201.2 80 (by decide)) _
                    have e341 : S195.2 80 x = S187.2 80 x := congrFun (hS195.2 80 (by decide)) _
                    have e342 : S187.2 80 x = S124.2 80 x := congrFun (hS187.2 80 (by decide)) _
                    have e343 := hS124v x
                    omega) (by
                    intro x
                    have e344 : S227.2 81 x = S201.2 81 x := congrFun (hS227.2 81 (by decide)) _
                    have e345 : S201.2 81 x = S195.2 81 x := congrFun (hS201.2 81 (by decide)) _
                    have e346 : S195.2 81 x = S187.2 81 x := congrFun (hS195.2 81 (by decide)) _
                    have e347 : S187.2 81 x = S124.2 81 x := congrFun (hS187.2 81 (by decide)) _
                    have e348 : S124.2 81 x = S.2 81 x := congrFun (hS124.2 81 (by decide)) _
                    omega) (by
                    intro x
                    have e349 : S227.2 82 x = S201.2 82 x := congrFun (hS227.2 82 (by decide)) _
                    have e350 : S201.2 82 x = S195.2 82 x := congrFun (hS201.2 82 (by decide)) _
                    have e351 : S195.2 82 x = S187.2 82 x := congrFun (hS195.2 82 (by decide)) _
                    have e352 : S187.2 82 x = S124.2 82 x := congrFun (hS187.2 82 (by decide)) _
                    have e353 : S124.2 82 x = S.2 82 x := congrFun (hS124.2 82 (by decide)) _
                    omega) (Or.inr (owi_top (Ch.wk (Ch.tr (Ch.tr (Ch.tr (Ch.tr hS124 hS187) hS195) hS201) hS227) (by decide) (by decide)) (owi_of p10 (by omega) (by omega)) (by omega) (by omega) (by omega) (by omega) (by omega) (by omega))) (Or.inl (by omega))) (EWI_step (o := (S.1 54 32 - 1)) (by omega) (Ch.wk (Ch.tr (Ch.tr (Ch.tr (Ch.tr hS124 hS187) hS195) hS201) hS227) (by decide) (by decide)) (by omega) p11 (by omega) (by
                    intro x
                    have e354 : S227.2 77 x = S201.2 77 x := congrFun (hS227.2 77 (by decide)) _
                    have e355 : S201.2 77 x = S195.2 77 x := congrFun (hS201.2 77 (by decide)) _
                    have e356 : S195.2 77 x = S187.2 77 x := congrFun (hS195.2 77 (by decide)) _
                    have e357 : S187.2 77 x = S124.2 77 x := congrFun (hS187.2 77 (by decide)) _
                    have e358 : S124.2 77 x = S.2 77 x := congrFun (hS124.2 77 (by decide)) _
                    omega) (by
                    intro x
                    have e359 : S227.2 80 x = S201.2 80 x := congrFun (hS227.2 80 (by decide)) _
                    have e360 : S201.2 80 x = S195.2 80 x := congrFun (hS201.2 80 (by decide)) _
                    have e361 : S195.2 80 x = S187.2 80 x := congrFun (hS195.2 80 (by decide)) _
                    have e362 : S187.2 80 x = S124.2 80 x := congrFun (hS187.2 80 (by decide)) _
                    have e363 := hS124v x
                    omega) (by
                    intro x
                    have e364 : S227.2 81 x = S201.2 81 x := congrFun (hS227.2 81 (by decide)) _
                    have e365 : S201.2 81 x = S195.2 81 x := congrFun (hS201.2 81 (by decide)) _
                    have e366 : S195.2 81 x = S187.2 81 x := congrFun (hS195.2 81 (by decide)) _
                    have e367 : S187.2 81 x = S124.2 81 x := congrFun (hS187.2 81 (by decide)) _
                    have e368 : S124.2 81 x = S.2 81 x := congrFun (hS124.2 81 (by decide)) _
                    omega) (by omega)) (by omega) (by omega)
      · refine ⟨fun h140 => ?_, fun h140 => ?_⟩
        · have e431 : S124.1 54 30 = S.1 54 30 := hS124.1 30 (by decide)
          have e432 : S124.1 54 25 = S.1 54 25 := hS124.1 25 (by decide)
          have e433 : S124.1 54 32 = S.1 54 32 := hS124.1 32 (by decide)
          have e434 : S124.1 54 39 = S.1 54 39 := hS124.1 39 (by decide)
          have e435 : S124.1 54 32 = S.1 54 32 := hS124.1 32 (by decide)
          have e436 := hS124v ((S.1 54 32) - 1)
          have e437 : S124.1 54 39 = S.1 54 39 := hS124.1 39 (by decide)
          have e438 : S124.2 77 (S.1 54 32 - 1) = S.2 77 (S.1 54 32 - 1) := congrFun (hS124.2 77 (by decide)) _
          have e439 : S124.2 78 (S.1 54 32 - 1) = S.2 78 (S.1 54 32 - 1) := congrFun (hS124.2 78 (by decide)) _
          have e440 : S124.2 79 (S.1 54 32 - 1) = S.2 79 (S.1 54 32 - 1) := congrFun (hS124.2 79 (by decide)) _
          have e441 := hS124v (S.1 54 32 - 1)
          have e442 : S124.2 81 (S.1 54 32 - 1) = S.2 81 (S.1 54 32 - 1) := congrFun (hS124.2 81 (by decide)) _
          have e443 : S124.2 82 (S.1 54 32 - 1) = S.2 82 (S.1 54 32 - 1) := congrFun (hS124.2 82 (by decide)) _
          have fb := fl_z (S := S124) (o := (S.1 54 32 - 1)) (by omega)
          have fa := fl_01 (S := S) (x := (S.1 54 32 - 1))
          have fa0 := fl_z (S := S) (o := (S.1 54 32 - 1)) (by omega)
          exact hK (1) S124 (Ch.wk hS124 (by decide) (by decide)) (by omega) (by omega) (by omega) (PW.mv p5 ((hS124).1 25 (by decide)) ((hS124).2 72 (by decide))) (BW.mv2 p6 ((hS124).1 25 (by decide)) ((hS124).2 75 (by decide))) (OWI_step (o := (S.1 54 32 - 1)) (Ch.wk hS124 (by decide) (by decide)) (by omega) (by omega) (by omega) p10 (by
                intro x
                have e422 : S124.2 77 x = S.2 77 x := congrFun (hS124.2 77 (by decide)) _
                omega) (by
                intro x
                have e423 : S124.2 78 x = S.2 78 x := congrFun (hS124.2 78 (by decide)) _
                omega) (by
                intro x
                have e424 : S124.2 79 x = S.2 79 x := congrFun (hS124.2 79 (by decide)) _
                omega) (by
                intro x
                have e425 := hS124v x
                omega) (by
                intro x
                have e426 : S124.2 81 x = S.2 81 x := congrFun (hS124.2 81 (by decide)) _
                omega) (by
                intro x
                have e427 : S124.2 82 x = S.2 82 x := congrFun (hS124.2 82 (by decide)) _
                omega) (Or.inr (owi_top (Ch.wk hS124 (by decide) (by decide)) (owi_of p10 (by omega) (by omega)) (by omega) (by omega) (by omega) (by omega) (by omega) (by omega))) (Or.inl (by omega))) (EWI_step (o := (S.1 54 32 - 1)) (by omega) (Ch.wk hS124 (by decide) (by decide)) (by omega) p11 (by omega) (by
                intro x
                have e428 : S124.2 77 x = S.2 77 x := congrFun (hS124.2 77 (by decide)) _
                omega) (by
                intro x
                have e429 := hS124v x
                omega) (by
                intro x
                have e430 : S124.2 81 x = S.2 81 x := congrFun (hS124.2 81 (by decide)) _
                omega) (by omega)) (by omega) (by omega)
        · refine ⟨by omega, by omega, ?_⟩
          intro q444
          have e445 : S124.2 78 (((S.1 54 32 - 1))) = S.2 78 (((S.1 54 32 - 1))) := congrFun (hS124.2 78 (by decide)) _
          refine ⟨by omega, ?_⟩
          have e446 : S124.1 54 25 = S.1 54 25 := hS124.1 25 (by decide)
          have e447 : S124.1 54 32 = S.1 54 32 := hS124.1 32 (by decide)
          have e448 : S124.1 54 19 = S.1 54 19 := hS124.1 19 (by decide)
          have e449 : S124.1 54 25 = S.1 54 25 := hS124.1 25 (by decide)
          have e450 : S124.1 54 30 = S.1 54 30 := hS124.1 30 (by decide)
          have e451 : S124.1 54 25 = S.1 54 25 := hS124.1 25 (by decide)
          have e452 : S124.2 67 0 = S.2 67 0 := congrFun (hS124.2 67 (by decide)) _
          have e453 : S124.1 54 25 = S.1 54 25 := hS124.1 25 (by decide)
          have e454 : S124.1 54 32 = S.1 54 32 := hS124.1 32 (by decide)
          have e455 : S124.1 54 39 = S.1 54 39 := hS124.1 39 (by decide)
          have e456 : S124.1 54 25 = S.1 54 25 := hS124.1 25 (by decide)
          have e457 : S124.1 54 19 = S.1 54 19 := hS124.1 19 (by decide)
          have e458 : S124.1 54 39 = S.1 54 39 := hS124.1 39 (by decide)
          have e459 : S124.1 54 32 = S.1 54 32 := hS124.1 32 (by decide)
          have e460 : S124.1 54 32 = S.1 54 32 := hS124.1 32 (by decide)
          have e461 : S124.1 54 32 = S.1 54 32 := hS124.1 32 (by decide)
          have e462 : S124.1 54 32 = S.1 54 32 := hS124.1 32 (by decide)
          have e463 : S124.1 54 32 = S.1 54 32 := hS124.1 32 (by decide)
          have e464 : S124.1 54 32 = S.1 54 32 := hS124.1 32 (by decide)
          refine tX11_child (by omega) (by omega) (by omega) (by omega) (by omega) (by omega) (by omega) (by omega) (by omega) (PW.mv p5 ((hS124).1 25 (by decide)) ((hS124).2 72 (by decide))) (BW.mv2 p6 ((hS124).1 25 (by decide)) ((hS124).2 75 (by decide))) (OK0.mv p7  ((hS124).2 59 (by decide)) ((hS124).2 67 (by decide)) ((hS124).2 68 (by decide)) ((hS124).2 69 (by decide))) (by omega) (fun r156 S156 hS156 n156_0 n156_1 n156_2 n156_3 n156_4 n156_5 n156_6 n156_7 n156_8 n156_9 n156_10 n156_11 => ?_)
          refine ⟨by omega, ?_⟩
          refine ⟨fun h159 => ?_, fun h159 => ?_⟩
          · have e483 := n156_9 ((S.1 54 32) - 1)
            have e484 := hS124v ((S.1 54 32) - 1)
            have e485 := n156_6 (S.1 54 32 - 1)
            have e486 : S124.2 77 (S.1 54 32 - 1) = S.2 77 (S.1 54 32 - 1) := congrFun (hS124.2 77 (by decide)) _
            have e487 := n156_7 (S.1 54 32 - 1)
            have e488 : S124.2 78 (S.1 54 32 - 1) = S.2 78 (S.1 54 32 - 1) := congrFun (hS124.2 78 (by decide)) _
            have e489 := n156_8 (S.1 54 32 - 1)
            have e490 : S124.2 79 (S.1 54 32 - 1) = S.2 79 (S.1 54 32 - 1) := congrFun (hS124.2 79 (by decide)) _
            have e491 := n156_9 (S.1 54 32 - 1)
            have e492 := hS124v (S.1 54 32 - 1)
            have e493 := n156_10 (S.1 54 32 - 1)
            have e494 : S124.2 81 (S.1 54 32 - 1) = S.2 81 (S.1 54 32 - 1) := congrFun (hS124.2 81 (by decide)) _
            have e495 := n156_11 (S.1 54 32 - 1)
            have e496 : S124.2 82 (S.1 54 32 - 1) = S.2 82 (S.1 54 32 - 1) := congrFun (hS124.2 82 (by decide)) _
            have hop : S124.1 54 32 = (S.1 54 32 - 1) + 1 := by omega
            rw [hop] at n156_4
            have fb := fl_z (S := S156) (o := (S.1 54 32 - 1)) (by omega)
            have fa := fl_01 (S := S) (x := (S.1 54 32 - 1))
            have fa0 := fl_z (S := S) (o := (S.1 54 32 - 1)) (by omega)
            exact hK (0) S156 (Ch.wk (Ch.tr hS124 hS156) (by decide) (by decide)) (by omega) (by omega) (by omega) n156_2 n156_3 (OWI_step (o := (S.1 54 32 - 1)) (Ch.wk (Ch.tr hS124 hS156) (by decide) (by decide)) (by omega) (by omega) (by omega) p10 (by
                  intro x
                  have e465 := n156_6 x
                  have e466 : S124.2 77 x = S.2 77 x := congrFun (hS124.2 77 (by decide)) _
                  omega) (by
                  intro x
                  have e467 := n156_7 x
                  have e468 : S124.2 78 x = S.2 78 x := congrFun (hS124.2 78 (by decide)) _
                  omega) (by
                  intro x
                  have e469 := n156_8 x
                  have e470 : S124.2 79 x = S.2 79 x := congrFun (hS124.2 79 (by decide)) _
                  omega) (by
                  intro x
                  have e471 := n156_9 x
                  have e472 := hS124v x
                  omega) (by
                  intro x
                  have e473 := n156_10 x
                  have e474 : S124.2 81 x = S.2 81 x := congrFun (hS124.2 81 (by decide)) _
                  omega) (by
                  intro x
                  have e475 := n156_11 x
                  have e476 : S124.2 82 x = S.2 82 x := congrFun (hS124.2 82 (by decide)) _
                  omega) (Or.inr (owi_top (Ch.wk (Ch.tr hS124 hS156) (by decide) (by decide)) (owi_of p10 (by omega) (by omega)) (by omega) (by omega) (by omega) (by omega) (by omega) (by omega))) (by
                  rcases n156_4 with ⟨k1, k2, k3, k4⟩ | ⟨k1, k2, k3, k4⟩ | ⟨k1, k2, k3, k4, k5, ⟨m1, m2, m3, m4, m5, m6⟩, m7⟩
                  · exact Or.inl (by omega)
                  · exact Or.inl (by omega)
                  · refine Or.inr (owi_new (Ch.wk (Ch.tr hS124 hS156) (by decide) (by decide)) (by omega) (by omega) ?_ (by omega) ?_ (by omega) (by omega) (by omega))
                    · rw [m3]
                      omega
                    · rw [m1]
                      have hs2 := m7
                      rw [(show S124.2 56 = S.2 56 from (hS124).2 56 (by decide)), (show S124.2 68 = S.2 68 from (hS124).2 68 (by decide))] at hs2
                      exact hs2)) (EWI_step (o := (S.1 54 32 - 1)) (by omega) (Ch.wk (Ch.tr hS124 hS156) (by decide) (by decide)) (by omega) p11 (by omega) (by
                  intro x
                  have e477 := n156_6 x
                  have e478 : S124.2 77 x = S.2 77 x := congrFun (hS124.2 77 (by decide)) _
                  omega) (by
                  intro x
                  have e479 := n156_9 x
                  have e480 := hS124v x
                  omega) (by
                  intro x
                  have e481 := n156_10 x
                  have e482 : S124.2 81 x = S.2 81 x := congrFun (hS124.2 81 (by decide)) _
                  omega) (by omega)) (by omega) (by omega)
          · have e515 := n156_9 ((S.1 54 32) - 1)
            have e516 := hS124v ((S.1 54 32) - 1)
            have e517 := n156_6 (S.1 54 32 - 1)
            have e518 : S124.2 77 (S.1 54 32 - 1) = S.2 77 (S.1 54 32 - 1) := congrFun (hS124.2 77 (by decide)) _
            have e519 := n156_7 (S.1 54 32 - 1)
            have e520 : S124.2 78 (S.1 54 32 - 1) = S.2 78 (S.1 54 32 - 1) := congrFun (hS124.2 78 (by decide)) _
            have e521 := n156_8 (S.1 54 32 - 1)
            have e522 : S124.2 79 (S.1 54 32 - 1) = S.2 79 (S.1 54 32 - 1) := congrFun (hS124.2 79 (by decide)) _
            have e523 := n156_9 (S.1 54 32 - 1)
            have e524 := hS124v (S.1 54 32 - 1)
            have e525 := n156_10 (S.1 54 32 - 1)
            have e526 : S124.2 81 (S.1 54 32 - 1) = S.2 81 (S.1 54 32 - 1) := congrFun (hS124.2 81 (by decide)) _
            have e527 := n156_11 (S.1 54 32 - 1)
            have e528 : S124.2 82 (S.1 54 32 - 1) = S.2 82 (S.1 54 32 - 1) := congrFun (hS124.2 82 (by decide)) _
            have hop : S124.1 54 32 = (S.1 54 32 - 1) + 1 := by omega
            rw [hop] at n156_4
            have fb := fl_z (S := S156) (o := (S.1 54 32 - 1)) (by omega)
            have fa := fl_01 (S := S) (x := (S.1 54 32 - 1))
            have fa0 := fl_z (S := S) (o := (S.1 54 32 - 1)) (by omega)
            exact hK (1) S156 (Ch.wk (Ch.tr hS124 hS156) (by decide) (by decide)) (by omega) (by omega) (by omega) n156_2 n156_3 (OWI_step (o := (S.1 54 32 - 1)) (Ch.wk (Ch.tr hS124 hS156) (by decide) (by decide)) (by omega) (by omega) (by omega) p10 (by
                  intro x
                  have e497 := n156_6 x
                  have e498 : S124.2 77 x = S.2 77 x := congrFun (hS124.2 77 (by decide)) _
                  omega) (by
                  intro x
                  have e499 := n156_7 x
                  have e500 : S124.2 78 x = S.2 78 x := congrFun (hS124.2 78 (by decide)) _
                  omega) (by
                  intro x
                  have e501 := n156_8 x
                  have e502 : S124.2 79 x = S.2 79 x := congrFun (hS124.2 79 (by decide)) _
                  omega) (by
                  intro x
                  have e503 := n156_9 x
                  have e504 := hS124v x
                  omega) (by
                  intro x
                  have e505 := n156_10 x
                  have e506 : S124.2 81 x = S.2 81 x := congrFun (hS124.2 81 (by decide)) _
                  omega) (by
                  intro x
                  have e507 := n156_11 x
                  have e508 : S124.2 82 x = S.2 82 x := congrFun (hS124.2 82 (by decide)) _
                  omega) (Or.inr (owi_top (Ch.wk (Ch.tr hS124 hS156) (by decide) (by decide)) (owi_of p10 (by omega) (by omega)) (by omega) (by omega) (by omega) (by omega) (by omega) (by omega))) (by
                  rcases n156_4 with ⟨k1, k2, k3, k4⟩ | ⟨k1, k2, k3, k4⟩ | ⟨k1, k2, k3, k4, k5, ⟨m1, m2, m3, m4, m5, m6⟩, m7⟩
                  · exact Or.inl (by omega)
                  · exact Or.inl (by omega)
                  · refine Or.inr (owi_new (Ch.wk (Ch.tr hS124 hS156) (by decide) (by decide)) (by omega) (by omega) ?_ (by omega) ?_ (by omega) (by omega) (by omega))
                    · rw [m3]
                      omega
                    · rw [m1]
                      have hs2 := m7
                      rw [(show S124.2 56 = S.2 56 from (hS124).2 56 (by decide)), (show S124.2 68 = S.2 68 from (hS124).2 68 (by decide))] at hs2
                      exact hs2)) (EWI_step (o := (S.1 54 32 - 1)) (by omega) (Ch.wk (Ch.tr hS124 hS156) (by decide) (by decide)) (by omega) p11 (by omega) (by
                  intro x
                  have e509 := n156_6 x
                  have e510 : S124.2 77 x = S.2 77 x := congrFun (hS124.2 77 (by decide)) _
                  omega) (by
                  intro x
                  have e511 := n156_9 x
                  have e512 := hS124v x
                  omega) (by
                  intro x
                  have e513 := n156_10 x
                  have e514 : S124.2 81 x = S.2 81 x := congrFun (hS124.2 81 (by decide)) _
                  omega) (by omega)) (by omega) (by omega)
    · refine ⟨by omega, ?_⟩
      refine ⟨by omega, ?_⟩
      refine tX11_lists (by omega) (by omega) (by omega) (by omega) (by omega) (by omega) (by omega) (by omega) (by omega) (p5) (p6) (p7) (p8) (p9) (p10) (p11) (by omega) (by omega) (by omega) (by omega) (by omega) (by omega) (by omega) (fun r111 S111 hS111 n111_0 n111_1 n111_2 n111_3 n111_4 n111_5 n111_6 n111_7 n111_8 => ?_)
      refine ⟨by omega, ?_⟩
      exact hK (r111) S111 (Ch.wk hS111 (by decide) (by decide)) (by omega) (n111_1) (n111_2) n111_3 n111_4 n111_5 n111_6 (by omega) (by omega)
  · refine ⟨by omega, ?_⟩
    intro S49 hS49e
    have hS49 : Ch [32] [] S S49 := Ch_I hS49e
    have hS49v : S49.1 54 32 = (S.1 54 32 - 1) := pI_at hS49e
    refine ⟨by omega, by omega, ?_⟩
    intro q529
    have e530 : S49.2 79 (((S.1 54 32 - 1))) = S.2 79 (((S.1 54 32 - 1))) := congrFun (hS49.2 79 (by decide)) _
    have hsz : 1 ≤ S.2 57 (S49.2 79 (S.1 54 32 - 1)) := by
      rw [(show S49.2 79 = S.2 79 from (hS49).2 79 (by decide))]
      omega
    have e531 : S49.1 54 39 = S.1 54 39 := hS49.1 39 (by decide)
    have e532 : S49.1 54 39 = S.1 54 39 := hS49.1 39 (by decide)
    have e533 : S49.1 54 39 = S.1 54 39 := hS49.1 39 (by decide)
    refine tX11_end (by omega) (fun r59 S59 hS59 n59_0 n59_1 n59_2 => ?_)
    have e552 : S59.1 54 30 = S49.1 54 30 := hS59.1 30 (by decide)
    have e553 : S49.1 54 30 = S.1 54 30 := hS49.1 30 (by decide)
    have e554 : S59.1 54 25 = S49.1 54 25 := hS59.1 25 (by decide)
    have e555 : S49.1 54 25 = S.1 54 25 := hS49.1 25 (by decide)
    have e556 : S59.1 54 32 = S49.1 54 32 := hS59.1 32 (by decide)
    have e557 : S59.1 54 32 = S49.1 54 32 := hS59.1 32 (by decide)
    have e558 : S59.2 80 ((S.1 54 32) - 1) = S49.2 80 ((S.1 54 32) - 1) := congrFun (hS59.2 80 (by decide)) _
    have e559 : S49.2 80 ((S.1 54 32) - 1) = S.2 80 ((S.1 54 32) - 1) := congrFun (hS49.2 80 (by decide)) _
    have e560 : S59.2 77 (S.1 54 32 - 1) = S49.2 77 (S.1 54 32 - 1) := congrFun (hS59.2 77 (by decide)) _
    have e561 : S49.2 77 (S.1 54 32 - 1) = S.2 77 (S.1 54 32 - 1) := congrFun (hS49.2 77 (by decide)) _
    have e562 : S59.2 78 (S.1 54 32 - 1) = S49.2 78 (S.1 54 32 - 1) := congrFun (hS59.2 78 (by decide)) _
    have e563 : S49.2 78 (S.1 54 32 - 1) = S.2 78 (S.1 54 32 - 1) := congrFun (hS49.2 78 (by decide)) _
    have e564 : S59.2 79 (S.1 54 32 - 1) = S49.2 79 (S.1 54 32 - 1) := congrFun (hS59.2 79 (by decide)) _
    have e565 : S49.2 79 (S.1 54 32 - 1) = S.2 79 (S.1 54 32 - 1) := congrFun (hS49.2 79 (by decide)) _
    have e566 : S59.2 80 (S.1 54 32 - 1) = S49.2 80 (S.1 54 32 - 1) := congrFun (hS59.2 80 (by decide)) _
    have e567 : S49.2 80 (S.1 54 32 - 1) = S.2 80 (S.1 54 32 - 1) := congrFun (hS49.2 80 (by decide)) _
    have e568 : S59.2 81 (S.1 54 32 - 1) = S49.2 81 (S.1 54 32 - 1) := congrFun (hS59.2 81 (by decide)) _
    have e569 : S49.2 81 (S.1 54 32 - 1) = S.2 81 (S.1 54 32 - 1) := congrFun (hS49.2 81 (by decide)) _
    have e570 : S59.2 82 (S.1 54 32 - 1) = S49.2 82 (S.1 54 32 - 1) := congrFun (hS59.2 82 (by decide)) _
    have e571 : S49.2 82 (S.1 54 32 - 1) = S.2 82 (S.1 54 32 - 1) := congrFun (hS49.2 82 (by decide)) _
    have fa := fl_01 (S := S) (x := (S.1 54 32 - 1))
    exact hK (1) S59 (Ch.wk (Ch.tr hS49 hS59) (by decide) (by decide)) (by omega) (by omega) (by omega) (PW.mv p5 (((Ch.tr hS49 hS59)).1 25 (by decide)) (((Ch.tr hS49 hS59)).2 72 (by decide))) (BW.mv2 p6 (((Ch.tr hS49 hS59)).1 25 (by decide)) (((Ch.tr hS49 hS59)).2 75 (by decide))) (OWI_step (o := (S.1 54 32 - 1)) (Ch.wk (Ch.tr hS49 hS59) (by decide) (by decide)) (by omega) (by omega) (by omega) p10 (by
          intro x
          have e534 : S59.2 77 x = S49.2 77 x := congrFun (hS59.2 77 (by decide)) _
          have e535 : S49.2 77 x = S.2 77 x := congrFun (hS49.2 77 (by decide)) _
          omega) (by
          intro x
          have e536 : S59.2 78 x = S49.2 78 x := congrFun (hS59.2 78 (by decide)) _
          have e537 : S49.2 78 x = S.2 78 x := congrFun (hS49.2 78 (by decide)) _
          omega) (by
          intro x
          have e538 : S59.2 79 x = S49.2 79 x := congrFun (hS59.2 79 (by decide)) _
          have e539 : S49.2 79 x = S.2 79 x := congrFun (hS49.2 79 (by decide)) _
          omega) (by
          intro x
          have e540 : S59.2 80 x = S49.2 80 x := congrFun (hS59.2 80 (by decide)) _
          have e541 : S49.2 80 x = S.2 80 x := congrFun (hS49.2 80 (by decide)) _
          omega) (by
          intro x
          have e542 : S59.2 81 x = S49.2 81 x := congrFun (hS59.2 81 (by decide)) _
          have e543 : S49.2 81 x = S.2 81 x := congrFun (hS49.2 81 (by decide)) _
          omega) (by
          intro x
          have e544 : S59.2 82 x = S49.2 82 x := congrFun (hS59.2 82 (by decide)) _
          have e545 : S49.2 82 x = S.2 82 x := congrFun (hS49.2 82 (by decide)) _
          omega) (Or.inl (by omega)) (Or.inl (by omega))) (EWI_step (o := (S.1 54 32 - 1)) (by omega) (Ch.wk (Ch.tr hS49 hS59) (by decide) (by decide)) (by omega) p11 (by omega) (by
          intro x
          have e546 : S59.2 77 x = S49.2 77 x := congrFun (hS59.2 77 (by decide)) _
          have e547 : S49.2 77 x = S.2 77 x := congrFun (hS49.2 77 (by decide)) _
          omega) (by
          intro x
          have e548 : S59.2 80 x = S49.2 80 x := congrFun (hS59.2 80 (by decide)) _
          have e549 : S49.2 80 x = S.2 80 x := congrFun (hS49.2 80 (by decide)) _
          omega) (by
          intro x
          have e550 : S59.2 81 x = S49.2 81 x := congrFun (hS59.2 81 (by decide)) _
          have e551 : S49.2 81 x = S.2 81 x := congrFun (hS49.2 81 (by decide)) _
          omega) (by omega)) (by omega) (by omega)
