set_option maxRecDepth 100000 in
set_option maxHeartbeats 4000000 in
theorem tX11_isAround {a1 a2 : Int} {S : St} {K : Int → St → Prop} (p1 : PW S) (p2 : iv (-2) 899 a2) (p3 : a2 < (S.1 54 25)) (hK : ∀ (r : Int), (iv 0 1 r) → K r S) : wX11_isAround a1 a2 S K := by
  unfold wX11_isAround
  intro g1 g2
  unfold wX11_isAround_2
  refine ⟨fun u1 u3 Sx => S = Sx ∧ a1 = u1 ∧ (iv (-2) 899 u3) ∧ (u3 < (S.1 54 25)), fun u1 u3 Sx => (u3 + 3).toNat, ?_, fun v2_1 v2_3 S2h hI => ?_⟩
  · exact ⟨rfl, rfl, by omega, by omega⟩
  obtain ⟨rfl, rfl, i2_0, i2_1⟩ := hI
  unfold wX11_isAround_2'
  refine ⟨by omega, ?_⟩
  refine ⟨fun h3 => ?_, fun h3 => ?_⟩
  · unfold wX11_isAround_21
    refine ⟨by omega, ?_⟩
    refine ⟨by omega, ?_⟩
    refine ⟨fun h23 => ?_, fun h23 => ?_⟩
    · exact hK (0) (by omega)
    · exact hK (1) (by omega)
  · refine ⟨by omega, ?_⟩
    refine ⟨fun h8 => ?_, fun h8 => ?_⟩
    · unfold wX11_isAround_21
      refine ⟨by omega, ?_⟩
      refine ⟨by omega, ?_⟩
      refine ⟨fun h23 => ?_, fun h23 => ?_⟩
      · exact hK (0) (by omega)
      · exact hK (1) (by omega)
    · have hpw := p1 (v2_3)
      refine ⟨by omega, by omega, ?_⟩
      intro q1
      intro x17 hx17
      subst hx17
      exact ⟨⟨rfl, rfl, by omega, by omega⟩, show (((S.2 72 (v2_3))) + 3).toNat < (v2_3 + 3).toNat by omega⟩

set_option maxRecDepth 100000 in
set_option maxHeartbeats 4000000 in
theorem tX11_putStep {a1 : Int} {S : St} {K : Int → St → Prop} (p1 : iv 0 899 a1) (p2 : (S.1 54 39) ≤ 3001) (hK : ∀ (r : Int) (S' : St), Ch [39] [83] S S' → ((S.1 54 39) ≤ (S'.1 54 39)) → ((S'.1 54 39) ≤ 3001) → K r S') : wX11_putStep a1 S K := by
  unfold wX11_putStep
  intro g1
  refine ⟨by omega, by omega, ?_⟩
  intro q1
  refine tX11_putName (by omega) (by omega) (fun r7 S7 hS7 n7_0 n7_1 n7_2 => ?_)
  refine ⟨by omega, by omega, ?_⟩
  intro q2
  have e3 : S7.2 74 (a1) = S.2 74 (a1) := congrFun (hS7.2 74 (by decide)) _
  refine ⟨fun h17 => ?_, fun h17 => ?_⟩
  · exact hK (0) S7 (Ch.wk hS7 (by decide) (by decide)) (by omega) (by omega)
  · refine tX11_put  (fun r23 S23 hS23 n23_0 n23_1 => ?_)
    refine ⟨by omega, by omega, ?_⟩
    intro q4
    have e5 : S23.2 74 (a1) = S7.2 74 (a1) := congrFun (hS23.2 74 (by decide)) _
    have e6 : S7.2 74 (a1) = S.2 74 (a1) := congrFun (hS7.2 74 (by decide)) _
    refine tX11_putNumber (by omega) (fun r33 S33 hS33 n33_0 n33_1 => ?_)
    refine tX11_put  (fun r39 S39 hS39 n39_0 n39_1 => ?_)
    exact hK (0) S39 (Ch.wk (Ch.tr (Ch.tr (Ch.tr hS7 hS23) hS33) hS39) (by decide) (by decide)) (by omega) (by omega)

set_option maxRecDepth 100000 in
set_option maxHeartbeats 4000000 in
theorem tX11_putSteps {a1 a2 a3 : Int} {S : St} {K : Int → St → Prop} (p1 : PW S) (p2 : iv 0 899 a1) (p3 : a1 < (S.1 54 25)) (p4 : iv (-2) 899 a2) (p5 : a2 < (S.1 54 25)) (p6 : iv 0 1 a3) (p7 : (S.1 54 39) ≤ 3001) (hK : ∀ (r : Int) (S' : St), Ch [39] [83] S S' → ((S.1 54 39) ≤ (S'.1 54 39)) → ((S'.1 54 39) ≤ 3001) → K r S') : wX11_putSteps a1 a2 a3 S K := by
  unfold wX11_putSteps
  intro g1 g2 g3
  unfold wX11_putSteps_6
  refine ⟨fun u1 u2 u3 u4 u5 Sx => S = Sx ∧ a1 = u1 ∧ a2 = u2 ∧ a3 = u3 ∧ (iv (-2) 899 u5) ∧ (u5 < (S.1 54 25)) ∧ (0 ≤ u4) ∧ (u4 ≤ a1 + 1) ∧ (u5 < 0 ∨ u4 + u5 ≤ a1) ∧ (u5 = itp S a1 u4.toNat) ∧ (∀ x, x < 0 ∨ u4 ≤ x ∨ 0 ≤ itp S a1 x.toNat), fun u1 u2 u3 u4 u5 Sx => (u5 + 3).toNat, ?_, fun v6_1 v6_2 v6_3 v6_4 v6_5 S6h hI => ?_⟩
  · exact ⟨rfl, rfl, rfl, rfl, by omega, by omega, by omega, by omega, by omega, rfl, (by
        intro x
        omega)⟩
  obtain ⟨rfl, rfl, rfl, rfl, i6_0, i6_1, i6_2, i6_3, i6_4, i6_5, i6_6⟩ := hI
  unfold wX11_putSteps_6'
  refine ⟨by omega, ?_⟩
  refine ⟨fun h8 => ?_, fun h8 => ?_⟩
  · intro x33 hx33
    subst hx33
    unfold wX11_putSteps_35
    refine ⟨fun u1 u2 u5 u6 Sx => Ch [39] [83] S Sx ∧ a1 = u1 ∧ a2 = u2 ∧ (-1 ≤ u6) ∧ (u6 ≤ a1) ∧ (iv 0 1 u5) ∧ (∀ x, x < 0 ∨ u6 < x ∨ 0 ≤ itp S a1 x.toNat) ∧ ((S.1 54 39) ≤ (Sx.1 54 39)) ∧ ((Sx.1 54 39) ≤ 3001), fun u1 u2 u5 u6 Sx => (u6 + 2).toNat, ?_, fun v35_1 v35_2 v35_5 v35_6 S35h hI => ?_⟩
    · exact ⟨Ch.re, rfl, rfl, by omega, by omega, by omega, (by
          intro x
          have e1 := i6_6 x
          omega), by omega, by omega⟩
    obtain ⟨hS35h, rfl, rfl, i35_0, i35_1, i35_2, i35_3, i35_4, i35_5⟩ := hI
    unfold wX11_putSteps_35'
    refine ⟨by omega, ?_⟩
    refine ⟨fun h37 => ?_, fun h37 => ?_⟩
    · exact hK (0) S35h (Ch.wk hS35h (by decide) (by decide)) (by omega) (by omega)
    · unfold wX11_putSteps_46
      refine ⟨fun u1 u2 u5 u6 u7 u8 Sx => S35h = Sx ∧ a1 = u1 ∧ a2 = u2 ∧ v35_5 = u5 ∧ v35_6 = u6 ∧ (0 ≤ u8) ∧ (u8 ≤ u6) ∧ (iv (-2) 899 u7) ∧ (u7 = itp S a1 u8.toNat), fun u1 u2 u5 u6 u7 u8 Sx => (u6 - u8 + 1).toNat, ?_, fun v46_1 v46_2 v46_5 v46_6 v46_7 v46_8 S46h hI => ?_⟩
      · exact ⟨rfl, rfl, rfl, rfl, rfl, by omega, by omega, by omega, rfl⟩
      obtain ⟨rfl, rfl, rfl, rfl, rfl, i46_0, i46_1, i46_2, i46_3⟩ := hI
      unfold wX11_putSteps_46'
      refine ⟨by omega, ?_⟩
      refine ⟨by omega, ?_⟩
      refine ⟨fun h50 => ?_, fun h50 => ?_⟩
      · have hx := i35_3 v46_8
        refine ⟨by omega, ?_⟩
        refine ⟨fun h71 => ?_, fun h71 => ?_⟩
        · unfold wX11_putSteps_84
          refine ⟨by omega, ?_⟩
          refine ⟨fun h86 => ?_, fun h86 => ?_⟩
          · unfold wX11_putSteps_95
            refine ⟨by omega, ?_⟩
            refine tX11_putStep (by omega) (by omega) (fun r98 S98 hS98 n98_0 n98_1 => ?_)
            unfold wX11_putSteps_104
            exact ⟨⟨(Ch.wk (Ch.tr hS35h hS98) (by decide) (by decide)), rfl, rfl, by omega, by omega, by omega, (by
                  intro x
                  have e2 := i35_3 x
                  omega), by omega, by omega⟩, show (((v35_6 + (-1))) + 2).toNat < (v35_6 + 2).toNat by omega⟩
          · refine tX11_put  (fun r92 S92 hS92 n92_0 n92_1 => ?_)
            unfold wX11_putSteps_95
            refine ⟨by omega, ?_⟩
            refine tX11_putStep (by omega) (by omega) (fun r98 S98 hS98 n98_0 n98_1 => ?_)
            unfold wX11_putSteps_104
            exact ⟨⟨(Ch.wk (Ch.tr (Ch.tr hS35h hS92) hS98) (by decide) (by decide)), rfl, rfl, by omega, by omega, by omega, (by
                  intro x
                  have e3 := i35_3 x
                  omega), by omega, by omega⟩, show (((v35_6 + (-1))) + 2).toNat < (v35_6 + 2).toNat by omega⟩
        · refine ⟨by omega, ?_⟩
          have e4 : S35h.1 54 25 = S.1 54 25 := hS35h.1 25 (by decide)
          refine tX11_isAround (PW.mv p1 ((hS35h).1 25 (by decide)) ((hS35h).2 72 (by decide))) (by omega) (by omega) (fun r78 n78_0 => ?_)
          refine ⟨by omega, ?_⟩
          refine ⟨fun h81 => ?_, fun h81 => ?_⟩
          · unfold wX11_putSteps_104
            exact ⟨⟨(Ch.wk hS35h (by decide) (by decide)), rfl, rfl, by omega, by omega, by omega, (by
                  intro x
                  have e5 := i35_3 x
                  omega), by omega, by omega⟩, show (((v35_6 + (-1))) + 2).toNat < (v35_6 + 2).toNat by omega⟩
          · unfold wX11_putSteps_84
            refine ⟨by omega, ?_⟩
            refine ⟨fun h86 => ?_, fun h86 => ?_⟩
            · unfold wX11_putSteps_95
              refine ⟨by omega, ?_⟩
              refine tX11_putStep (by omega) (by omega) (fun r98 S98 hS98 n98_0 n98_1 => ?_)
              unfold wX11_putSteps_104
              exact ⟨⟨(Ch.wk (Ch.tr hS35h hS98) (by decide) (by decide)), rfl, rfl, by omega, by omega, by omega, (by
                    intro x
                    have e6 := i35_3 x
                    omega), by omega, by omega⟩, show (((v35_6 + (-1))) + 2).toNat < (v35_6 + 2).toNat by omega⟩
            · refine tX11_put  (fun r92 S92 hS92 n92_0 n92_1 => ?_)
              unfold wX11_putSteps_95
              refine ⟨by omega, ?_⟩
              refine tX11_putStep (by omega) (by omega) (fun r98 S98 hS98 n98_0 n98_1 => ?_)
              unfold wX11_putSteps_104
              exact ⟨⟨(Ch.wk (Ch.tr (Ch.tr hS35h hS92) hS98) (by decide) (by decide)), rfl, rfl, by omega, by omega, by omega, (by
                    intro x
                    have e7 := i35_3 x
                    omega), by omega, by omega⟩, show (((v35_6 + (-1))) + 2).toNat < (v35_6 + 2).toNat by omega⟩
      · have hx := i35_3 v46_8
        refine ⟨by omega, by omega, ?_⟩
        intro q8
        have e9 : S35h.2 72 (v46_7) = S.2 72 (v46_7) := congrFun (hS35h.2 72 (by decide)) _
        intro x60 hx60
        subst hx60
        exact ⟨⟨rfl, rfl, rfl, rfl, rfl, by omega, by omega, by omega, by rw [itp_succ (by omega), ← i46_3]; exact congrFun (hS35h.2 72 (by decide)) _⟩, show (v35_6 - ((v46_8 + 1)) + 1).toNat < (v35_6 - v46_8 + 1).toNat by omega⟩
  · have hpw := p1 (v6_5)
    refine ⟨by omega, by omega, ?_⟩
    intro q10
    intro x21 hx21
    subst hx21
    exact ⟨⟨rfl, rfl, rfl, rfl, by omega, by omega, by omega, by omega, by omega, by rw [itp_succ (by omega), ← i6_5], (by
          intro x
          have e11 := i6_6 x
          by_cases hx : x = v6_4
          · subst hx
            omega
          · omega)⟩, show (((S.2 72 (v6_5))) + 3).toNat < (v6_5 + 3).toNat by omega⟩

set_option maxRecDepth 100000 in
set_option maxHeartbeats 4000000 in
theorem tX11_putWay {a1 a2 a3 : Int} {S : St} {K : Int → St → Prop} (p1 : PW S) (p2 : iv 0 899 a1) (p3 : a1 < (S.1 54 25)) (p4 : iv 0 899 a2) (p5 : a2 < (S.1 54 25)) (p6 : (S.1 54 39) ≤ 3001) (hK : ∀ (r : Int) (S' : St), Ch [39] [83] S S' → ((S.1 54 39) ≤ (S'.1 54 39)) → ((S'.1 54 39) ≤ 3001) → K r S') : wX11_putWay a1 a2 a3 S K := by
  unfold wX11_putWay
  intro g1 g2 g3
  refine ⟨fun h2 => ?_, fun h2 => ?_⟩
  · unfold wX11_putWay_20
    refine ⟨fun u1 u2 u4 u5 Sx => Ch [39] [83] S Sx ∧ a1 = u1 ∧ a2 = u2 ∧ (iv (-2) 899 u5) ∧ (u5 < (S.1 54 25)) ∧ (iv 0 1 u4) ∧ ((S.1 54 39) ≤ (Sx.1 54 39)) ∧ ((Sx.1 54 39) ≤ 3001), fun u1 u2 u4 u5 Sx => (u5 + 3).toNat, ?_, fun v20_1 v20_2 v20_4 v20_5 S20h hI => ?_⟩
    · exact ⟨Ch.re, rfl, rfl, by omega, by omega, by omega, by omega, by omega⟩
    obtain ⟨hS20h, rfl, rfl, i20_0, i20_1, i20_2, i20_3, i20_4⟩ := hI
    unfold wX11_putWay_20'
    refine ⟨by omega, ?_⟩
    refine ⟨fun h22 => ?_, fun h22 => ?_⟩
    · refine ⟨by omega, ?_⟩
      refine ⟨by omega, ?_⟩
      refine ⟨by omega, ?_⟩
      have e1 : S20h.1 54 25 = S.1 54 25 := hS20h.1 25 (by decide)
      have e2 : S20h.1 54 25 = S.1 54 25 := hS20h.1 25 (by decide)
      refine tX11_putSteps (PW.mv p1 ((hS20h).1 25 (by decide)) ((hS20h).2 72 (by decide))) (by omega) (by omega) (by omega) (by omega) (by omega) (by omega) (fun r78 S78 hS78 n78_0 n78_1 => ?_)
      exact hK (0) S78 (Ch.wk (Ch.tr hS20h hS78) (by decide) (by decide)) (by omega) (by omega)
    · refine ⟨by omega, ?_⟩
      have e3 : S20h.1 54 25 = S.1 54 25 := hS20h.1 25 (by decide)
      refine tX11_isAround (PW.mv p1 ((hS20h).1 25 (by decide)) ((hS20h).2 72 (by decide))) (by omega) (by omega) (fun r29 n29_0 => ?_)
      refine ⟨by omega, ?_⟩
      refine ⟨fun h32 => ?_, fun h32 => ?_⟩
      · unfold wX11_putWay_61
        have hpw := p1 (v20_5)
        refine ⟨by omega, by omega, ?_⟩
        intro q4
        have e5 : S20h.2 72 (v20_5) = S.2 72 (v20_5) := congrFun (hS20h.2 72 (by decide)) _
        intro x68 hx68
        subst hx68
        exact ⟨⟨(Ch.wk hS20h (by decide) (by decide)), rfl, rfl, by omega, by omega, by omega, by omega, by omega⟩, show (((S20h.2 72 (v20_5))) + 3).toNat < (v20_5 + 3).toNat by omega⟩
      · refine ⟨by omega, ?_⟩
        refine ⟨fun h37 => ?_, fun h37 => ?_⟩
        · unfold wX11_putWay_46
          refine tX11_put  (fun r49 S49 hS49 n49_0 n49_1 => ?_)
          refine tX11_put  (fun r55 S55 hS55 n55_0 n55_1 => ?_)
          unfold wX11_putWay_61
          have hpw := p1 (v20_5)
          refine ⟨by omega, by omega, ?_⟩
          intro q6
          have e7 : S55.2 72 (v20_5) = S49.2 72 (v20_5) := congrFun (hS55.2 72 (by decide)) _
          have e8 : S49.2 72 (v20_5) = S20h.2 72 (v20_5) := congrFun (hS49.2 72 (by decide)) _
          have e9 : S20h.2 72 (v20_5) = S.2 72 (v20_5) := congrFun (hS20h.2 72 (by decide)) _
          intro x68 hx68
          subst hx68
          exact ⟨⟨(Ch.wk (Ch.tr (Ch.tr hS20h hS49) hS55) (by decide) (by decide)), rfl, rfl, by omega, by omega, by omega, by omega, by omega⟩, show (((S55.2 72 (v20_5))) + 3).toNat < (v20_5 + 3).toNat by omega⟩
        · refine tX11_put  (fun r43 S43 hS43 n43_0 n43_1 => ?_)
          unfold wX11_putWay_46
          refine tX11_put  (fun r49 S49 hS49 n49_0 n49_1 => ?_)
          refine tX11_put  (fun r55 S55 hS55 n55_0 n55_1 => ?_)
          unfold wX11_putWay_61
          have hpw := p1 (v20_5)
          refine ⟨by omega, by omega, ?_⟩
          intro q10
          have e11 : S55.2 72 (v20_5) = S49.2 72 (v20_5) := congrFun (hS55.2 72 (by decide)) _
          have e12 : S49.2 72 (v20_5) = S43.2 72 (v20_5) := congrFun (hS49.2 72 (by decide)) _
          have e13 : S43.2 72 (v20_5) = S20h.2 72 (v20_5) := congrFun (hS43.2 72 (by decide)) _
          have e14 : S20h.2 72 (v20_5) = S.2 72 (v20_5) := congrFun (hS20h.2 72 (by decide)) _
          intro x68 hx68
          subst hx68
          exact ⟨⟨(Ch.wk (Ch.tr (Ch.tr (Ch.tr hS20h hS43) hS49) hS55) (by decide) (by decide)), rfl, rfl, by omega, by omega, by omega, by omega, by omega⟩, show (((S55.2 72 (v20_5))) + 3).toNat < (v20_5 + 3).toNat by omega⟩
  · refine tX11_putSteps p1 (by omega) (by omega) (by omega) (by omega) (by omega) (by omega) (fun r10 S10 hS10 n10_0 n10_1 => ?_)
    exact hK (0) S10 (Ch.wk hS10 (by decide) (by decide)) (by omega) (by omega)

set_option maxRecDepth 100000 in
set_option maxHeartbeats 4000000 in
theorem tX11_refer {a1 a2 a3 a4 : Int} {S : St} {K : Int → St → Prop} (p1 : iv 0 29 a1) (p2 : iv (-2) 899 a2) (p3 : a2 < (S.1 54 25)) (p4 : iv 0 29 a3) (p5 : (S.1 54 25) ≤ 899) (p6 : PW S) (p7 : BW S) (p8 : 0 ≤ (S.2 75) a1) (p9 : (S.1 54 39) ≤ 3001) (hK : ∀ (r : Int) (S' : St), Ch [25, 39] [72, 73, 74, 83] S S' → ((S'.1 54 25) = (S.1 54 25) + 1) → (PW S') → (BW S') → ((S.1 54 39) ≤ (S'.1 54 39)) → ((S'.1 54 39) = 3001 ∨ (S.1 54 39) + 4 ≤ (S'.1 54 39)) → ((S'.1 54 39) ≤ 3001) → K r S') : wX11_refer a1 a2 a3 a4 S K := by
  unfold wX11_refer
  intro g1 g2 g3 g4
  refine tX11_element (by omega) (by omega) (by omega) (by omega) (p6) (p7) (fun r3 S3 hS3 n3_0 n3_1 n3_2 n3_3 n3_4 => ?_)
  have e1 : S3.1 54 39 = S.1 54 39 := hS3.1 39 (by decide)
  refine tX11_put  (fun r11 S11 hS11 n11_0 n11_1 => ?_)
  have e2 : S11.2 57 (a3) = S3.2 57 (a3) := congrFun (hS11.2 57 (by decide)) _
  have e3 : S3.2 57 (a3) = S.2 57 (a3) := congrFun (hS3.2 57 (by decide)) _
  refine tX11_putName (by omega) (by omega) (fun r16 S16 hS16 n16_0 n16_1 n16_2 => ?_)
  refine tX11_putAttribute (by omega) (fun r28 S28 hS28 n28_0 n28_1 n28_2 => ?_)
  refine tX11_putWord (by omega) (fun r40 S40 hS40 n40_0 n40_1 n40_2 n40_3 => ?_)
  refine tX11_putWord (by omega) (fun r51 S51 hS51 n51_0 n51_1 n51_2 n51_3 => ?_)
  refine ⟨fun h57 => ?_, fun h57 => ?_⟩
  · refine ⟨by omega, by omega, ?_⟩
    intro q4
    have e5 : S51.2 75 (a1) = S40.2 75 (a1) := congrFun (hS51.2 75 (by decide)) _
    have e6 : S40.2 75 (a1) = S28.2 75 (a1) := congrFun (hS40.2 75 (by decide)) _
    have e7 : S28.2 75 (a1) = S16.2 75 (a1) := congrFun (hS28.2 75 (by decide)) _
    have e8 : S16.2 75 (a1) = S11.2 75 (a1) := congrFun (hS16.2 75 (by decide)) _
    have e9 : S11.2 75 (a1) = S3.2 75 (a1) := congrFun (hS11.2 75 (by decide)) _
    have e10 : S3.2 75 (a1) = S.2 75 (a1) := congrFun (hS3.2 75 (by decide)) _
    have hb := p7 a1
    refine ⟨by omega, ?_⟩
    have e11 : S51.1 54 25 = S40.1 54 25 := hS51.1 25 (by decide)
    have e12 : S40.1 54 25 = S28.1 54 25 := hS40.1 25 (by decide)
    have e13 : S28.1 54 25 = S16.1 54 25 := hS28.1 25 (by decide)
    have e14 : S16.1 54 25 = S11.1 54 25 := hS16.1 25 (by decide)
    have e15 : S11.1 54 25 = S3.1 54 25 := hS11.1 25 (by decide)
    have e16 : S51.1 54 25 = S40.1 54 25 := hS51.1 25 (by decide)
    have e17 : S40.1 54 25 = S28.1 54 25 := hS40.1 25 (by decide)
    have e18 : S28.1 54 25 = S16.1 54 25 := hS28.1 25 (by decide)
    have e19 : S16.1 54 25 = S11.1 54 25 := hS16.1 25 (by decide)
    have e20 : S11.1 54 25 = S3.1 54 25 := hS11.1 25 (by decide)
    refine tX11_putWay (PW.mv n3_2 ((Ch.tr (Ch.tr (Ch.tr (Ch.tr hS11 hS16) hS28) hS40) hS51 |>.1) 25 (by decide)) ((Ch.tr (Ch.tr (Ch.tr (Ch.tr hS11 hS16) hS28) hS40) hS51 |>.2) 72 (by decide))) (by omega) (by omega) (by omega) (by omega) (by omega) (fun r84 S84 hS84 n84_0 n84_1 => ?_)
    unfold wX11_refer_87
    refine tX11_putWord (by omega) (fun r95 S95 hS95 n95_0 n95_1 n95_2 n95_3 => ?_)
    have e21 : S95.1 54 25 = S84.1 54 25 := hS95.1 25 (by decide)
    have e22 : S84.1 54 25 = S51.1 54 25 := hS84.1 25 (by decide)
    have e23 : S51.1 54 25 = S40.1 54 25 := hS51.1 25 (by decide)
    have e24 : S40.1 54 25 = S28.1 54 25 := hS40.1 25 (by decide)
    have e25 : S28.1 54 25 = S16.1 54 25 := hS28.1 25 (by decide)
    have e26 : S16.1 54 25 = S11.1 54 25 := hS16.1 25 (by decide)
    have e27 : S11.1 54 25 = S3.1 54 25 := hS11.1 25 (by decide)
    exact hK (0) S95 (Ch.wk (Ch.tr (Ch.tr (Ch.tr (Ch.tr (Ch.tr (Ch.tr (Ch.tr hS3 hS11) hS16) hS28) hS40) hS51) hS84) hS95) (by decide) (by decide)) (by omega) (PW.mv n3_2 (((Ch.tr (Ch.tr (Ch.tr (Ch.tr (Ch.tr (Ch.tr hS11 hS16) hS28) hS40) hS51) hS84) hS95)).1 25 (by decide)) (((Ch.tr (Ch.tr (Ch.tr (Ch.tr (Ch.tr (Ch.tr hS11 hS16) hS28) hS40) hS51) hS84) hS95)).2 72 (by decide))) (BW.mv n3_3 (Int.le_of_eq ((((Ch.tr (Ch.tr (Ch.tr (Ch.tr (Ch.tr (Ch.tr hS11 hS16) hS28) hS40) hS51) hS84) hS95)).1 25 (by decide)).symm)) (((Ch.tr (Ch.tr (Ch.tr (Ch.tr (Ch.tr (Ch.tr hS11 hS16) hS28) hS40) hS51) hS84) hS95)).2 75 (by decide))) (by omega) (by omega) (by omega)
  · refine ⟨by omega, by omega, ?_⟩
    intro q28
    have e29 : S51.2 76 (a1) = S40.2 76 (a1) := congrFun (hS51.2 76 (by decide)) _
    have e30 : S40.2 76 (a1) = S28.2 76 (a1) := congrFun (hS40.2 76 (by decide)) _
    have e31 : S28.2 76 (a1) = S16.2 76 (a1) := congrFun (hS28.2 76 (by decide)) _
    have e32 : S16.2 76 (a1) = S11.2 76 (a1) := congrFun (hS16.2 76 (by decide)) _
    have e33 : S11.2 76 (a1) = S3.2 76 (a1) := congrFun (hS11.2 76 (by decide)) _
    have e34 : S3.2 76 (a1) = S.2 76 (a1) := congrFun (hS3.2 76 (by decide)) _
    refine tX11_putNumber (by omega) (fun r67 S67 hS67 n67_0 n67_1 => ?_)
    unfold wX11_refer_87
    refine tX11_putWord (by omega) (fun r95 S95 hS95 n95_0 n95_1 n95_2 n95_3 => ?_)
    have e35 : S95.1 54 25 = S67.1 54 25 := hS95.1 25 (by decide)
    have e36 : S67.1 54 25 = S51.1 54 25 := hS67.1 25 (by decide)
    have e37 : S51.1 54 25 = S40.1 54 25 := hS51.1 25 (by decide)
    have e38 : S40.1 54 25 = S28.1 54 25 := hS40.1 25 (by decide)
    have e39 : S28.1 54 25 = S16.1 54 25 := hS28.1 25 (by decide)
    have e40 : S16.1 54 25 = S11.1 54 25 := hS16.1 25 (by decide)
    have e41 : S11.1 54 25 = S3.1 54 25 := hS11.1 25 (by decide)
    exact hK (0) S95 (Ch.wk (Ch.tr (Ch.tr (Ch.tr (Ch.tr (Ch.tr (Ch.tr (Ch.tr hS3 hS11) hS16) hS28) hS40) hS51) hS67) hS95) (by decide) (by decide)) (by omega) (PW.mv n3_2 (((Ch.tr (Ch.tr (Ch.tr (Ch.tr (Ch.tr (Ch.tr hS11 hS16) hS28) hS40) hS51) hS67) hS95)).1 25 (by decide)) (((Ch.tr (Ch.tr (Ch.tr (Ch.tr (Ch.tr (Ch.tr hS11 hS16) hS28) hS40) hS51) hS67) hS95)).2 72 (by decide))) (BW.mv n3_3 (Int.le_of_eq ((((Ch.tr (Ch.tr (Ch.tr (Ch.tr (Ch.tr (Ch.tr hS11 hS16) hS28) hS40) hS51) hS67) hS95)).1 25 (by decide)).symm)) (((Ch.tr (Ch.tr (Ch.tr (Ch.tr (Ch.tr (Ch.tr hS11 hS16) hS28) hS40) hS51) hS67) hS95)).2 75 (by decide))) (by omega) (by omega) (by omega)
