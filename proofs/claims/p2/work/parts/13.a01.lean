set_option maxRecDepth 100000 in
set_option maxHeartbeats 4000000 in
theorem tX11_want {a1 : Int} {S : St} {K : Int → St → Prop} (p1 : iv 0 1 a1) (hK : ∀ (r : Int) (S' : St), Ch [23] [] S S' → (((S'.1 54 23) = 0 ∧ (S.1 54 23) = 0 ∧ a1 = 1) ∨ ((S'.1 54 23) = 1 ∧ ((S.1 54 23) = 1 ∨ a1 = 0))) → K r S') : wX11_want a1 S K := by
  unfold wX11_want
  intro g1
  intro q1
  refine ⟨fun h5 => ?_, fun h5 => ?_⟩
  · intro S17 hS17e
    have hS17 : Ch [23] [] S S17 := Ch_I hS17e
    have hS17v : S17.1 54 23 = 1 := pI_at hS17e
    exact hK (0) S17 (Ch.wk hS17 (by decide) (by decide)) (by omega)
  · refine ⟨fun h9 => ?_, fun h9 => ?_⟩
    · intro S17 hS17e
      have hS17 : Ch [23] [] S S17 := Ch_I hS17e
      have hS17v : S17.1 54 23 = 0 := pI_at hS17e
      exact hK (0) S17 (Ch.wk hS17 (by decide) (by decide)) (by omega)
    · intro S17 hS17e
      have hS17 : Ch [23] [] S S17 := Ch_I hS17e
      have hS17v : S17.1 54 23 = 1 := pI_at hS17e
      exact hK (0) S17 (Ch.wk hS17 (by decide) (by decide)) (by omega)

set_option maxRecDepth 100000 in
set_option maxHeartbeats 4000000 in
theorem tX11_eat {a1 : Int} {S : St} {K : Int → St → Prop} (p1 : ¬ a1 = 0) (p2 : (S.1 54 22) ≤ (S.1 54 0)) (hK : ∀ (r : Int) (S' : St), Ch [22, 23] [] S S' → ((S'.1 54 22) ≤ (S.1 54 0)) → ((S'.1 54 23) = 1 ∨ (S'.1 54 23) = (S.1 54 23)) → K r S') : wX11_eat a1 S K := by
  unfold wX11_eat
  intro g1
  intro q1
  refine tX11_signAt (by omega) (fun r6 n6_0 n6_1 n6_2 => ?_)
  refine ⟨by omega, ?_⟩
  refine ⟨fun h10 => ?_, fun h10 => ?_⟩
  · unfold wX11_eat_18
    refine ⟨by omega, ?_⟩
    refine tX11_want (by omega) (fun r18 S18 hS18 n18_0 => ?_)
    intro q2
    refine ⟨fun h26 => ?_, fun h26 => ?_⟩
    · intro q3
      have e4 : S18.1 54 22 = S.1 54 22 := hS18.1 22 (by decide)
      refine ⟨by omega, ?_⟩
      intro S42 hS42e
      have hS42 : Ch [22] [] S18 S42 := Ch_I hS42e
      have hS42v : S42.1 54 22 = (S18.1 54 22 + 1) := pI_at hS42e
      have e5 : S42.1 54 23 = S18.1 54 23 := hS42.1 23 (by decide)
      exact hK (0) S42 (Ch.wk (Ch.tr hS18 hS42) (by decide) (by decide)) (by omega) (by omega)
    · intro q6
      have e7 : S18.1 54 22 = S.1 54 22 := hS18.1 22 (by decide)
      intro S42 hS42e
      have hS42 : Ch [22] [] S18 S42 := Ch_I hS42e
      have hS42v : S42.1 54 22 = S18.1 54 22 := pI_at hS42e
      have e8 : S42.1 54 23 = S18.1 54 23 := hS42.1 23 (by decide)
      exact hK (0) S42 (Ch.wk (Ch.tr hS18 hS42) (by decide) (by decide)) (by omega) (by omega)
  · unfold wX11_eat_18
    refine ⟨by omega, ?_⟩
    refine tX11_want (by omega) (fun r18 S18 hS18 n18_0 => ?_)
    intro q9
    refine ⟨fun h26 => ?_, fun h26 => ?_⟩
    · intro q10
      have e11 : S18.1 54 22 = S.1 54 22 := hS18.1 22 (by decide)
      refine ⟨by omega, ?_⟩
      intro S42 hS42e
      have hS42 : Ch [22] [] S18 S42 := Ch_I hS42e
      have hS42v : S42.1 54 22 = (S18.1 54 22 + 1) := pI_at hS42e
      have e12 : S42.1 54 23 = S18.1 54 23 := hS42.1 23 (by decide)
      exact hK (0) S42 (Ch.wk (Ch.tr hS18 hS42) (by decide) (by decide)) (by omega) (by omega)
    · intro q13
      have e14 : S18.1 54 22 = S.1 54 22 := hS18.1 22 (by decide)
      intro S42 hS42e
      have hS42 : Ch [22] [] S18 S42 := Ch_I hS42e
      have hS42v : S42.1 54 22 = S18.1 54 22 := pI_at hS42e
      have e15 : S42.1 54 23 = S18.1 54 23 := hS42.1 23 (by decide)
      exact hK (0) S42 (Ch.wk (Ch.tr hS18 hS42) (by decide) (by decide)) (by omega) (by omega)

set_option maxRecDepth 100000 in
set_option maxHeartbeats 4000000 in
theorem tX11_letterOf {a1 a2 : Int} {S : St} {K : Int → St → Prop}  (hK : ∀ (r : Int), (0 ≤ r ∧ r ≤ 127) → K r S) : wX11_letterOf a1 a2 S K := by
  unfold wX11_letterOf
  intro g1 g2
  refine ⟨fun h1 => ?_, fun h1 => ?_⟩
  · refine ⟨fun h37 => ?_, fun h37 => ?_⟩
    · exact hK (100) (by omega)
    · exact hK (105) (by omega)
  · refine ⟨fun h5 => ?_, fun h5 => ?_⟩
    · refine ⟨fun h15 => ?_, fun h15 => ?_⟩
      · refine ⟨fun h25 => ?_, fun h25 => ?_⟩
        · exact hK (115) (by omega)
        · exact hK (97) (by omega)
      · exact hK (108) (by omega)
    · exact hK (99) (by omega)

set_option maxRecDepth 100000 in
set_option maxHeartbeats 4000000 in
theorem tX11_isWord {a1 a2 : Int} {S : St} {K : Int → St → Prop} (p1 : iv 0 29 a1) (p2 : iv 0 1 a2) (hK : ∀ (r : Int), (iv 0 1 r) → K r S) : wX11_isWord a1 a2 S K := by
  unfold wX11_isWord
  intro g1 g2
  refine ⟨fun h1 => ?_, fun h1 => ?_⟩
  · unfold wX11_isWord_9
    refine ⟨by omega, by omega, ?_⟩
    intro q1
    refine ⟨by omega, ?_⟩
    refine ⟨fun h17 => ?_, fun h17 => ?_⟩
    · unfold wX11_isWord_25
      unfold wX11_isWord_30
      refine ⟨fun u1 u2 u3 u4 u5 Sx => S = Sx ∧ a1 = u1 ∧ a2 = u2 ∧ ((2)) = u3 ∧ (iv 0 5 u5) ∧ (iv 0 1 u4), fun u1 u2 u3 u4 u5 Sx => (6 - u5).toNat, ?_, fun v30_1 v30_2 v30_3 v30_4 v30_5 S30h hI => ?_⟩
      · exact ⟨rfl, rfl, rfl, rfl, by omega, by omega⟩
      obtain ⟨rfl, rfl, rfl, rfl, i30_0, i30_1⟩ := hI
      unfold wX11_isWord_30'
      refine ⟨by omega, ?_⟩
      refine ⟨by omega, ?_⟩
      refine ⟨fun h33 => ?_, fun h33 => ?_⟩
      · refine ⟨by omega, ?_⟩
        exact hK (v30_4) (by omega)
      · refine ⟨by omega, ?_⟩
        refine ⟨fun h38 => ?_, fun h38 => ?_⟩
        · refine ⟨by omega, ?_⟩
          exact hK (v30_4) (by omega)
        · refine ⟨by omega, by omega, ?_⟩
          intro q2
          refine ⟨by omega, ?_⟩
          refine tX11_letterOf  (fun r56 n56_0 => ?_)
          refine ⟨by omega, ?_⟩
          refine ⟨fun h59 => ?_, fun h59 => ?_⟩
          · unfold wX11_isWord_67
            exact ⟨⟨rfl, rfl, rfl, rfl, by omega, by omega⟩, show (6 - ((v30_5 + 1))).toNat < (6 - v30_5).toNat by omega⟩
          · unfold wX11_isWord_67
            exact ⟨⟨rfl, rfl, rfl, rfl, by omega, by omega⟩, show (6 - ((v30_5 + 1))).toNat < (6 - v30_5).toNat by omega⟩
    · unfold wX11_isWord_25
      unfold wX11_isWord_30
      refine ⟨fun u1 u2 u3 u4 u5 Sx => S = Sx ∧ a1 = u1 ∧ a2 = u2 ∧ ((2)) = u3 ∧ (iv 0 5 u5) ∧ (iv 0 1 u4), fun u1 u2 u3 u4 u5 Sx => (6 - u5).toNat, ?_, fun v30_1 v30_2 v30_3 v30_4 v30_5 S30h hI => ?_⟩
      · exact ⟨rfl, rfl, rfl, rfl, by omega, by omega⟩
      obtain ⟨rfl, rfl, rfl, rfl, i30_0, i30_1⟩ := hI
      unfold wX11_isWord_30'
      refine ⟨by omega, ?_⟩
      refine ⟨by omega, ?_⟩
      refine ⟨fun h33 => ?_, fun h33 => ?_⟩
      · refine ⟨by omega, ?_⟩
        exact hK (v30_4) (by omega)
      · refine ⟨by omega, ?_⟩
        refine ⟨fun h38 => ?_, fun h38 => ?_⟩
        · refine ⟨by omega, ?_⟩
          exact hK (v30_4) (by omega)
        · refine ⟨by omega, by omega, ?_⟩
          intro q3
          refine ⟨by omega, ?_⟩
          refine tX11_letterOf  (fun r56 n56_0 => ?_)
          refine ⟨by omega, ?_⟩
          refine ⟨fun h59 => ?_, fun h59 => ?_⟩
          · unfold wX11_isWord_67
            exact ⟨⟨rfl, rfl, rfl, rfl, by omega, by omega⟩, show (6 - ((v30_5 + 1))).toNat < (6 - v30_5).toNat by omega⟩
          · unfold wX11_isWord_67
            exact ⟨⟨rfl, rfl, rfl, rfl, by omega, by omega⟩, show (6 - ((v30_5 + 1))).toNat < (6 - v30_5).toNat by omega⟩
  · unfold wX11_isWord_9
    refine ⟨by omega, by omega, ?_⟩
    intro q4
    refine ⟨by omega, ?_⟩
    refine ⟨fun h17 => ?_, fun h17 => ?_⟩
    · unfold wX11_isWord_25
      unfold wX11_isWord_30
      refine ⟨fun u1 u2 u3 u4 u5 Sx => S = Sx ∧ a1 = u1 ∧ a2 = u2 ∧ ((5)) = u3 ∧ (iv 0 5 u5) ∧ (iv 0 1 u4), fun u1 u2 u3 u4 u5 Sx => (6 - u5).toNat, ?_, fun v30_1 v30_2 v30_3 v30_4 v30_5 S30h hI => ?_⟩
      · exact ⟨rfl, rfl, rfl, rfl, by omega, by omega⟩
      obtain ⟨rfl, rfl, rfl, rfl, i30_0, i30_1⟩ := hI
      unfold wX11_isWord_30'
      refine ⟨by omega, ?_⟩
      refine ⟨by omega, ?_⟩
      refine ⟨fun h33 => ?_, fun h33 => ?_⟩
      · refine ⟨by omega, ?_⟩
        exact hK (v30_4) (by omega)
      · refine ⟨by omega, ?_⟩
        refine ⟨fun h38 => ?_, fun h38 => ?_⟩
        · refine ⟨by omega, ?_⟩
          exact hK (v30_4) (by omega)
        · refine ⟨by omega, by omega, ?_⟩
          intro q5
          refine ⟨by omega, ?_⟩
          refine tX11_letterOf  (fun r56 n56_0 => ?_)
          refine ⟨by omega, ?_⟩
          refine ⟨fun h59 => ?_, fun h59 => ?_⟩
          · unfold wX11_isWord_67
            exact ⟨⟨rfl, rfl, rfl, rfl, by omega, by omega⟩, show (6 - ((v30_5 + 1))).toNat < (6 - v30_5).toNat by omega⟩
          · unfold wX11_isWord_67
            exact ⟨⟨rfl, rfl, rfl, rfl, by omega, by omega⟩, show (6 - ((v30_5 + 1))).toNat < (6 - v30_5).toNat by omega⟩
    · unfold wX11_isWord_25
      unfold wX11_isWord_30
      refine ⟨fun u1 u2 u3 u4 u5 Sx => S = Sx ∧ a1 = u1 ∧ a2 = u2 ∧ ((5)) = u3 ∧ (iv 0 5 u5) ∧ (iv 0 1 u4), fun u1 u2 u3 u4 u5 Sx => (6 - u5).toNat, ?_, fun v30_1 v30_2 v30_3 v30_4 v30_5 S30h hI => ?_⟩
      · exact ⟨rfl, rfl, rfl, rfl, by omega, by omega⟩
      obtain ⟨rfl, rfl, rfl, rfl, i30_0, i30_1⟩ := hI
      unfold wX11_isWord_30'
      refine ⟨by omega, ?_⟩
      refine ⟨by omega, ?_⟩
      refine ⟨fun h33 => ?_, fun h33 => ?_⟩
      · refine ⟨by omega, ?_⟩
        exact hK (v30_4) (by omega)
      · refine ⟨by omega, ?_⟩
        refine ⟨fun h38 => ?_, fun h38 => ?_⟩
        · refine ⟨by omega, ?_⟩
          exact hK (v30_4) (by omega)
        · refine ⟨by omega, by omega, ?_⟩
          intro q6
          refine ⟨by omega, ?_⟩
          refine tX11_letterOf  (fun r56 n56_0 => ?_)
          refine ⟨by omega, ?_⟩
          refine ⟨fun h59 => ?_, fun h59 => ?_⟩
          · unfold wX11_isWord_67
            exact ⟨⟨rfl, rfl, rfl, rfl, by omega, by omega⟩, show (6 - ((v30_5 + 1))).toNat < (6 - v30_5).toNat by omega⟩
          · unfold wX11_isWord_67
            exact ⟨⟨rfl, rfl, rfl, rfl, by omega, by omega⟩, show (6 - ((v30_5 + 1))).toNat < (6 - v30_5).toNat by omega⟩

set_option maxRecDepth 100000 in
set_option maxHeartbeats 4000000 in
theorem tX11_nameAt {a1 a2 : Int} {S : St} {K : Int → St → Prop} (p1 : iv 0 3000 a1) (p2 : iv 0 29 a2) (hK : ∀ (r : Int) (S' : St), Ch [] [63, 64] S S' → (r = -2 ∨ (r = -10 ∧ a1 + 8 ≤ (S.1 54 0)) ∨ (1 ≤ r ∧ r ≤ 8 ∧ a1 + r ≤ (S.1 54 0))) → (∀ x, x = a2 ∨ (S'.2 63) x = (S.2 63) x) → (r < 0 ∨ (S'.2 63) a2 = r) → (iv 0 3000 ((S.1 54 0))) → K r S') : wX11_nameAt a1 a2 S K := by
  unfold wX11_nameAt
  intro g1 g2
  refine tX11_signAt (by omega) (fun r4 n4_0 n4_1 n4_2 => ?_)
  unfold wX11_nameAt_9
  refine ⟨fun u1 u2 u3 u4 Sx => Ch [] [64] S Sx ∧ a1 = u1 ∧ a2 = u2 ∧ (iv 0 8 u3) ∧ (rng u4) ∧ (u4 = 0 ∨ a1 + u3 < (S.1 54 0)) ∧ (u3 = 0 ∨ a1 + u3 ≤ (S.1 54 0)), fun u1 u2 u3 u4 Sx => (9 - u3).toNat, ?_, fun v9_1 v9_2 v9_3 v9_4 S9h hI => ?_⟩
  · exact ⟨Ch.re, rfl, rfl, by omega, by omega, by omega, by omega⟩
  obtain ⟨hS9h, rfl, rfl, i9_0, i9_1, i9_2, i9_3⟩ := hI
  unfold wX11_nameAt_9'
  refine ⟨by omega, ?_⟩
  refine tX11_isLetter  (fun r11 n11_0 => ?_)
  refine ⟨by omega, ?_⟩
  refine ⟨fun h14 => ?_, fun h14 => ?_⟩
  · unfold wX11_nameAt_43
    refine ⟨by omega, ?_⟩
    refine ⟨fun h46 => ?_, fun h46 => ?_⟩
    · refine ⟨by omega, by omega, ?_⟩
      refine ⟨by omega, ?_⟩
      intro S64 hS64e
      have hS64 : Ch [] [64] S9h S64 := Ch_A hS64e
      have hS64v : ∀ x, (x = ((8 * a2) + v9_3) ∧ S64.2 64 x = v9_4) ∨ (¬ x = ((8 * a2) + v9_3) ∧ S64.2 64 x = S9h.2 64 x) := pA_at hS64e
      refine ⟨by omega, ?_⟩
      have e1 : S64.1 54 0 = S9h.1 54 0 := hS64.1 0 (by decide)
      have e2 : S9h.1 54 0 = S.1 54 0 := hS9h.1 0 (by decide)
      have e3 : S64.2 55 ((a1 + (v9_3 + 1))) = S9h.2 55 ((a1 + (v9_3 + 1))) := congrFun (hS64.2 55 (by decide)) _
      have e4 : S9h.2 55 ((a1 + (v9_3 + 1))) = S.2 55 ((a1 + (v9_3 + 1))) := congrFun (hS9h.2 55 (by decide)) _
      have e5 : S64.1 54 0 = S9h.1 54 0 := hS64.1 0 (by decide)
      have e6 : S9h.1 54 0 = S.1 54 0 := hS9h.1 0 (by decide)
      refine tX11_signAt (by omega) (fun r72 n72_0 n72_1 n72_2 => ?_)
      exact ⟨⟨(Ch.wk (Ch.tr hS9h hS64) (by decide) (by decide)), rfl, rfl, by omega, by omega, by omega, by omega⟩, show (9 - ((v9_3 + 1))).toNat < (9 - v9_3).toNat by omega⟩
    · have e7 : S9h.2 63 a2 = S.2 63 a2 := congrFun (hS9h.2 63 (by decide)) _
      exact hK ((-10)) S9h (Ch.wk hS9h (by decide) (by decide)) (by omega) (by
            intro x
            have e8 : S9h.2 63 x = S.2 63 x := congrFun (hS9h.2 63 (by decide)) _
            omega) (by omega) (by omega)
  · refine ⟨fun h21 => ?_, fun h21 => ?_⟩
    · unfold wX11_nameAt_43
      refine ⟨by omega, ?_⟩
      refine ⟨fun h46 => ?_, fun h46 => ?_⟩
      · refine ⟨by omega, by omega, ?_⟩
        refine ⟨by omega, ?_⟩
        intro S64 hS64e
        have hS64 : Ch [] [64] S9h S64 := Ch_A hS64e
        have hS64v : ∀ x, (x = ((8 * a2) + v9_3) ∧ S64.2 64 x = v9_4) ∨ (¬ x = ((8 * a2) + v9_3) ∧ S64.2 64 x = S9h.2 64 x) := pA_at hS64e
        refine ⟨by omega, ?_⟩
        have e9 : S64.1 54 0 = S9h.1 54 0 := hS64.1 0 (by decide)
        have e10 : S9h.1 54 0 = S.1 54 0 := hS9h.1 0 (by decide)
        have e11 : S64.2 55 ((a1 + (v9_3 + 1))) = S9h.2 55 ((a1 + (v9_3 + 1))) := congrFun (hS64.2 55 (by decide)) _
        have e12 : S9h.2 55 ((a1 + (v9_3 + 1))) = S.2 55 ((a1 + (v9_3 + 1))) := congrFun (hS9h.2 55 (by decide)) _
        have e13 : S64.1 54 0 = S9h.1 54 0 := hS64.1 0 (by decide)
        have e14 : S9h.1 54 0 = S.1 54 0 := hS9h.1 0 (by decide)
        refine tX11_signAt (by omega) (fun r72 n72_0 n72_1 n72_2 => ?_)
        exact ⟨⟨(Ch.wk (Ch.tr hS9h hS64) (by decide) (by decide)), rfl, rfl, by omega, by omega, by omega, by omega⟩, show (9 - ((v9_3 + 1))).toNat < (9 - v9_3).toNat by omega⟩
      · have e15 : S9h.2 63 a2 = S.2 63 a2 := congrFun (hS9h.2 63 (by decide)) _
        exact hK ((-10)) S9h (Ch.wk hS9h (by decide) (by decide)) (by omega) (by
              intro x
              have e16 : S9h.2 63 x = S.2 63 x := congrFun (hS9h.2 63 (by decide)) _
              omega) (by omega) (by omega)
    · refine ⟨fun h28 => ?_, fun h28 => ?_⟩
      · unfold wX11_nameAt_43
        refine ⟨by omega, ?_⟩
        refine ⟨fun h46 => ?_, fun h46 => ?_⟩
        · refine ⟨by omega, by omega, ?_⟩
          refine ⟨by omega, ?_⟩
          intro S64 hS64e
          have hS64 : Ch [] [64] S9h S64 := Ch_A hS64e
          have hS64v : ∀ x, (x = ((8 * a2) + v9_3) ∧ S64.2 64 x = v9_4) ∨ (¬ x = ((8 * a2) + v9_3) ∧ S64.2 64 x = S9h.2 64 x) := pA_at hS64e
          refine ⟨by omega, ?_⟩
          have e17 : S64.1 54 0 = S9h.1 54 0 := hS64.1 0 (by decide)
          have e18 : S9h.1 54 0 = S.1 54 0 := hS9h.1 0 (by decide)
          have e19 : S64.2 55 ((a1 + (v9_3 + 1))) = S9h.2 55 ((a1 + (v9_3 + 1))) := congrFun (hS64.2 55 (by decide)) _
          have e20 : S9h.2 55 ((a1 + (v9_3 + 1))) = S.2 55 ((a1 + (v9_3 + 1))) := congrFun (hS9h.2 55 (by decide)) _
          have e21 : S64.1 54 0 = S9h.1 54 0 := hS64.1 0 (by decide)
          have e22 : S9h.1 54 0 = S.1 54 0 := hS9h.1 0 (by decide)
          refine tX11_signAt (by omega) (fun r72 n72_0 n72_1 n72_2 => ?_)
          exact ⟨⟨(Ch.wk (Ch.tr hS9h hS64) (by decide) (by decide)), rfl, rfl, by omega, by omega, by omega, by omega⟩, show (9 - ((v9_3 + 1))).toNat < (9 - v9_3).toNat by omega⟩
        · have e23 : S9h.2 63 a2 = S.2 63 a2 := congrFun (hS9h.2 63 (by decide)) _
          exact hK ((-10)) S9h (Ch.wk hS9h (by decide) (by decide)) (by omega) (by
                intro x
                have e24 : S9h.2 63 x = S.2 63 x := congrFun (hS9h.2 63 (by decide)) _
                omega) (by omega) (by omega)
      · refine ⟨by omega, ?_⟩
        refine ⟨fun h32 => ?_, fun h32 => ?_⟩
        · unfold wX11_nameAt_80
          refine ⟨by omega, by omega, ?_⟩
          refine ⟨by omega, ?_⟩
          intro S86 hS86e
          have hS86 : Ch [] [63] S9h S86 := Ch_A hS86e
          have hS86v : ∀ x, (x = a2 ∧ S86.2 63 x = v9_3) ∨ (¬ x = a2 ∧ S86.2 63 x = S9h.2 63 x) := pA_at hS86e
          refine ⟨fun h88 => ?_, fun h88 => ?_⟩
          · have e25 : S86.2 63 a2 = (v9_3) := by have q := hS86v a2; omega
            have e26 : S9h.2 63 a2 = S.2 63 a2 := congrFun (hS9h.2 63 (by decide)) _
            exact hK (v9_3) S86 (Ch.wk (Ch.tr hS9h hS86) (by decide) (by decide)) (by omega) (by
                  intro x
                  have e27 := hS86v x
                  have e28 : S9h.2 63 x = S.2 63 x := congrFun (hS9h.2 63 (by decide)) _
                  omega) (by omega) (by omega)
          · have e29 : S86.2 63 a2 = (v9_3) := by have q := hS86v a2; omega
            have e30 : S9h.2 63 a2 = S.2 63 a2 := congrFun (hS9h.2 63 (by decide)) _
            exact hK ((-2)) S86 (Ch.wk (Ch.tr hS9h hS86) (by decide) (by decide)) (by omega) (by
                  intro x
                  have e31 := hS86v x
                  have e32 : S9h.2 63 x = S.2 63 x := congrFun (hS9h.2 63 (by decide)) _
                  omega) (by omega) (by omega)
        · refine tX11_isDigit  (fun r37 n37_0 => ?_)
          refine ⟨by omega, ?_⟩
          refine ⟨fun h40 => ?_, fun h40 => ?_⟩
          · unfold wX11_nameAt_80
            refine ⟨by omega, by omega, ?_⟩
            refine ⟨by omega, ?_⟩
            intro S86 hS86e
            have hS86 : Ch [] [63] S9h S86 := Ch_A hS86e
            have hS86v : ∀ x, (x = a2 ∧ S86.2 63 x = v9_3) ∨ (¬ x = a2 ∧ S86.2 63 x = S9h.2 63 x) := pA_at hS86e
            refine ⟨fun h88 => ?_, fun h88 => ?_⟩
            · have e33 : S86.2 63 a2 = (v9_3) := by have q := hS86v a2; omega
              have e34 : S9h.2 63 a2 = S.2 63 a2 := congrFun (hS9h.2 63 (by decide)) _
              exact hK (v9_3) S86 (Ch.wk (Ch.tr hS9h hS86) (by decide) (by decide)) (by omega) (by
                    intro x
                    have e35 := hS86v x
                    have e36 : S9h.2 63 x = S.2 63 x := congrFun (hS9h.2 63 (by decide)) _
                    omega) (by omega) (by omega)
            · have e37 : S86.2 63 a2 = (v9_3) := by have q := hS86v a2; omega
              have e38 : S9h.2 63 a2 = S.2 63 a2 := congrFun (hS9h.2 63 (by decide)) _
              exact hK ((-2)) S86 (Ch.wk (Ch.tr hS9h hS86) (by decide) (by decide)) (by omega) (by
                    intro x
                    have e39 := hS86v x
                    have e40 : S9h.2 63 x = S.2 63 x := congrFun (hS9h.2 63 (by decide)) _
                    omega) (by omega) (by omega)
          · unfold wX11_nameAt_43
            refine ⟨by omega, ?_⟩
            refine ⟨fun h46 => ?_, fun h46 => ?_⟩
            · refine ⟨by omega, by omega, ?_⟩
              refine ⟨by omega, ?_⟩
              intro S64 hS64e
              have hS64 : Ch [] [64] S9h S64 := Ch_A hS64e
              have hS64v : ∀ x, (x = ((8 * a2) + v9_3) ∧ S64.2 64 x = v9_4) ∨ (¬ x = ((8 * a2) + v9_3) ∧ S64.2 64 x = S9h.2 64 x) := pA_at hS64e
              refine ⟨by omega, ?_⟩
              have e41 : S64.1 54 0 = S9h.1 54 0 := hS64.1 0 (by decide)
              have e42 : S9h.1 54 0 = S.1 54 0 := hS9h.1 0 (by decide)
              have e43 : S64.2 55 ((a1 + (v9_3 + 1))) = S9h.2 55 ((a1 + (v9_3 + 1))) := congrFun (hS64.2 55 (by decide)) _
              have e44 : S9h.2 55 ((a1 + (v9_3 + 1))) = S.2 55 ((a1 + (v9_3 + 1))) := congrFun (hS9h.2 55 (by decide)) _
              have e45 : S64.1 54 0 = S9h.1 54 0 := hS64.1 0 (by decide)
              have e46 : S9h.1 54 0 = S.1 54 0 := hS9h.1 0 (by decide)
              refine tX11_signAt (by omega) (fun r72 n72_0 n72_1 n72_2 => ?_)
              exact ⟨⟨(Ch.wk (Ch.tr hS9h hS64) (by decide) (by decide)), rfl, rfl, by omega, by omega, by omega, by omega⟩, show (9 - ((v9_3 + 1))).toNat < (9 - v9_3).toNat by omega⟩
            · have e47 : S9h.2 63 a2 = S.2 63 a2 := congrFun (hS9h.2 63 (by decide)) _
              exact hK ((-10)) S9h (Ch.wk hS9h (by decide) (by decide)) (by omega) (by
                    intro x
                    have e48 : S9h.2 63 x = S.2 63 x := congrFun (hS9h.2 63 (by decide)) _
                    omega) (by omega) (by omega)
