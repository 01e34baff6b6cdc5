set_option maxRecDepth 100000 in
set_option maxHeartbeats 4000000 in
theorem tX11_child {a1 a2 a3 a4 a5 : Int} {S : St} {K : Int → St → Prop} (p1 : iv 0 29 a1) (p2 : iv (-2) 899 a2) (p3 : a2 < (S.1 54 25)) (p4 : iv 0 29 a3) (p5 : 1 ≤ (S.2 57) a3) (p6 : iv 0 1 a4) (p7 : (S.1 54 32) ≤ (S.1 54 19)) (p8 : (S.1 54 25) ≤ 899) (p9 : (S.1 54 30) ≤ (S.1 54 25)) (p10 : PW S) (p11 : BW S) (p12 : OK0 S) (p13 : a1 < (S.2 67) 0) (p14 : (S.1 54 39) ≤ 3001) (hK : ∀ (r : Int) (S' : St), Ch [25, 30, 32, 39] [72, 73, 74, 75, 76, 77, 78, 79, 80, 81, 82, 83] S S' → (iv 0 1 r) → ((S.1 54 25) ≤ (S'.1 54 25) ∧ (S'.1 54 25) ≤ (S.1 54 25) + 1 ∧ (S'.1 54 30) ≤ (S'.1 54 25)) → (PW S') → (BW S') → ((r = 0 ∧ (S'.1 54 32) = (S.1 54 32) ∧ (S'.1 54 39) = (S.1 54 39) ∧ (S'.1 54 25) = (S.1 54 25)) ∨ (r = 1 ∧ (S'.1 54 32) = (S.1 54 32) ∧ (S'.1 54 25) = (S.1 54 25) + 1 ∧ ((S'.1 54 39) = 3001 ∨ (S.1 54 39) + 4 ≤ (S'.1 54 39))) ∨ (r = 1 ∧ (S'.1 54 32) = (S.1 54 32) + 1 ∧ (S'.1 54 32) ≤ (S.1 54 19) ∧ (S'.1 54 25) = (S.1 54 25) + 1 ∧ ((S'.1 54 39) = 3001 ∨ (S.1 54 39) + 3 ≤ (S'.1 54 39)) ∧ ((S'.2 77) ((S.1 54 32)) = a1 ∧ (S'.2 78) ((S.1 54 32)) = (S.1 54 25) ∧ (S'.2 79) ((S.1 54 32)) = a3 ∧ (S'.2 80) ((S.1 54 32)) = 0 ∧ (S'.2 81) ((S.1 54 32)) = 0 ∧ (S'.2 82) ((S.1 54 32)) = -2) ∧ 0 ≤ (S.2 56) ((S.2 68) a1))) → ((S.1 54 39) ≤ (S'.1 54 39)) → (∀ x, x = (S.1 54 32) ∨ (S'.2 77) x = (S.2 77) x) → (∀ x, x = (S.1 54 32) ∨ (S'.2 78) x = (S.2 78) x) → (∀ x, x = (S.1 54 32) ∨ (S'.2 79) x = (S.2 79) x) → (∀ x, x = (S.1 54 32) ∨ (S'.2 80) x = (S.2 80) x) → (∀ x, x = (S.1 54 32) ∨ (S'.2 81) x = (S.2 81) x) → (∀ x, x = (S.1 54 32) ∨ (S'.2 82) x = (S.2 82) x) → ((S'.1 54 39) ≤ 3001) → K r S') : wX11_child a1 a2 a3 a4 a5 S K := by
  unfold wX11_child
  intro g1 g2 g3 g4 g5
  refine ⟨fun h3 => ?_, fun h3 => ?_⟩
  · unfold wX11_child_28
    intro q1
    intro q2
    refine ⟨fun h36 => ?_, fun h36 => ?_⟩
    · refine ⟨by omega, ?_⟩
      refine ⟨by omega, ?_⟩
      refine ⟨by omega, ?_⟩
      refine ⟨by omega, ?_⟩
      refine ⟨by omega, ?_⟩
      refine tX11_begin (by omega) (by omega) (by omega) (by omega) (by omega) (by omega) (by omega) (by omega) (by omega) (p10) (p11) (p12) (by omega) (by omega) (fun r49 S49 hS49 n49_0 n49_1 n49_2 n49_3 n49_4 n49_5 n49_6 n49_7 n49_8 n49_9 n49_10 n49_11 n49_12 n49_13 n49_14 => ?_)
      first | have e3 : S49.2 77 ((S.1 54 32)) = S.2 77 ((S.1 54 32)) := by have q := n49_7 ((S.1 54 32)); omega | have e3 := n49_7 ((S.1 54 32))
      first | have e4 : S49.2 78 ((S.1 54 32)) = S.2 78 ((S.1 54 32)) := by have q := n49_8 ((S.1 54 32)); omega | have e4 := n49_8 ((S.1 54 32))
      first | have e5 : S49.2 79 ((S.1 54 32)) = S.2 79 ((S.1 54 32)) := by have q := n49_9 ((S.1 54 32)); omega | have e5 := n49_9 ((S.1 54 32))
      first | have e6 : S49.2 80 ((S.1 54 32)) = S.2 80 ((S.1 54 32)) := by have q := n49_10 ((S.1 54 32)); omega | have e6 := n49_10 ((S.1 54 32))
      first | have e7 : S49.2 81 ((S.1 54 32)) = S.2 81 ((S.1 54 32)) := by have q := n49_11 ((S.1 54 32)); omega | have e7 := n49_11 ((S.1 54 32))
      first | have e8 : S49.2 82 ((S.1 54 32)) = S.2 82 ((S.1 54 32)) := by have q := n49_12 ((S.1 54 32)); omega | have e8 := n49_12 ((S.1 54 32))
      exact hK (1) S49 (Ch.wk hS49 (by decide) (by decide)) (by omega) (by omega) (n49_2) (n49_3) (by
            rcases n49_5 with ⟨k1, k2⟩ | ⟨k1, k2, m⟩
            · exact Or.inr (Or.inl ⟨rfl, k1, n49_0, k2⟩)
            · exact Or.inr (Or.inr ⟨rfl, k1, by omega, n49_0, k2, m, n49_13⟩)) (by omega) (by
            intro x
            have e9 := n49_7 x
            omega) (by
            intro x
            have e10 := n49_8 x
            omega) (by
            intro x
            have e11 := n49_9 x
            omega) (by
            intro x
            have e12 := n49_10 x
            omega) (by
            intro x
            have e13 := n49_11 x
            omega) (by
            intro x
            have e14 := n49_12 x
            omega) (by omega)
    · exact hK (0) S (Ch.wk Ch.rf (by decide) (by decide)) (by omega) (by omega) (p10) (p11) (Or.inl ⟨rfl, rfl, rfl, rfl⟩) (by omega) (by
            intro x
            omega) (by
            intro x
            omega) (by
            intro x
            omega) (by
            intro x
            omega) (by
            intro x
            omega) (by
            intro x
            omega) (by omega)
  · refine ⟨by omega, by omega, ?_⟩
    intro q15
    refine ⟨fun h14 => ?_, fun h14 => ?_⟩
    · unfold wX11_child_28
      intro q16
      intro q17
      refine ⟨fun h36 => ?_, fun h36 => ?_⟩
      · refine ⟨by omega, ?_⟩
        refine ⟨by omega, ?_⟩
        refine ⟨by omega, ?_⟩
        refine ⟨by omega, ?_⟩
        refine ⟨by omega, ?_⟩
        refine tX11_begin (by omega) (by omega) (by omega) (by omega) (by omega) (by omega) (by omega) (by omega) (by omega) (p10) (p11) (p12) (by omega) (by omega) (fun r49 S49 hS49 n49_0 n49_1 n49_2 n49_3 n49_4 n49_5 n49_6 n49_7 n49_8 n49_9 n49_10 n49_11 n49_12 n49_13 n49_14 => ?_)
        first | have e18 : S49.2 77 ((S.1 54 32)) = S.2 77 ((S.1 54 32)) := by have q := n49_7 ((S.1 54 32)); omega | have e18 := n49_7 ((S.1 54 32))
        first | have e19 : S49.2 78 ((S.1 54 32)) = S.2 78 ((S.1 54 32)) := by have q := n49_8 ((S.1 54 32)); omega | have e19 := n49_8 ((S.1 54 32))
        first | have e20 : S49.2 79 ((S.1 54 32)) = S.2 79 ((S.1 54 32)) := by have q := n49_9 ((S.1 54 32)); omega | have e20 := n49_9 ((S.1 54 32))
        first | have e21 : S49.2 80 ((S.1 54 32)) = S.2 80 ((S.1 54 32)) := by have q := n49_10 ((S.1 54 32)); omega | have e21 := n49_10 ((S.1 54 32))
        first | have e22 : S49.2 81 ((S.1 54 32)) = S.2 81 ((S.1 54 32)) := by have q := n49_11 ((S.1 54 32)); omega | have e22 := n49_11 ((S.1 54 32))
        first | have e23 : S49.2 82 ((S.1 54 32)) = S.2 82 ((S.1 54 32)) := by have q := n49_12 ((S.1 54 32)); omega | have e23 := n49_12 ((S.1 54 32))
        exact hK (1) S49 (Ch.wk hS49 (by decide) (by decide)) (by omega) (by omega) (n49_2) (n49_3) (by
              rcases n49_5 with ⟨k1, k2⟩ | ⟨k1, k2, m⟩
              · exact Or.inr (Or.inl ⟨rfl, k1, n49_0, k2⟩)
              · exact Or.inr (Or.inr ⟨rfl, k1, by omega, n49_0, k2, m, n49_13⟩)) (by omega) (by
              intro x
              have e24 := n49_7 x
              omega) (by
              intro x
              have e25 := n49_8 x
              omega) (by
              intro x
              have e26 := n49_9 x
              omega) (by
              intro x
              have e27 := n49_10 x
              omega) (by
              intro x
              have e28 := n49_11 x
              omega) (by
              intro x
              have e29 := n49_12 x
              omega) (by omega)
      · exact hK (0) S (Ch.wk Ch.rf (by decide) (by decide)) (by omega) (by omega) (p10) (p11) (Or.inl ⟨rfl, rfl, rfl, rfl⟩) (by omega) (by
              intro x
              omega) (by
              intro x
              omega) (by
              intro x
              omega) (by
              intro x
              omega) (by
              intro x
              omega) (by
              intro x
              omega) (by omega)
    · have hb := p11 a1
      refine tX11_refer (by omega) (by omega) (by omega) (by omega) (by omega) (p10) (p11) (by omega) (by omega) (fun r23 S23 hS23 n23_0 n23_1 n23_2 n23_3 n23_4 n23_5 => ?_)
      have e30 : S23.1 54 30 = S.1 54 30 := hS23.1 30 (by decide)
      have e31 : S23.1 54 32 = S.1 54 32 := hS23.1 32 (by decide)
      have e32 : S23.2 77 ((S.1 54 32)) = S.2 77 ((S.1 54 32)) := congrFun (hS23.2 77 (by decide)) _
      have e33 : S23.2 78 ((S.1 54 32)) = S.2 78 ((S.1 54 32)) := congrFun (hS23.2 78 (by decide)) _
      have e34 : S23.2 79 ((S.1 54 32)) = S.2 79 ((S.1 54 32)) := congrFun (hS23.2 79 (by decide)) _
      have e35 : S23.2 80 ((S.1 54 32)) = S.2 80 ((S.1 54 32)) := congrFun (hS23.2 80 (by decide)) _
      have e36 : S23.2 81 ((S.1 54 32)) = S.2 81 ((S.1 54 32)) := congrFun (hS23.2 81 (by decide)) _
      have e37 : S23.2 82 ((S.1 54 32)) = S.2 82 ((S.1 54 32)) := congrFun (hS23.2 82 (by decide)) _
      exact hK (1) S23 (Ch.wk hS23 (by decide) (by decide)) (by omega) (by omega) (n23_1) (n23_2) (Or.inr (Or.inl ⟨rfl, hS23.1 32 (by decide), n23_0, n23_4⟩)) (by omega) (by
            intro x
            have e38 : S23.2 77 x = S.2 77 x := congrFun (hS23.2 77 (by decide)) _
            omega) (by
            intro x
            have e39 : S23.2 78 x = S.2 78 x := congrFun (hS23.2 78 (by decide)) _
            omega) (by
            intro x
            have e40 : S23.2 79 x = S.2 79 x := congrFun (hS23.2 79 (by decide)) _
            omega) (by
            intro x
            have e41 : S23.2 80 x = S.2 80 x := congrFun (hS23.2 80 (by decide)) _
            omega) (by
            intro x
            have e42 : S23.2 81 x = S.2 81 x := congrFun (hS23.2 81 (by decide)) _
            omega) (by
            intro x
            have e43 : S23.2 82 x = S.2 82 x := congrFun (hS23.2 82 (by decide)) _
            omega) (by omega)

set_option maxRecDepth 100000 in
set_option maxHeartbeats 4000000 in
theorem tX11_end {a1 : Int} {S : St} {K : Int → St → Prop} (p1 : iv 0 29 a1) (p2 : (S.1 54 39) ≤ 3001) (hK : ∀ (r : Int) (S' : St), Ch [39] [83] S S' → ((S.1 54 39) ≤ (S'.1 54 39)) → ((S'.1 54 39) = 3001 ∨ (S.1 54 39) + 3 ≤ (S'.1 54 39)) → ((S.2 57) a1 = 0 ∨ (S'.1 54 39) = 3001 ∨ (S.1 54 39) + 4 ≤ (S'.1 54 39)) → ((S'.1 54 39) ≤ 3001) → K r S') : wX11_end a1 S K := by
  unfold wX11_end
  intro g1
  refine tX11_putWord (by omega) (fun r7 S7 hS7 n7_0 n7_1 n7_2 n7_3 => ?_)
  have e1 : S7.2 57 (a1) = S.2 57 (a1) := congrFun (hS7.2 57 (by decide)) _
  refine tX11_putName (by omega) (by omega) (fun r12 S12 hS12 n12_0 n12_1 n12_2 => ?_)
  refine tX11_put  (fun r18 S18 hS18 n18_0 n18_1 => ?_)
  exact hK (0) S18 (Ch.wk (Ch.tr (Ch.tr hS7 hS12) hS18) (by decide) (by decide)) (by omega) (by omega) (by omega) (by omega)
