set_option maxRecDepth 100000 in
set_option maxHeartbeats 4000000 in
theorem tX11_value {a1 a2 a3 a4 : Int} {S : St} {K : Int → St → Prop} (p1 : HV S) (p2 : (S.2 67) 0 ≤ 30) (p3 : (S.2 67) 1 ≤ 30) (hK : ∀ (r : Int), (rng r) → K r S) : wX11_value a1 a2 a3 a4 S K := by
  unfold wX11_value
  intro g1 g2 g3 g4
  refine tX11_kindAt  (fun r4 n4_0 => ?_)
  refine ⟨by omega, ?_⟩
  refine ⟨fun h12 => ?_, fun h12 => ?_⟩
  · have hg := n4_0.resolve_left (by omega)
    clear n4_0
    have ht : tyV (S.2 67 (a1)) (S.2 59 (4 * S.2 68 (30 * a1 + a2) + a3)) (S.2 69 (4 * (30 * a1 + a2) + a3)) := by
      rcases (show a1 = 0 ∨ a1 = 1 by omega) with h | h
      · rw [h]
        rw [h] at hg
        rw [show (30 : Int) * 0 + a2 = a2 by omega]
        exact p1.k0 (by omega) (by omega) (by omega) (by omega)
      · rw [h]
        rw [h] at hg
        rw [show (30 : Int) * 1 + a2 = 30 + a2 by omega]
        exact p1.k1 (by omega) (by omega) (by omega) (by omega)
    unfold tyV at ht
    have hca : S.2 67 a1 ≤ 30 := by
      rcases (show a1 = 0 ∨ a1 = 1 by omega) with h | h
      · rw [h]; omega
      · rw [h]; omega
    intro x27 hx27
    subst hx27
    refine ⟨fun h31 => ?_, fun h31 => ?_⟩
    · refine ⟨by omega, by omega, ?_⟩
      intro q1
      exact hK (S.2 69 ((((4 * ((30 * a1) + a2)) + a3)))) (by omega)
    · refine ⟨fun h37 => ?_, fun h37 => ?_⟩
      · refine ⟨by omega, by omega, ?_⟩
        intro q2
        refine ⟨by omega, ?_⟩
        refine tX11_in  (fun r60 n60_0 => ?_)
        refine ⟨by omega, ?_⟩
        refine ⟨fun h63 => ?_, fun h63 => ?_⟩
        · exact hK ((-2)) (by omega)
        · refine ⟨by omega, by omega, ?_⟩
          intro q3
          exact hK (S.2 70 (((20 * (((4 * ((30 * a1) + a2)) + a3))) + a4))) (by omega)
      · refine ⟨by omega, by omega, ?_⟩
        intro q4
        exact hK (S.2 69 ((((4 * ((30 * a1) + a2)) + a3)))) (by omega)
  · exact hK (0) (by omega)

