set_option maxRecDepth 100000 in
set_option maxHeartbeats 4000000 in
theorem tX11_sameNames {a1 a2 a3 a4 : Int} {S : St} {K : Int → St → Prop} (p1 : 0 ≤ a1) (p2 : a1 + a2 ≤ 3000) (p3 : 0 ≤ a2) (p4 : 0 ≤ a3) (p5 : a3 + a4 ≤ 3000) (hK : ∀ (r : Int), (iv 0 1 r) → K r S) : wX11_sameNames a1 a2 a3 a4 S K := by
  unfold wX11_sameNames
  intro g1 g2 g3 g4
  refine ⟨fun h3 => ?_, fun h3 => ?_⟩
  · unfold wX11_sameNames_11
    unfold wX11_sameNames_16
    refine ⟨fun u1 u2 u3 u5 u6 Sx => S = Sx ∧ a1 = u1 ∧ a2 = u2 ∧ a3 = u3 ∧ (iv 0 1 u5) ∧ (0 ≤ u6) ∧ (u6 ≤ a2) ∧ (u5 = 0 ∨ a2 = a4), fun u1 u2 u3 u5 u6 Sx => (a2 + 1 - u6).toNat, ?_, fun v16_1 v16_2 v16_3 v16_5 v16_6 S16h hI => ?_⟩
    · exact ⟨rfl, rfl, rfl, rfl, by omega, by omega, by omega, by omega⟩
    obtain ⟨rfl, rfl, rfl, rfl, i16_0, i16_1, i16_2, i16_3⟩ := hI
    unfold wX11_sameNames_16'
    refine ⟨by omega, ?_⟩
    refine ⟨by omega, ?_⟩
    refine ⟨fun h19 => ?_, fun h19 => ?_⟩
    · refine ⟨by omega, ?_⟩
      exact hK (v16_5) (by omega)
    · refine ⟨by omega, ?_⟩
      refine ⟨fun h24 => ?_, fun h24 => ?_⟩
      · refine ⟨by omega, ?_⟩
        exact hK (v16_5) (by omega)
      · refine ⟨by omega, by omega, ?_⟩
        intro q1
        refine ⟨by omega, by omega, ?_⟩
        intro q2
        refine ⟨fun h45 => ?_, fun h45 => ?_⟩
        · unfold wX11_sameNames_53
          exact ⟨⟨rfl, rfl, rfl, rfl, by omega, by omega, by omega, by omega⟩, show (a2 + 1 - ((v16_6 + 1))).toNat < (a2 + 1 - v16_6).toNat by omega⟩
        · unfold wX11_sameNames_53
          exact ⟨⟨rfl, rfl, rfl, rfl, by omega, by omega, by omega, by omega⟩, show (a2 + 1 - ((v16_6 + 1))).toNat < (a2 + 1 - v16_6).toNat by omega⟩
  · unfold wX11_sameNames_11
    unfold wX11_sameNames_16
    refine ⟨fun u1 u2 u3 u5 u6 Sx => S = Sx ∧ a1 = u1 ∧ a2 = u2 ∧ a3 = u3 ∧ (iv 0 1 u5) ∧ (0 ≤ u6) ∧ (u6 ≤ a2) ∧ (u5 = 0 ∨ a2 = a4), fun u1 u2 u3 u5 u6 Sx => (a2 + 1 - u6).toNat, ?_, fun v16_1 v16_2 v16_3 v16_5 v16_6 S16h hI => ?_⟩
    · exact ⟨rfl, rfl, rfl, rfl, by omega, by omega, by omega, by omega⟩
    obtain ⟨rfl, rfl, rfl, rfl, i16_0, i16_1, i16_2, i16_3⟩ := hI
    unfold wX11_sameNames_16'
    refine ⟨by omega, ?_⟩
    refine ⟨by omega, ?_⟩
    refine ⟨fun h19 => ?_, fun h19 => ?_⟩
    · refine ⟨by omega, ?_⟩
      exact hK (v16_5) (by omega)
    · refine ⟨by omega, ?_⟩
      refine ⟨fun h24 => ?_, fun h24 => ?_⟩
      · refine ⟨by omega, ?_⟩
        exact hK (v16_5) (by omega)
      · refine ⟨by omega, by omega, ?_⟩
        intro q3
        refine ⟨by omega, by omega, ?_⟩
        intro q4
        refine ⟨fun h45 => ?_, fun h45 => ?_⟩
        · unfold wX11_sameNames_53
          exact ⟨⟨rfl, rfl, rfl, rfl, by omega, by omega, by omega, by omega⟩, show (a2 + 1 - ((v16_6 + 1))).toNat < (a2 + 1 - v16_6).toNat by omega⟩
        · unfold wX11_sameNames_53
          exact ⟨⟨rfl, rfl, rfl, rfl, by omega, by omega, by omega, by omega⟩, show (a2 + 1 - ((v16_6 + 1))).toNat < (a2 + 1 - v16_6).toNat by omega⟩

