set_option maxRecDepth 100000 in
set_option maxHeartbeats 4000000 in
theorem tX11_childAt {a1 a2 a3 a4 : Int} {S : St} {K : Int → St → Prop} (p1 : 0 ≤ a2) (p2 : 0 ≤ a3) (p3 : a2 + a3 ≤ 3000) (p4 : PR S) (hK : ∀ (r : Int), (r = -2 ∨ (0 ≤ r ∧ r < (S.1 54 43))) → ((S.1 54 43) ≤ 200) → K r S) : wX11_childAt a1 a2 a3 a4 S K := by
  unfold wX11_childAt
  intro g1 g2 g3 g4
  unfold wX11_childAt_7
  refine ⟨fun u1 u2 u3 u4 u5 u6 Sx => S = Sx ∧ a1 = u1 ∧ a2 = u2 ∧ a3 = u3 ∧ a4 = u4 ∧ (iv 0 200 u6) ∧ (u6 = 0 ∨ u6 ≤ (Sx.1 54 43)) ∧ (u5 = -2 ∨ (0 ≤ u5 ∧ u5 < u6)), fun u1 u2 u3 u4 u5 u6 Sx => (201 - u6).toNat, ?_, fun v7_1 v7_2 v7_3 v7_4 v7_5 v7_6 S7h hI => ?_⟩
  · exact ⟨rfl, rfl, rfl, rfl, rfl, by omega, by omega, by omega⟩
  obtain ⟨rfl, rfl, rfl, rfl, rfl, i7_0, i7_1, i7_2⟩ := hI
  unfold wX11_childAt_7'
  intro q1
  refine ⟨by omega, ?_⟩
  refine ⟨fun h13 => ?_, fun h13 => ?_⟩
  · exact hK (v7_5) (by omega) (by omega)
  · refine ⟨by omega, by omega, ?_⟩
    intro q2
    refine ⟨by omega, ?_⟩
    refine ⟨fun h24 => ?_, fun h24 => ?_⟩
    · unfold wX11_childAt_54
      unfold wX11_childAt_55
      unfold wX11_childAt_60
      refine ⟨fun u1 u2 u3 u4 u5 u6 u7 u8 Sx => S = Sx ∧ a1 = u1 ∧ a2 = u2 ∧ a3 = u3 ∧ a4 = u4 ∧ v7_5 = u5 ∧ v7_6 = u6 ∧ (iv 0 1 u7) ∧ (0 ≤ u8) ∧ (u8 ≤ a3) ∧ (u7 = 0 ∨ (Sx.2 87) u6 = a3), fun u1 u2 u3 u4 u5 u6 u7 u8 Sx => (a3 + 1 - u8).toNat, ?_, fun v60_1 v60_2 v60_3 v60_4 v60_5 v60_6 v60_7 v60_8 S60h hI => ?_⟩
      · exact ⟨rfl, rfl, rfl, rfl, rfl, rfl, rfl, by omega, by omega, by omega, by omega⟩
      obtain ⟨rfl, rfl, rfl, rfl, rfl, rfl, rfl, i60_0, i60_1, i60_2, i60_3⟩ := hI
      unfold wX11_childAt_60'
      refine ⟨by omega, ?_⟩
      refine ⟨by omega, ?_⟩
      refine ⟨fun h63 => ?_, fun h63 => ?_⟩
      · unfold wX11_childAt_111
        refine ⟨by omega, ?_⟩
        refine ⟨fun h113 => ?_, fun h113 => ?_⟩
        · unfold wX11_childAt_123
          exact ⟨⟨rfl, rfl, rfl, rfl, rfl, by omega, by omega, by omega⟩, show (201 - ((v7_6 + 1))).toNat < (201 - v7_6).toNat by omega⟩
        · unfold wX11_childAt_123
          exact ⟨⟨rfl, rfl, rfl, rfl, rfl, by omega, by omega, by omega⟩, show (201 - ((v7_6 + 1))).toNat < (201 - v7_6).toNat by omega⟩
      · refine ⟨by omega, ?_⟩
        refine ⟨fun h68 => ?_, fun h68 => ?_⟩
        · unfold wX11_childAt_111
          refine ⟨by omega, ?_⟩
          refine ⟨fun h113 => ?_, fun h113 => ?_⟩
          · unfold wX11_childAt_123
            exact ⟨⟨rfl, rfl, rfl, rfl, rfl, by omega, by omega, by omega⟩, show (201 - ((v7_6 + 1))).toNat < (201 - v7_6).toNat by omega⟩
          · unfold wX11_childAt_123
            exact ⟨⟨rfl, rfl, rfl, rfl, rfl, by omega, by omega, by omega⟩, show (201 - ((v7_6 + 1))).toNat < (201 - v7_6).toNat by omega⟩
        · have hpr := p4.at (x := v7_6) (by omega) (by omega)
          refine ⟨by omega, by omega, ?_⟩
          intro q3
          refine ⟨by omega, by omega, ?_⟩
          intro q4
          refine ⟨by omega, by omega, ?_⟩
          intro q5
          refine ⟨fun h95 => ?_, fun h95 => ?_⟩
          · unfold wX11_childAt_103
            exact ⟨⟨rfl, rfl, rfl, rfl, rfl, rfl, rfl, by omega, by omega, by omega, by omega⟩, show (a3 + 1 - ((v60_8 + 1))).toNat < (a3 + 1 - v60_8).toNat by omega⟩
          · unfold wX11_childAt_103
            exact ⟨⟨rfl, rfl, rfl, rfl, rfl, rfl, rfl, by omega, by omega, by omega, by omega⟩, show (a3 + 1 - ((v60_8 + 1))).toNat < (a3 + 1 - v60_8).toNat by omega⟩
    · refine ⟨by omega, by omega, ?_⟩
      intro q6
      refine ⟨by omega, ?_⟩
      refine ⟨fun h36 => ?_, fun h36 => ?_⟩
      · unfold wX11_childAt_54
        unfold wX11_childAt_55
        unfold wX11_childAt_60
        refine ⟨fun u1 u2 u3 u4 u5 u6 u7 u8 Sx => S = Sx ∧ a1 = u1 ∧ a2 = u2 ∧ a3 = u3 ∧ a4 = u4 ∧ v7_5 = u5 ∧ v7_6 = u6 ∧ (iv 0 1 u7) ∧ (0 ≤ u8) ∧ (u8 ≤ a3) ∧ (u7 = 0 ∨ (Sx.2 87) u6 = a3), fun u1 u2 u3 u4 u5 u6 u7 u8 Sx => (a3 + 1 - u8).toNat, ?_, fun v60_1 v60_2 v60_3 v60_4 v60_5 v60_6 v60_7 v60_8 S60h hI => ?_⟩
        · exact ⟨rfl, rfl, rfl, rfl, rfl, rfl, rfl, by omega, by omega, by omega, by omega⟩
        obtain ⟨rfl, rfl, rfl, rfl, rfl, rfl, rfl, i60_0, i60_1, i60_2, i60_3⟩ := hI
        unfold wX11_childAt_60'
        refine ⟨by omega, ?_⟩
        refine ⟨by omega, ?_⟩
        refine ⟨fun h63 => ?_, fun h63 => ?_⟩
        · unfold wX11_childAt_111
          refine ⟨by omega, ?_⟩
          refine ⟨fun h113 => ?_, fun h113 => ?_⟩
          · unfold wX11_childAt_123
            exact ⟨⟨rfl, rfl, rfl, rfl, rfl, by omega, by omega, by omega⟩, show (201 - ((v7_6 + 1))).toNat < (201 - v7_6).toNat by omega⟩
          · unfold wX11_childAt_123
            exact ⟨⟨rfl, rfl, rfl, rfl, rfl, by omega, by omega, by omega⟩, show (201 - ((v7_6 + 1))).toNat < (201 - v7_6).toNat by omega⟩
        · refine ⟨by omega, ?_⟩
          refine ⟨fun h68 => ?_, fun h68 => ?_⟩
          · unfold wX11_childAt_111
            refine ⟨by omega, ?_⟩
            refine ⟨fun h113 => ?_, fun h113 => ?_⟩
            · unfold wX11_childAt_123
              exact ⟨⟨rfl, rfl, rfl, rfl, rfl, by omega, by omega, by omega⟩, show (201 - ((v7_6 + 1))).toNat < (201 - v7_6).toNat by omega⟩
            · unfold wX11_childAt_123
              exact ⟨⟨rfl, rfl, rfl, rfl, rfl, by omega, by omega, by omega⟩, show (201 - ((v7_6 + 1))).toNat < (201 - v7_6).toNat by omega⟩
          · have hpr := p4.at (x := v7_6) (by omega) (by omega)
            refine ⟨by omega, by omega, ?_⟩
            intro q7
            refine ⟨by omega, by omega, ?_⟩
            intro q8
            refine ⟨by omega, by omega, ?_⟩
            intro q9
            refine ⟨fun h95 => ?_, fun h95 => ?_⟩
            · unfold wX11_childAt_103
              exact ⟨⟨rfl, rfl, rfl, rfl, rfl, rfl, rfl, by omega, by omega, by omega, by omega⟩, show (a3 + 1 - ((v60_8 + 1))).toNat < (a3 + 1 - v60_8).toNat by omega⟩
            · unfold wX11_childAt_103
              exact ⟨⟨rfl, rfl, rfl, rfl, rfl, rfl, rfl, by omega, by omega, by omega, by omega⟩, show (a3 + 1 - ((v60_8 + 1))).toNat < (a3 + 1 - v60_8).toNat by omega⟩
      · refine ⟨by omega, by omega, ?_⟩
        intro q10
        refine ⟨by omega, ?_⟩
        refine ⟨fun h47 => ?_, fun h47 => ?_⟩
        · unfold wX11_childAt_54
          unfold wX11_childAt_55
          unfold wX11_childAt_60
          refine ⟨fun u1 u2 u3 u4 u5 u6 u7 u8 Sx => S = Sx ∧ a1 = u1 ∧ a2 = u2 ∧ a3 = u3 ∧ a4 = u4 ∧ v7_5 = u5 ∧ v7_6 = u6 ∧ (iv 0 1 u7) ∧ (0 ≤ u8) ∧ (u8 ≤ a3) ∧ (u7 = 0 ∨ (Sx.2 87) u6 = a3), fun u1 u2 u3 u4 u5 u6 u7 u8 Sx => (a3 + 1 - u8).toNat, ?_, fun v60_1 v60_2 v60_3 v60_4 v60_5 v60_6 v60_7 v60_8 S60h hI => ?_⟩
          · exact ⟨rfl, rfl, rfl, rfl, rfl, rfl, rfl, by omega, by omega, by omega, by omega⟩
          obtain ⟨rfl, rfl, rfl, rfl, rfl, rfl, rfl, i60_0, i60_1, i60_2, i60_3⟩ := hI
          unfold wX11_childAt_60'
          refine ⟨by omega, ?_⟩
          refine ⟨by omega, ?_⟩
          refine ⟨fun h63 => ?_, fun h63 => ?_⟩
          · unfold wX11_childAt_111
            refine ⟨by omega, ?_⟩
            refine ⟨fun h113 => ?_, fun h113 => ?_⟩
            · unfold wX11_childAt_123
              exact ⟨⟨rfl, rfl, rfl, rfl, rfl, by omega, by omega, by omega⟩, show (201 - ((v7_6 + 1))).toNat < (201 - v7_6).toNat by omega⟩
            · unfold wX11_childAt_123
              exact ⟨⟨rfl, rfl, rfl, rfl, rfl, by omega, by omega, by omega⟩, show (201 - ((v7_6 + 1))).toNat < (201 - v7_6).toNat by omega⟩
          · refine ⟨by omega, ?_⟩
            refine ⟨fun h68 => ?_, fun h68 => ?_⟩
            · unfold wX11_childAt_111
              refine ⟨by omega, ?_⟩
              refine ⟨fun h113 => ?_, fun h113 => ?_⟩
              · unfold wX11_childAt_123
                exact ⟨⟨rfl, rfl, rfl, rfl, rfl, by omega, by omega, by omega⟩, show (201 - ((v7_6 + 1))).toNat < (201 - v7_6).toNat by omega⟩
              · unfold wX11_childAt_123
                exact ⟨⟨rfl, rfl, rfl, rfl, rfl, by omega, by omega, by omega⟩, show (201 - ((v7_6 + 1))).toNat < (201 - v7_6).toNat by omega⟩
            · have hpr := p4.at (x := v7_6) (by omega) (by omega)
              refine ⟨by omega, by omega, ?_⟩
              intro q11
              refine ⟨by omega, by omega, ?_⟩
              intro q12
              refine ⟨by omega, by omega, ?_⟩
              intro q13
              refine ⟨fun h95 => ?_, fun h95 => ?_⟩
              · unfold wX11_childAt_103
                exact ⟨⟨rfl, rfl, rfl, rfl, rfl, rfl, rfl, by omega, by omega, by omega, by omega⟩, show (a3 + 1 - ((v60_8 + 1))).toNat < (a3 + 1 - v60_8).toNat by omega⟩
              · unfold wX11_childAt_103
                exact ⟨⟨rfl, rfl, rfl, rfl, rfl, rfl, rfl, by omega, by omega, by omega, by omega⟩, show (a3 + 1 - ((v60_8 + 1))).toNat < (a3 + 1 - v60_8).toNat by omega⟩
        · unfold wX11_childAt_55
          unfold wX11_childAt_60
          refine ⟨fun u1 u2 u3 u4 u5 u6 u7 u8 Sx => S = Sx ∧ a1 = u1 ∧ a2 = u2 ∧ a3 = u3 ∧ a4 = u4 ∧ v7_5 = u5 ∧ v7_6 = u6 ∧ (iv 0 1 u7) ∧ (0 ≤ u8) ∧ (u8 ≤ a3) ∧ (u7 = 0 ∨ (Sx.2 87) u6 = a3), fun u1 u2 u3 u4 u5 u6 u7 u8 Sx => (a3 + 1 - u8).toNat, ?_, fun v60_1 v60_2 v60_3 v60_4 v60_5 v60_6 v60_7 v60_8 S60h hI => ?_⟩
          · exact ⟨rfl, rfl, rfl, rfl, rfl, rfl, rfl, by omega, by omega, by omega, by omega⟩
          obtain ⟨rfl, rfl, rfl, rfl, rfl, rfl, rfl, i60_0, i60_1, i60_2, i60_3⟩ := hI
          unfold wX11_childAt_60'
          refine ⟨by omega, ?_⟩
          refine ⟨by omega, ?_⟩
          refine ⟨fun h63 => ?_, fun h63 => ?_⟩
          · unfold wX11_childAt_111
            refine ⟨by omega, ?_⟩
            refine ⟨fun h113 => ?_, fun h113 => ?_⟩
            · unfold wX11_childAt_123
              exact ⟨⟨rfl, rfl, rfl, rfl, rfl, by omega, by omega, by omega⟩, show (201 - ((v7_6 + 1))).toNat < (201 - v7_6).toNat by omega⟩
            · unfold wX11_childAt_123
              exact ⟨⟨rfl, rfl, rfl, rfl, rfl, by omega, by omega, by omega⟩, show (201 - ((v7_6 + 1))).toNat < (201 - v7_6).toNat by omega⟩
          · refine ⟨by omega, ?_⟩
            refine ⟨fun h68 => ?_, fun h68 => ?_⟩
            · unfold wX11_childAt_111
              refine ⟨by omega, ?_⟩
              refine ⟨fun h113 => ?_, fun h113 => ?_⟩
              · unfold wX11_childAt_123
                exact ⟨⟨rfl, rfl, rfl, rfl, rfl, by omega, by omega, by omega⟩, show (201 - ((v7_6 + 1))).toNat < (201 - v7_6).toNat by omega⟩
              · unfold wX11_childAt_123
                exact ⟨⟨rfl, rfl, rfl, rfl, rfl, by omega, by omega, by omega⟩, show (201 - ((v7_6 + 1))).toNat < (201 - v7_6).toNat by omega⟩
            · have hpr := p4.at (x := v7_6) (by omega) (by omega)
              refine ⟨by omega, by omega, ?_⟩
              intro q14
              refine ⟨by omega, by omega, ?_⟩
              intro q15
              refine ⟨by omega, by omega, ?_⟩
              intro q16
              refine ⟨fun h95 => ?_, fun h95 => ?_⟩
              · unfold wX11_childAt_103
                exact ⟨⟨rfl, rfl, rfl, rfl, rfl, rfl, rfl, by omega, by omega, by omega, by omega⟩, show (a3 + 1 - ((v60_8 + 1))).toNat < (a3 + 1 - v60_8).toNat by omega⟩
              · unfold wX11_childAt_103
                exact ⟨⟨rfl, rfl, rfl, rfl, rfl, rfl, rfl, by omega, by omega, by omega, by omega⟩, show (a3 + 1 - ((v60_8 + 1))).toNat < (a3 + 1 - v60_8).toNat by omega⟩

set_option maxRecDepth 100000 in
set_option maxHeartbeats 4000000 in
theorem tX11_writtenSign {a1 a2 : Int} {S : St} {K : Int → St → Prop} (p1 : iv 0 29 a1) (hK : ∀ (r : Int), (rng r) → K r S) : wX11_writtenSign a1 a2 S K := by
  unfold wX11_writtenSign
  intro g1 g2
  unfold wX11_writtenSign_5
  refine ⟨fun u1 u2 u3 u4 Sx => S = Sx ∧ a1 = u1 ∧ a2 = u2 ∧ (iv 0 8 u4) ∧ (iv 0 16 u3) ∧ (u3 ≤ 2 * u4), fun u1 u2 u3 u4 Sx => (9 - u4).toNat, ?_, fun v5_1 v5_2 v5_3 v5_4 S5h hI => ?_⟩
  · exact ⟨rfl, rfl, rfl, by omega, by omega, by omega⟩
  obtain ⟨rfl, rfl, rfl, i5_0, i5_1, i5_2⟩ := hI
  unfold wX11_writtenSign_5'
  refine ⟨by omega, by omega, ?_⟩
  intro q1
  refine ⟨by omega, ?_⟩
  refine ⟨fun h13 => ?_, fun h13 => ?_⟩
  · exact hK (0) (by omega)
  · refine ⟨by omega, by omega, ?_⟩
    intro q2
    intro x28 hx28
    subst hx28
    refine ⟨fun h34 => ?_, fun h34 => ?_⟩
    · unfold wX11_writtenSign_44
      unfold wX11_writtenSign_49
      refine ⟨by omega, ?_⟩
      refine ⟨by omega, ?_⟩
      refine ⟨fun h53 => ?_, fun h53 => ?_⟩
      · refine ⟨by omega, ?_⟩
        refine ⟨fun h71 => ?_, fun h71 => ?_⟩
        · unfold wX11_writtenSign_96
          refine ⟨by omega, ?_⟩
          refine ⟨fun h98 => ?_, fun h98 => ?_⟩
          · unfold wX11_writtenSign_110
            exact ⟨⟨rfl, rfl, rfl, by omega, by omega, by omega⟩, show (9 - ((v5_4 + 1))).toNat < (9 - v5_4).toNat by omega⟩
          · unfold wX11_writtenSign_110
            exact ⟨⟨rfl, rfl, rfl, by omega, by omega, by omega⟩, show (9 - ((v5_4 + 1))).toNat < (9 - v5_4).toNat by omega⟩
        · refine ⟨by omega, ?_⟩
          refine ⟨fun h78 => ?_, fun h78 => ?_⟩
          · unfold wX11_writtenSign_96
            refine ⟨by omega, ?_⟩
            refine ⟨fun h98 => ?_, fun h98 => ?_⟩
            · unfold wX11_writtenSign_110
              exact ⟨⟨rfl, rfl, rfl, by omega, by omega, by omega⟩, show (9 - ((v5_4 + 1))).toNat < (9 - v5_4).toNat by omega⟩
            · unfold wX11_writtenSign_110
              exact ⟨⟨rfl, rfl, rfl, by omega, by omega, by omega⟩, show (9 - ((v5_4 + 1))).toNat < (9 - v5_4).toNat by omega⟩
          · refine ⟨by omega, ?_⟩
            refine ⟨fun h85 => ?_, fun h85 => ?_⟩
            · exact hK (45) (by omega)
            · exact hK (95) (by omega)
      · refine ⟨by omega, ?_⟩
        refine ⟨fun h58 => ?_, fun h58 => ?_⟩
        · exact hK ((S.2 58 (((8 * a1) + v5_4)))) (by omega)
        · exact hK (95) (by omega)
    · refine ⟨fun h41 => ?_, fun h41 => ?_⟩
      · unfold wX11_writtenSign_49
        refine ⟨by omega, ?_⟩
        refine ⟨by omega, ?_⟩
        refine ⟨fun h53 => ?_, fun h53 => ?_⟩
        · refine ⟨by omega, ?_⟩
          refine ⟨fun h71 => ?_, fun h71 => ?_⟩
          · unfold wX11_writtenSign_96
            refine ⟨by omega, ?_⟩
            refine ⟨fun h98 => ?_, fun h98 => ?_⟩
            · unfold wX11_writtenSign_110
              exact ⟨⟨rfl, rfl, rfl, by omega, by omega, by omega⟩, show (9 - ((v5_4 + 1))).toNat < (9 - v5_4).toNat by omega⟩
            · unfold wX11_writtenSign_110
              exact ⟨⟨rfl, rfl, rfl, by omega, by omega, by omega⟩, show (9 - ((v5_4 + 1))).toNat < (9 - v5_4).toNat by omega⟩
          · refine ⟨by omega, ?_⟩
            refine ⟨fun h78 => ?_, fun h78 => ?_⟩
            · unfold wX11_writtenSign_96
              refine ⟨by omega, ?_⟩
              refine ⟨fun h98 => ?_, fun h98 => ?_⟩
              · unfold wX11_writtenSign_110
                exact ⟨⟨rfl, rfl, rfl, by omega, by omega, by omega⟩, show (9 - ((v5_4 + 1))).toNat < (9 - v5_4).toNat by omega⟩
              · unfold wX11_writtenSign_110
                exact ⟨⟨rfl, rfl, rfl, by omega, by omega, by omega⟩, show (9 - ((v5_4 + 1))).toNat < (9 - v5_4).toNat by omega⟩
            · refine ⟨by omega, ?_⟩
              refine ⟨fun h85 => ?_, fun h85 => ?_⟩
              · exact hK (45) (by omega)
              · exact hK (95) (by omega)
        · refine ⟨by omega, ?_⟩
          refine ⟨fun h58 => ?_, fun h58 => ?_⟩
          · exact hK ((S.2 58 (((8 * a1) + v5_4)))) (by omega)
          · exact hK (95) (by omega)
      · unfold wX11_writtenSign_44
        unfold wX11_writtenSign_49
        refine ⟨by omega, ?_⟩
        refine ⟨by omega, ?_⟩
        refine ⟨fun h53 => ?_, fun h53 => ?_⟩
        · refine ⟨by omega, ?_⟩
          refine ⟨fun h71 => ?_, fun h71 => ?_⟩
          · unfold wX11_writtenSign_96
            refine ⟨by omega, ?_⟩
            refine ⟨fun h98 => ?_, fun h98 => ?_⟩
            · unfold wX11_writtenSign_110
              exact ⟨⟨rfl, rfl, rfl, by omega, by omega, by omega⟩, show (9 - ((v5_4 + 1))).toNat < (9 - v5_4).toNat by omega⟩
            · unfold wX11_writtenSign_110
              exact ⟨⟨rfl, rfl, rfl, by omega, by omega, by omega⟩, show (9 - ((v5_4 + 1))).toNat < (9 - v5_4).toNat by omega⟩
          · refine ⟨by omega, ?_⟩
            refine ⟨fun h78 => ?_, fun h78 => ?_⟩
            · unfold wX11_writtenSign_96
              refine ⟨by omega, ?_⟩
              refine ⟨fun h98 => ?_, fun h98 => ?_⟩
              · unfold wX11_writtenSign_110
                exact ⟨⟨rfl, rfl, rfl, by omega, by omega, by omega⟩, show (9 - ((v5_4 + 1))).toNat < (9 - v5_4).toNat by omega⟩
              · unfold wX11_writtenSign_110
                exact ⟨⟨rfl, rfl, rfl, by omega, by omega, by omega⟩, show (9 - ((v5_4 + 1))).toNat < (9 - v5_4).toNat by omega⟩
            · refine ⟨by omega, ?_⟩
              refine ⟨fun h85 => ?_, fun h85 => ?_⟩
              · exact hK (45) (by omega)
              · exact hK (95) (by omega)
        · refine ⟨by omega, ?_⟩
          refine ⟨fun h58 => ?_, fun h58 => ?_⟩
          · exact hK ((S.2 58 (((8 * a1) + v5_4)))) (by omega)
          · exact hK (95) (by omega)

set_option maxRecDepth 100000 in
set_option maxHeartbeats 4000000 in
theorem tX11_isNamed {a1 a2 a3 : Int} {S : St} {K : Int → St → Prop} (p1 : 0 ≤ a1) (p2 : 0 ≤ a2) (p3 : a1 + a2 ≤ 3000) (p4 : iv 0 29 a3) (hK : ∀ (r : Int), (iv 0 1 r) → K r S) : wX11_isNamed a1 a2 a3 S K := by
  unfold wX11_isNamed
  intro g1 g2 g3
  refine tX11_writtenSign (by omega) (fun r3 n3_0 => ?_)
  refine ⟨by omega, ?_⟩
  refine ⟨fun h6 => ?_, fun h6 => ?_⟩
  · unfold wX11_isNamed_14
    unfold wX11_isNamed_19
    refine ⟨fun u1 u2 u3 u4 u5 Sx => S = Sx ∧ a1 = u1 ∧ a2 = u2 ∧ a3 = u3 ∧ (iv 0 1 u4) ∧ (0 ≤ u5) ∧ (u5 ≤ a2), fun u1 u2 u3 u4 u5 Sx => (a2 + 1 - u5).toNat, ?_, fun v19_1 v19_2 v19_3 v19_4 v19_5 S19h hI => ?_⟩
    · exact ⟨rfl, rfl, rfl, rfl, by omega, by omega, by omega⟩
    obtain ⟨rfl, rfl, rfl, rfl, i19_0, i19_1, i19_2⟩ := hI
    unfold wX11_isNamed_19'
    refine ⟨by omega, ?_⟩
    refine ⟨by omega, ?_⟩
    refine ⟨fun h22 => ?_, fun h22 => ?_⟩
    · refine ⟨by omega, ?_⟩
      exact hK (v19_4) (by omega)
    · refine ⟨by omega, ?_⟩
      refine ⟨fun h27 => ?_, fun h27 => ?_⟩
      · refine ⟨by omega, ?_⟩
        exact hK (v19_4) (by omega)
      · refine ⟨by omega, by omega, ?_⟩
        intro q1
        refine ⟨by omega, ?_⟩
        refine tX11_writtenSign (by omega) (fun r43 n43_0 => ?_)
        refine ⟨by omega, ?_⟩
        refine ⟨fun h46 => ?_, fun h46 => ?_⟩
        · unfold wX11_isNamed_54
          exact ⟨⟨rfl, rfl, rfl, rfl, by omega, by omega, by omega⟩, show (a2 + 1 - ((v19_5 + 1))).toNat < (a2 + 1 - v19_5).toNat by omega⟩
        · unfold wX11_isNamed_54
          exact ⟨⟨rfl, rfl, rfl, rfl, by omega, by omega, by omega⟩, show (a2 + 1 - ((v19_5 + 1))).toNat < (a2 + 1 - v19_5).toNat by omega⟩
  · unfold wX11_isNamed_14
    unfold wX11_isNamed_19
    refine ⟨fun u1 u2 u3 u4 u5 Sx => S = Sx ∧ a1 = u1 ∧ a2 = u2 ∧ a3 = u3 ∧ (iv 0 1 u4) ∧ (0 ≤ u5) ∧ (u5 ≤ a2), fun u1 u2 u3 u4 u5 Sx => (a2 + 1 - u5).toNat, ?_, fun v19_1 v19_2 v19_3 v19_4 v19_5 S19h hI => ?_⟩
    · exact ⟨rfl, rfl, rfl, rfl, by omega, by omega, by omega⟩
    obtain ⟨rfl, rfl, rfl, rfl, i19_0, i19_1, i19_2⟩ := hI
    unfold wX11_isNamed_19'
    refine ⟨by omega, ?_⟩
    refine ⟨by omega, ?_⟩
    refine ⟨fun h22 => ?_, fun h22 => ?_⟩
    · refine ⟨by omega, ?_⟩
      exact hK (v19_4) (by omega)
    · refine ⟨by omega, ?_⟩
      refine ⟨fun h27 => ?_, fun h27 => ?_⟩
      · refine ⟨by omega, ?_⟩
        exact hK (v19_4) (by omega)
      · refine ⟨by omega, by omega, ?_⟩
        intro q2
        refine ⟨by omega, ?_⟩
        refine tX11_writtenSign (by omega) (fun r43 n43_0 => ?_)
        refine ⟨by omega, ?_⟩
        refine ⟨fun h46 => ?_, fun h46 => ?_⟩
        · unfold wX11_isNamed_54
          exact ⟨⟨rfl, rfl, rfl, rfl, by omega, by omega, by omega⟩, show (a2 + 1 - ((v19_5 + 1))).toNat < (a2 + 1 - v19_5).toNat by omega⟩
        · unfold wX11_isNamed_54
          exact ⟨⟨rfl, rfl, rfl, rfl, by omega, by omega, by omega⟩, show (a2 + 1 - ((v19_5 + 1))).toNat < (a2 + 1 - v19_5).toNat by omega⟩

set_option maxRecDepth 100000 in
set_option maxHeartbeats 4000000 in
theorem tX11_classNamed {a1 a2 : Int} {S : St} {K : Int → St → Prop} (p1 : 0 ≤ a1) (p2 : 0 ≤ a2) (p3 : a1 + a2 ≤ 3000) (hK : ∀ (r : Int), (r = -2 ∨ (0 ≤ r ∧ r < (S.1 54 2))) → ((S.1 54 2) ≤ 6) → K r S) : wX11_classNamed a1 a2 S K := by
  unfold wX11_classNamed
  intro g1 g2
  unfold wX11_classNamed_6
  refine ⟨fun u1 u2 u3 u4 Sx => S = Sx ∧ a1 = u1 ∧ a2 = u2 ∧ (iv 0 6 u4) ∧ (u3 = -2 ∨ (0 ≤ u3 ∧ u3 < u4)) ∧ (u4 = 0 ∨ u4 ≤ (Sx.1 54 2)), fun u1 u2 u3 u4 Sx => (7 - u4).toNat, ?_, fun v6_1 v6_2 v6_3 v6_4 S6h hI => ?_⟩
  · exact ⟨rfl, rfl, rfl, by omega, by omega, by omega⟩
  obtain ⟨rfl, rfl, rfl, i6_0, i6_1, i6_2⟩ := hI
  unfold wX11_classNamed_6'
  intro q1
  refine ⟨by omega, ?_⟩
  refine ⟨fun h12 => ?_, fun h12 => ?_⟩
  · exact hK (v6_3) (by omega) (by omega)
  · refine ⟨by omega, by omega, ?_⟩
    intro q2
    refine ⟨fun h22 => ?_, fun h22 => ?_⟩
    · unfold wX11_classNamed_41
      unfold wX11_classNamed_42
      exact ⟨⟨rfl, rfl, rfl, by omega, by omega, by omega⟩, show (7 - ((v6_4 + 1))).toNat < (7 - v6_4).toNat by omega⟩
    · refine ⟨by omega, ?_⟩
      refine ⟨by omega, ?_⟩
      refine tX11_isNamed (by omega) (by omega) (by omega) (by omega) (fun r30 n30_0 => ?_)
      refine ⟨by omega, ?_⟩
      refine ⟨fun h33 => ?_, fun h33 => ?_⟩
      · unfold wX11_classNamed_41
        unfold wX11_classNamed_42
        exact ⟨⟨rfl, rfl, rfl, by omega, by omega, by omega⟩, show (7 - ((v6_4 + 1))).toNat < (7 - v6_4).toNat by omega⟩
      · unfold wX11_classNamed_42
        exact ⟨⟨rfl, rfl, rfl, by omega, by omega, by omega⟩, show (7 - ((v6_4 + 1))).toNat < (7 - v6_4).toNat by omega⟩

