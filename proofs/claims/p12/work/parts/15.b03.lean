set_option maxRecDepth 100000 in
set_option maxHeartbeats 4000000 in
theorem tX11_isId {a1 a2 : Int} {S : St} {K : Int → St → Prop} (p1 : iv 0 199 a1) (p2 : iv 0 599 a2) (p3 : (S.2 94) a2 + (S.2 95) a2 ≤ 3000) (hK : ∀ (r : Int) (S' : St), Ch [] [102] S S' → (iv 0 1 r) → K r S') : wX11_isId a1 a2 S K := by
  unfold wX11_isId
  intro g1 g2
  refine ⟨by omega, by omega, ?_⟩
  intro q1
  intro x6 hx6
  subst hx6
  unfold wX11_isId_13
  refine ⟨fun u1 u2 u3 u4 u5 Sx => S = Sx ∧ a1 = u1 ∧ a2 = u2 ∧ (S.2 95 (a2)) = u3 ∧ (iv 0 5 u5) ∧ (0 ≤ u4) ∧ (u4 < p10 u5), fun u1 u2 u3 u4 u5 Sx => (6 - u5).toNat, ?_, fun v13_1 v13_2 v13_3 v13_4 v13_5 S13h hI => ?_⟩
  · exact ⟨rfl, rfl, rfl, rfl, by omega, by omega, by have := p10_0; omega⟩
  obtain ⟨rfl, rfl, rfl, rfl, i13_0, i13_1, i13_2⟩ := hI
  unfold wX11_isId_13'
  have h10 := p10_5 (n := v13_5) (by omega)
  have h101 := p10_1 (n := v13_5)
  refine ⟨by omega, ?_⟩
  refine ⟨by omega, ?_⟩
  refine ⟨fun h16 => ?_, fun h16 => ?_⟩
  · unfold wX11_isId_82
    refine ⟨by omega, ?_⟩
    refine tX11_in  (fun r85 n85_0 => ?_)
    refine ⟨by omega, ?_⟩
    refine ⟨fun h88 => ?_, fun h88 => ?_⟩
    · refine ⟨by omega, by omega, ?_⟩
      refine ⟨by omega, ?_⟩
      intro S100 hS100e
      have hS100 : Ch [] [102] S S100 := Ch_A hS100e
      have hS100v : ∀ x, (x = a1 ∧ S100.2 102 x = v13_4) ∨ (¬ x = a1 ∧ S100.2 102 x = S.2 102 x) := pA_at hS100e
      unfold wX11_isId_107
      refine ⟨fun u1 u4 u5 u6 Sx => S100 = Sx ∧ a1 = u1 ∧ v13_4 = u4 ∧ (iv 0 1 u5) ∧ (0 ≤ u6) ∧ (u6 ≤ a1), fun u1 u4 u5 u6 Sx => (a1 + 1 - u6).toNat, ?_, fun v107_1 v107_4 v107_5 v107_6 S107h hI => ?_⟩
      · exact ⟨rfl, rfl, rfl, by omega, by omega, by omega⟩
      obtain ⟨rfl, rfl, rfl, i107_0, i107_1, i107_2⟩ := hI
      unfold wX11_isId_107'
      refine ⟨by omega, ?_⟩
      refine ⟨by omega, ?_⟩
      refine ⟨fun h110 => ?_, fun h110 => ?_⟩
      · refine ⟨by omega, ?_⟩
        refine ⟨fun h145 => ?_, fun h145 => ?_⟩
        · exact hK (0) S100 (Ch.wk hS100 (by decide) (by decide)) (by omega)
        · exact hK (1) S100 (Ch.wk hS100 (by decide) (by decide)) (by omega)
      · refine ⟨by omega, ?_⟩
        refine ⟨fun h115 => ?_, fun h115 => ?_⟩
        · unfold wX11_isId_130
          unfold wX11_isId_135
          exact ⟨⟨rfl, rfl, rfl, by omega, by omega, by omega⟩, show (a1 + 1 - ((v107_6 + 1))).toNat < (a1 + 1 - v107_6).toNat by omega⟩
        · refine ⟨by omega, by omega, ?_⟩
          intro q2
          first | have e3 : S100.2 102 (v107_6) = S.2 102 (v107_6) := by have q := hS100v (v107_6); omega | have e3 : S100.2 102 (v107_6) = (v13_4) := by have q := hS100v (v107_6); omega | have e3 := hS100v (v107_6)
          refine ⟨by omega, ?_⟩
          refine ⟨fun h127 => ?_, fun h127 => ?_⟩
          · unfold wX11_isId_135
            exact ⟨⟨rfl, rfl, rfl, by omega, by omega, by omega⟩, show (a1 + 1 - ((v107_6 + 1))).toNat < (a1 + 1 - v107_6).toNat by omega⟩
          · unfold wX11_isId_130
            unfold wX11_isId_135
            exact ⟨⟨rfl, rfl, rfl, by omega, by omega, by omega⟩, show (a1 + 1 - ((v107_6 + 1))).toNat < (a1 + 1 - v107_6).toNat by omega⟩
    · exact hK (0) S (Ch.wk Ch.rf (by decide) (by decide)) (by omega)
  · refine ⟨fun h22 => ?_, fun h22 => ?_⟩
    · unfold wX11_isId_82
      refine ⟨by omega, ?_⟩
      refine tX11_in  (fun r85 n85_0 => ?_)
      refine ⟨by omega, ?_⟩
      refine ⟨fun h88 => ?_, fun h88 => ?_⟩
      · refine ⟨by omega, by omega, ?_⟩
        refine ⟨by omega, ?_⟩
        intro S100 hS100e
        have hS100 : Ch [] [102] S S100 := Ch_A hS100e
        have hS100v : ∀ x, (x = a1 ∧ S100.2 102 x = v13_4) ∨ (¬ x = a1 ∧ S100.2 102 x = S.2 102 x) := pA_at hS100e
        unfold wX11_isId_107
        refine ⟨fun u1 u4 u5 u6 Sx => S100 = Sx ∧ a1 = u1 ∧ v13_4 = u4 ∧ (iv 0 1 u5) ∧ (0 ≤ u6) ∧ (u6 ≤ a1), fun u1 u4 u5 u6 Sx => (a1 + 1 - u6).toNat, ?_, fun v107_1 v107_4 v107_5 v107_6 S107h hI => ?_⟩
        · exact ⟨rfl, rfl, rfl, by omega, by omega, by omega⟩
        obtain ⟨rfl, rfl, rfl, i107_0, i107_1, i107_2⟩ := hI
        unfold wX11_isId_107'
        refine ⟨by omega, ?_⟩
        refine ⟨by omega, ?_⟩
        refine ⟨fun h110 => ?_, fun h110 => ?_⟩
        · refine ⟨by omega, ?_⟩
          refine ⟨fun h145 => ?_, fun h145 => ?_⟩
          · exact hK (0) S100 (Ch.wk hS100 (by decide) (by decide)) (by omega)
          · exact hK (1) S100 (Ch.wk hS100 (by decide) (by decide)) (by omega)
        · refine ⟨by omega, ?_⟩
          refine ⟨fun h115 => ?_, fun h115 => ?_⟩
          · unfold wX11_isId_130
            unfold wX11_isId_135
            exact ⟨⟨rfl, rfl, rfl, by omega, by omega, by omega⟩, show (a1 + 1 - ((v107_6 + 1))).toNat < (a1 + 1 - v107_6).toNat by omega⟩
          · refine ⟨by omega, by omega, ?_⟩
            intro q4
            first | have e5 : S100.2 102 (v107_6) = S.2 102 (v107_6) := by have q := hS100v (v107_6); omega | have e5 : S100.2 102 (v107_6) = (v13_4) := by have q := hS100v (v107_6); omega | have e5 := hS100v (v107_6)
            refine ⟨by omega, ?_⟩
            refine ⟨fun h127 => ?_, fun h127 => ?_⟩
            · unfold wX11_isId_135
              exact ⟨⟨rfl, rfl, rfl, by omega, by omega, by omega⟩, show (a1 + 1 - ((v107_6 + 1))).toNat < (a1 + 1 - v107_6).toNat by omega⟩
            · unfold wX11_isId_130
              unfold wX11_isId_135
              exact ⟨⟨rfl, rfl, rfl, by omega, by omega, by omega⟩, show (a1 + 1 - ((v107_6 + 1))).toNat < (a1 + 1 - v107_6).toNat by omega⟩
      · exact hK (0) S (Ch.wk Ch.rf (by decide) (by decide)) (by omega)
    · refine ⟨by omega, by omega, ?_⟩
      intro q6
      refine ⟨by omega, by omega, ?_⟩
      intro q7
      intro x39 hx39
      subst hx39
      refine tX11_isDigit  (fun r43 n43_0 => ?_)
      refine ⟨by omega, ?_⟩
      refine ⟨fun h46 => ?_, fun h46 => ?_⟩
      · exact hK (0) S (Ch.wk Ch.rf (by decide) (by decide)) (by omega)
      · refine ⟨fun h51 => ?_, fun h51 => ?_⟩
        · unfold wX11_isId_63
          intro x74 hx74
          subst hx74
          have h11 := p10_s (n := v13_5) (by omega)
          exact ⟨⟨rfl, rfl, rfl, rfl, by omega, by omega, by omega⟩, show (6 - ((v13_5 + 1))).toNat < (6 - v13_5).toNat by omega⟩
        · refine ⟨fun h58 => ?_, fun h58 => ?_⟩
          · unfold wX11_isId_63
            intro x74 hx74
            subst hx74
            have h11 := p10_s (n := v13_5) (by omega)
            exact ⟨⟨rfl, rfl, rfl, rfl, by omega, by omega, by omega⟩, show (6 - ((v13_5 + 1))).toNat < (6 - v13_5).toNat by omega⟩
          · exact hK (0) S (Ch.wk Ch.rf (by decide) (by decide)) (by omega)

set_option maxRecDepth 100000 in
set_option maxHeartbeats 4000000 in
theorem tX11_isKey {a1 a2 : Int} {S : St} {K : Int → St → Prop} (p1 : iv 0 599 a1) (p2 : (S.2 92) a1 + (S.2 93) a1 ≤ 3000) (hK : ∀ (r : Int), (iv 0 1 r) → K r S) : wX11_isKey a1 a2 S K := by
  unfold wX11_isKey
  intro g1 g2
  refine ⟨by omega, by omega, ?_⟩
  intro q1
  refine tX11_wordSign (by omega) (fun r7 n7_0 n7_1 => ?_)
  refine ⟨by omega, ?_⟩
  refine ⟨fun h10 => ?_, fun h10 => ?_⟩
  · unfold wX11_isKey_18
    unfold wX11_isKey_22
    refine ⟨fun u1 u2 u3 u4 Sx => S = Sx ∧ a1 = u1 ∧ a2 = u2 ∧ (iv 0 1 u3) ∧ (0 ≤ u4) ∧ (u4 ≤ 3000), fun u1 u2 u3 u4 Sx => (3001 - u4).toNat, ?_, fun v22_1 v22_2 v22_3 v22_4 S22h hI => ?_⟩
    · exact ⟨rfl, rfl, rfl, by omega, by omega, by omega⟩
    obtain ⟨rfl, rfl, rfl, i22_0, i22_1, i22_2⟩ := hI
    unfold wX11_isKey_22'
    refine ⟨by omega, by omega, ?_⟩
    intro q2
    refine ⟨by omega, ?_⟩
    refine ⟨fun h30 => ?_, fun h30 => ?_⟩
    · refine ⟨by omega, ?_⟩
      exact hK (v22_3) (by omega)
    · refine ⟨by omega, ?_⟩
      refine ⟨fun h34 => ?_, fun h34 => ?_⟩
      · refine ⟨by omega, ?_⟩
        exact hK (v22_3) (by omega)
      · refine ⟨by omega, by omega, ?_⟩
        intro q3
        refine ⟨by omega, by omega, ?_⟩
        intro q4
        refine ⟨by omega, ?_⟩
        refine tX11_wordSign (by omega) (fun r54 n54_0 n54_1 => ?_)
        refine ⟨by omega, ?_⟩
        refine ⟨fun h57 => ?_, fun h57 => ?_⟩
        · unfold wX11_isKey_65
          exact ⟨⟨rfl, rfl, rfl, by omega, by omega, by omega⟩, show (3001 - ((v22_4 + 1))).toNat < (3001 - v22_4).toNat by omega⟩
        · unfold wX11_isKey_65
          exact ⟨⟨rfl, rfl, rfl, by omega, by omega, by omega⟩, show (3001 - ((v22_4 + 1))).toNat < (3001 - v22_4).toNat by omega⟩
  · unfold wX11_isKey_18
    unfold wX11_isKey_22
    refine ⟨fun u1 u2 u3 u4 Sx => S = Sx ∧ a1 = u1 ∧ a2 = u2 ∧ (iv 0 1 u3) ∧ (0 ≤ u4) ∧ (u4 ≤ 3000), fun u1 u2 u3 u4 Sx => (3001 - u4).toNat, ?_, fun v22_1 v22_2 v22_3 v22_4 S22h hI => ?_⟩
    · exact ⟨rfl, rfl, rfl, by omega, by omega, by omega⟩
    obtain ⟨rfl, rfl, rfl, i22_0, i22_1, i22_2⟩ := hI
    unfold wX11_isKey_22'
    refine ⟨by omega, by omega, ?_⟩
    intro q5
    refine ⟨by omega, ?_⟩
    refine ⟨fun h30 => ?_, fun h30 => ?_⟩
    · refine ⟨by omega, ?_⟩
      exact hK (v22_3) (by omega)
    · refine ⟨by omega, ?_⟩
      refine ⟨fun h34 => ?_, fun h34 => ?_⟩
      · refine ⟨by omega, ?_⟩
        exact hK (v22_3) (by omega)
      · refine ⟨by omega, by omega, ?_⟩
        intro q6
        refine ⟨by omega, by omega, ?_⟩
        intro q7
        refine ⟨by omega, ?_⟩
        refine tX11_wordSign (by omega) (fun r54 n54_0 n54_1 => ?_)
        refine ⟨by omega, ?_⟩
        refine ⟨fun h57 => ?_, fun h57 => ?_⟩
        · unfold wX11_isKey_65
          exact ⟨⟨rfl, rfl, rfl, by omega, by omega, by omega⟩, show (3001 - ((v22_4 + 1))).toNat < (3001 - v22_4).toNat by omega⟩
        · unfold wX11_isKey_65
          exact ⟨⟨rfl, rfl, rfl, by omega, by omega, by omega⟩, show (3001 - ((v22_4 + 1))).toNat < (3001 - v22_4).toNat by omega⟩

set_option maxRecDepth 100000 in
set_option maxHeartbeats 4000000 in
theorem tX11_pieceOfValue {a1 : Int} {S : St} {K : Int → St → Prop} (p1 : iv 0 599 a1) (p2 : (S.2 94) a1 + (S.2 95) a1 ≤ 3000) (hK : ∀ (r : Int) (S' : St), Ch [67] [104] S S' → (iv 0 3000 ((S'.1 54 67))) → K r S') : wX11_pieceOfValue a1 S K := by
  unfold wX11_pieceOfValue
  intro g1
  refine ⟨by omega, by omega, ?_⟩
  intro q1
  intro S7 hS7e
  have hS7 : Ch [67] [] S S7 := Ch_I hS7e
  have hS7v : S7.1 54 67 = S.2 95 (a1) := pI_at hS7e
  unfold wX11_pieceOfValue_12
  refine ⟨fun u1 u2 Sx => Ch [] [104] S7 Sx ∧ a1 = u1 ∧ (iv 0 3000 u2) ∧ ((Sx.1 54 67) = (S.2 95) a1), fun u1 u2 Sx => (3001 - u2).toNat, ?_, fun v12_1 v12_2 S12h hI => ?_⟩
  · exact ⟨Ch.re, rfl, by omega, by omega⟩
  obtain ⟨hS12h, rfl, i12_0, i12_1⟩ := hI
  unfold wX11_pieceOfValue_12'
  intro q2
  have e3 : S12h.1 54 67 = S7.1 54 67 := hS12h.1 67 (by decide)
  refine ⟨by omega, ?_⟩
  refine ⟨fun h17 => ?_, fun h17 => ?_⟩
  · have e4 : S12h.1 54 67 = S7.1 54 67 := hS12h.1 67 (by decide)
    exact hK (0) S12h (Ch.wk (Ch.tr hS7 hS12h) (by decide) (by decide)) (by omega)
  · refine ⟨by omega, by omega, ?_⟩
    intro q5
    have e6 : S12h.2 94 (a1) = S7.2 94 (a1) := congrFun (hS12h.2 94 (by decide)) _
    have e7 : S7.2 94 (a1) = S.2 94 (a1) := congrFun (hS7.2 94 (by decide)) _
    refine ⟨by omega, by omega, ?_⟩
    intro q8
    have e9 : S12h.2 96 ((S12h.2 94 (a1) + v12_2)) = S7.2 96 ((S12h.2 94 (a1) + v12_2)) := congrFun (hS12h.2 96 (by decide)) _
    have e10 : S7.2 96 ((S12h.2 94 (a1) + v12_2)) = S.2 96 ((S12h.2 94 (a1) + v12_2)) := congrFun (hS7.2 96 (by decide)) _
    refine ⟨by omega, by omega, ?_⟩
    intro S38 hS38e
    have hS38 : Ch [] [104] S12h S38 := Ch_A hS38e
    have hS38v : ∀ x, (x = v12_2 ∧ S38.2 104 x = S12h.2 96 ((S12h.2 94 (a1) + v12_2))) ∨ (¬ x = v12_2 ∧ S38.2 104 x = S12h.2 104 x) := pA_at hS38e
    have e11 : S38.1 54 67 = S12h.1 54 67 := hS38.1 67 (by decide)
    have e12 : S12h.1 54 67 = S7.1 54 67 := hS12h.1 67 (by decide)
    exact ⟨⟨(Ch.wk (Ch.tr hS12h hS38) (by decide) (by decide)), rfl, by omega, by omega⟩, show (3001 - ((v12_2 + 1))).toNat < (3001 - v12_2).toNat by omega⟩

set_option maxRecDepth 100000 in
set_option maxHeartbeats 4000000 in
theorem tX11_textSize {a1 : Int} {S : St} {K : Int → St → Prop}  (hK : ∀ (r : Int), (iv 0 3000 r) → K r S) : wX11_textSize a1 S K := by
  unfold wX11_textSize
  intro g1
  unfold wX11_textSize_4
  refine ⟨fun u1 u2 u3 Sx => S = Sx ∧ a1 = u1 ∧ (iv 0 3000 u3) ∧ (iv 0 3000 u2) ∧ (u2 ≤ u3), fun u1 u2 u3 Sx => (3001 - u3).toNat, ?_, fun v4_1 v4_2 v4_3 S4h hI => ?_⟩
  · exact ⟨rfl, rfl, by omega, by omega, by omega⟩
  obtain ⟨rfl, rfl, i4_0, i4_1, i4_2⟩ := hI
  unfold wX11_textSize_4'
  intro q1
  refine ⟨by omega, ?_⟩
  refine ⟨fun h9 => ?_, fun h9 => ?_⟩
  · exact hK (v4_2) (by omega)
  · refine ⟨by omega, by omega, ?_⟩
    intro q2
    refine ⟨by omega, ?_⟩
    refine ⟨fun h19 => ?_, fun h19 => ?_⟩
    · unfold wX11_textSize_29
      exact ⟨⟨rfl, rfl, by omega, by omega, by omega⟩, show (3001 - ((v4_3 + 1))).toNat < (3001 - v4_3).toNat by omega⟩
    · unfold wX11_textSize_29
      exact ⟨⟨rfl, rfl, by omega, by omega, by omega⟩, show (3001 - ((v4_3 + 1))).toNat < (3001 - v4_3).toNat by omega⟩

set_option maxRecDepth 100000 in
set_option maxHeartbeats 4000000 in
theorem tX11_pieceOfText {a1 : Int} {S : St} {K : Int → St → Prop}  (hK : ∀ (r : Int) (S' : St), Ch [67] [104] S S' → (iv 0 3000 ((S'.1 54 67))) → K r S') : wX11_pieceOfText a1 S K := by
  unfold wX11_pieceOfText
  intro g1
  intro S2 hS2e
  have hS2 : Ch [67] [] S S2 := Ch_I hS2e
  have hS2v : S2.1 54 67 = 0 := pI_at hS2e
  unfold wX11_pieceOfText_7
  refine ⟨fun u1 u2 Sx => Ch [67] [104] S2 Sx ∧ a1 = u1 ∧ (iv 0 3000 u2) ∧ (0 ≤ (Sx.1 54 67)) ∧ ((Sx.1 54 67) ≤ u2), fun u1 u2 Sx => (3001 - u2).toNat, ?_, fun v7_1 v7_2 S7h hI => ?_⟩
  · exact ⟨Ch.re, rfl, by omega, by omega, by omega⟩
  obtain ⟨hS7h, rfl, i7_0, i7_1, i7_2⟩ := hI
  unfold wX11_pieceOfText_7'
  intro q1
  have e2 : S7h.1 54 56 = S2.1 54 56 := hS7h.1 56 (by decide)
  have e3 : S2.1 54 56 = S.1 54 56 := hS2.1 56 (by decide)
  refine ⟨by omega, ?_⟩
  refine ⟨fun h12 => ?_, fun h12 => ?_⟩
  · exact hK (0) S7h (Ch.wk (Ch.tr hS2 hS7h) (by decide) (by decide)) (by omega)
  · refine ⟨by omega, by omega, ?_⟩
    intro q4
    have e5 : S7h.2 97 (v7_2) = S2.2 97 (v7_2) := congrFun (hS7h.2 97 (by decide)) _
    have e6 : S2.2 97 (v7_2) = S.2 97 (v7_2) := congrFun (hS2.2 97 (by decide)) _
    refine ⟨by omega, ?_⟩
    refine ⟨fun h22 => ?_, fun h22 => ?_⟩
    · unfold wX11_pieceOfText_50
      exact ⟨⟨(Ch.wk hS7h (by decide) (by decide)), rfl, by omega, by omega, by omega⟩, show (3001 - ((v7_2 + 1))).toNat < (3001 - v7_2).toNat by omega⟩
    · intro q7
      refine ⟨by omega, by omega, ?_⟩
      intro q8
      have e9 : S7h.2 96 (v7_2) = S2.2 96 (v7_2) := congrFun (hS7h.2 96 (by decide)) _
      have e10 : S2.2 96 (v7_2) = S.2 96 (v7_2) := congrFun (hS2.2 96 (by decide)) _
      refine ⟨by omega, by omega, ?_⟩
      intro S39 hS39e
      have hS39 : Ch [] [104] S7h S39 := Ch_A hS39e
      have hS39v : ∀ x, (x = S7h.1 54 67 ∧ S39.2 104 x = S7h.2 96 (v7_2)) ∨ (¬ x = S7h.1 54 67 ∧ S39.2 104 x = S7h.2 104 x) := pA_at hS39e
      intro q11
      have e12 : S39.1 54 67 = S7h.1 54 67 := hS39.1 67 (by decide)
      refine ⟨by omega, ?_⟩
      intro S47 hS47e
      have hS47 : Ch [67] [] S39 S47 := Ch_I hS47e
      have hS47v : S47.1 54 67 = (S39.1 54 67 + 1) := pI_at hS47e
      unfold wX11_pieceOfText_50
      exact ⟨⟨(Ch.wk (Ch.tr (Ch.tr hS7h hS39) hS47) (by decide) (by decide)), rfl, by omega, by omega, by omega⟩, show (3001 - ((v7_2 + 1))).toNat < (3001 - v7_2).toNat by omega⟩

set_option maxRecDepth 100000 in
set_option maxHeartbeats 4000000 in
theorem tX11_pieceAt {a1 : Int} {S : St} {K : Int → St → Prop} (p1 : 0 ≤ a1) (hK : ∀ (r : Int), ((a1 < (S.1 54 67) ∧ r = (S.2 104) a1) ∨ ((S.1 54 67) ≤ a1 ∧ r = -1)) → (rng r) → (iv 0 3000 ((S.1 54 67))) → K r S) : wX11_pieceAt a1 S K := by
  unfold wX11_pieceAt
  intro g1
  intro q1
  refine ⟨fun h5 => ?_, fun h5 => ?_⟩
  · exact hK ((-1)) (by omega) (by omega) (by omega)
  · refine ⟨by omega, by omega, ?_⟩
    intro q2
    exact hK (S.2 104 (a1)) (by omega) (by omega) (by omega)

