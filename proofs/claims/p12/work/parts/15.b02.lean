set_option maxRecDepth 100000 in
set_option maxHeartbeats 4000000 in
theorem tX11_classOfValue {a1 : Int} {S : St} {K : Int → St → Prop} (p1 : iv 0 599 a1) (p2 : (S.2 94) a1 + (S.2 95) a1 ≤ 3000) (hK : ∀ (r : Int), (r = -2 ∨ (0 ≤ r ∧ r < (S.1 54 2))) → ((S.1 54 2) ≤ 6) → K r S) : wX11_classOfValue a1 S K := by
  unfold wX11_classOfValue
  intro g1
  unfold wX11_classOfValue_5
  refine ⟨fun u1 u2 u3 Sx => S = Sx ∧ a1 = u1 ∧ (iv 0 6 u3) ∧ (u3 = 0 ∨ u3 ≤ (Sx.1 54 2)) ∧ (u2 = -2 ∨ (0 ≤ u2 ∧ u2 < u3)), fun u1 u2 u3 Sx => (7 - u3).toNat, ?_, fun v5_1 v5_2 v5_3 S5h hI => ?_⟩
  · exact ⟨rfl, rfl, by omega, by omega, by omega⟩
  obtain ⟨rfl, rfl, i5_0, i5_1, i5_2⟩ := hI
  unfold wX11_classOfValue_5'
  intro q1
  refine ⟨by omega, ?_⟩
  refine ⟨fun h10 => ?_, fun h10 => ?_⟩
  · exact hK (v5_2) (by omega) (by omega)
  · refine ⟨by omega, by omega, ?_⟩
    intro q2
    refine ⟨fun h19 => ?_, fun h19 => ?_⟩
    · unfold wX11_classOfValue_40
      unfold wX11_classOfValue_41
      unfold wX11_classOfValue_46
      refine ⟨fun u1 u2 u3 u4 u5 Sx => S = Sx ∧ a1 = u1 ∧ v5_2 = u2 ∧ v5_3 = u3 ∧ (iv 0 1 u4) ∧ (0 ≤ u5) ∧ (u5 ≤ 3000), fun u1 u2 u3 u4 u5 Sx => (3001 - u5).toNat, ?_, fun v46_1 v46_2 v46_3 v46_4 v46_5 S46h hI => ?_⟩
      · exact ⟨rfl, rfl, rfl, rfl, by omega, by omega, by omega⟩
      obtain ⟨rfl, rfl, rfl, rfl, i46_0, i46_1, i46_2⟩ := hI
      unfold wX11_classOfValue_46'
      refine ⟨by omega, by omega, ?_⟩
      intro q3
      refine ⟨by omega, ?_⟩
      refine ⟨fun h54 => ?_, fun h54 => ?_⟩
      · unfold wX11_classOfValue_99
        refine ⟨by omega, ?_⟩
        refine ⟨fun h101 => ?_, fun h101 => ?_⟩
        · unfold wX11_classOfValue_109
          exact ⟨⟨rfl, rfl, by omega, by omega, by omega⟩, show (7 - ((v5_3 + 1))).toNat < (7 - v5_3).toNat by omega⟩
        · unfold wX11_classOfValue_109
          exact ⟨⟨rfl, rfl, by omega, by omega, by omega⟩, show (7 - ((v5_3 + 1))).toNat < (7 - v5_3).toNat by omega⟩
      · refine ⟨by omega, ?_⟩
        refine ⟨fun h59 => ?_, fun h59 => ?_⟩
        · unfold wX11_classOfValue_99
          refine ⟨by omega, ?_⟩
          refine ⟨fun h101 => ?_, fun h101 => ?_⟩
          · unfold wX11_classOfValue_109
            exact ⟨⟨rfl, rfl, by omega, by omega, by omega⟩, show (7 - ((v5_3 + 1))).toNat < (7 - v5_3).toNat by omega⟩
          · unfold wX11_classOfValue_109
            exact ⟨⟨rfl, rfl, by omega, by omega, by omega⟩, show (7 - ((v5_3 + 1))).toNat < (7 - v5_3).toNat by omega⟩
        · refine ⟨by omega, by omega, ?_⟩
          intro q4
          refine ⟨by omega, by omega, ?_⟩
          intro q5
          refine ⟨by omega, ?_⟩
          refine tX11_writtenSign (by omega) (fun r80 n80_0 => ?_)
          refine ⟨by omega, ?_⟩
          refine ⟨fun h83 => ?_, fun h83 => ?_⟩
          · unfold wX11_classOfValue_91
            exact ⟨⟨rfl, rfl, rfl, rfl, by omega, by omega, by omega⟩, show (3001 - ((v46_5 + 1))).toNat < (3001 - v46_5).toNat by omega⟩
          · unfold wX11_classOfValue_91
            exact ⟨⟨rfl, rfl, rfl, rfl, by omega, by omega, by omega⟩, show (3001 - ((v46_5 + 1))).toNat < (3001 - v46_5).toNat by omega⟩
    · refine ⟨by omega, by omega, ?_⟩
      intro q6
      refine tX11_writtenSign (by omega) (fun r30 n30_0 => ?_)
      refine ⟨by omega, ?_⟩
      refine ⟨fun h33 => ?_, fun h33 => ?_⟩
      · unfold wX11_classOfValue_40
        unfold wX11_classOfValue_41
        unfold wX11_classOfValue_46
        refine ⟨fun u1 u2 u3 u4 u5 Sx => S = Sx ∧ a1 = u1 ∧ v5_2 = u2 ∧ v5_3 = u3 ∧ (iv 0 1 u4) ∧ (0 ≤ u5) ∧ (u5 ≤ 3000), fun u1 u2 u3 u4 u5 Sx => (3001 - u5).toNat, ?_, fun v46_1 v46_2 v46_3 v46_4 v46_5 S46h hI => ?_⟩
        · exact ⟨rfl, rfl, rfl, rfl, by omega, by omega, by omega⟩
        obtain ⟨rfl, rfl, rfl, rfl, i46_0, i46_1, i46_2⟩ := hI
        unfold wX11_classOfValue_46'
        refine ⟨by omega, by omega, ?_⟩
        intro q7
        refine ⟨by omega, ?_⟩
        refine ⟨fun h54 => ?_, fun h54 => ?_⟩
        · unfold wX11_classOfValue_99
          refine ⟨by omega, ?_⟩
          refine ⟨fun h101 => ?_, fun h101 => ?_⟩
          · unfold wX11_classOfValue_109
            exact ⟨⟨rfl, rfl, by omega, by omega, by omega⟩, show (7 - ((v5_3 + 1))).toNat < (7 - v5_3).toNat by omega⟩
          · unfold wX11_classOfValue_109
            exact ⟨⟨rfl, rfl, by omega, by omega, by omega⟩, show (7 - ((v5_3 + 1))).toNat < (7 - v5_3).toNat by omega⟩
        · refine ⟨by omega, ?_⟩
          refine ⟨fun h59 => ?_, fun h59 => ?_⟩
          · unfold wX11_classOfValue_99
            refine ⟨by omega, ?_⟩
            refine ⟨fun h101 => ?_, fun h101 => ?_⟩
            · unfold wX11_classOfValue_109
              exact ⟨⟨rfl, rfl, by omega, by omega, by omega⟩, show (7 - ((v5_3 + 1))).toNat < (7 - v5_3).toNat by omega⟩
            · unfold wX11_classOfValue_109
              exact ⟨⟨rfl, rfl, by omega, by omega, by omega⟩, show (7 - ((v5_3 + 1))).toNat < (7 - v5_3).toNat by omega⟩
          · refine ⟨by omega, by omega, ?_⟩
            intro q8
            refine ⟨by omega, by omega, ?_⟩
            intro q9
            refine ⟨by omega, ?_⟩
            refine tX11_writtenSign (by omega) (fun r80 n80_0 => ?_)
            refine ⟨by omega, ?_⟩
            refine ⟨fun h83 => ?_, fun h83 => ?_⟩
            · unfold wX11_classOfValue_91
              exact ⟨⟨rfl, rfl, rfl, rfl, by omega, by omega, by omega⟩, show (3001 - ((v46_5 + 1))).toNat < (3001 - v46_5).toNat by omega⟩
            · unfold wX11_classOfValue_91
              exact ⟨⟨rfl, rfl, rfl, rfl, by omega, by omega, by omega⟩, show (3001 - ((v46_5 + 1))).toNat < (3001 - v46_5).toNat by omega⟩
      · unfold wX11_classOfValue_41
        unfold wX11_classOfValue_46
        refine ⟨fun u1 u2 u3 u4 u5 Sx => S = Sx ∧ a1 = u1 ∧ v5_2 = u2 ∧ v5_3 = u3 ∧ (iv 0 1 u4) ∧ (0 ≤ u5) ∧ (u5 ≤ 3000), fun u1 u2 u3 u4 u5 Sx => (3001 - u5).toNat, ?_, fun v46_1 v46_2 v46_3 v46_4 v46_5 S46h hI => ?_⟩
        · exact ⟨rfl, rfl, rfl, rfl, by omega, by omega, by omega⟩
        obtain ⟨rfl, rfl, rfl, rfl, i46_0, i46_1, i46_2⟩ := hI
        unfold wX11_classOfValue_46'
        refine ⟨by omega, by omega, ?_⟩
        intro q10
        refine ⟨by omega, ?_⟩
        refine ⟨fun h54 => ?_, fun h54 => ?_⟩
        · unfold wX11_classOfValue_99
          refine ⟨by omega, ?_⟩
          refine ⟨fun h101 => ?_, fun h101 => ?_⟩
          · unfold wX11_classOfValue_109
            exact ⟨⟨rfl, rfl, by omega, by omega, by omega⟩, show (7 - ((v5_3 + 1))).toNat < (7 - v5_3).toNat by omega⟩
          · unfold wX11_classOfValue_109
            exact ⟨⟨rfl, rfl, by omega, by omega, by omega⟩, show (7 - ((v5_3 + 1))).toNat < (7 - v5_3).toNat by omega⟩
        · refine ⟨by omega, ?_⟩
          refine ⟨fun h59 => ?_, fun h59 => ?_⟩
          · unfold wX11_classOfValue_99
            refine ⟨by omega, ?_⟩
            refine ⟨fun h101 => ?_, fun h101 => ?_⟩
            · unfold wX11_classOfValue_109
              exact ⟨⟨rfl, rfl, by omega, by omega, by omega⟩, show (7 - ((v5_3 + 1))).toNat < (7 - v5_3).toNat by omega⟩
            · unfold wX11_classOfValue_109
              exact ⟨⟨rfl, rfl, by omega, by omega, by omega⟩, show (7 - ((v5_3 + 1))).toNat < (7 - v5_3).toNat by omega⟩
          · refine ⟨by omega, by omega, ?_⟩
            intro q11
            refine ⟨by omega, by omega, ?_⟩
            intro q12
            refine ⟨by omega, ?_⟩
            refine tX11_writtenSign (by omega) (fun r80 n80_0 => ?_)
            refine ⟨by omega, ?_⟩
            refine ⟨fun h83 => ?_, fun h83 => ?_⟩
            · unfold wX11_classOfValue_91
              exact ⟨⟨rfl, rfl, rfl, rfl, by omega, by omega, by omega⟩, show (3001 - ((v46_5 + 1))).toNat < (3001 - v46_5).toNat by omega⟩
            · unfold wX11_classOfValue_91
              exact ⟨⟨rfl, rfl, rfl, rfl, by omega, by omega, by omega⟩, show (3001 - ((v46_5 + 1))).toNat < (3001 - v46_5).toNat by omega⟩

set_option maxRecDepth 100000 in
set_option maxHeartbeats 4000000 in
theorem tX11_fieldNamed {a1 a2 a3 a4 : Int} {S : St} {K : Int → St → Prop} (p1 : iv 0 5 a1) (p2 : 0 ≤ a2) (p3 : 0 ≤ a3) (p4 : a2 + a3 ≤ 3000) (p5 : iv 0 1 a4) (hK : ∀ (r : Int), (r = -2 ∨ (0 ≤ r ∧ r ≤ 3)) → (r = -2 ∨ a4 = 0 ∨ (S.2 59) (4 * a1 + r) ≤ 1) → K r S) : wX11_fieldNamed a1 a2 a3 a4 S K := by
  unfold wX11_fieldNamed
  intro g1 g2 g3 g4
  unfold wX11_fieldNamed_7
  refine ⟨fun u1 u2 u3 u4 u5 u6 Sx => S = Sx ∧ a1 = u1 ∧ a2 = u2 ∧ a3 = u3 ∧ a4 = u4 ∧ (iv 0 4 u6) ∧ (u5 = -2 ∨ (0 ≤ u5 ∧ u5 ≤ 3)) ∧ (u5 = -2 ∨ a4 = 0 ∨ (Sx.2 59) (4 * a1 + u5) ≤ 1), fun u1 u2 u3 u4 u5 u6 Sx => (5 - u6).toNat, ?_, fun v7_1 v7_2 v7_3 v7_4 v7_5 v7_6 S7h hI => ?_⟩
  · exact ⟨rfl, rfl, rfl, rfl, rfl, by omega, by omega, by omega⟩
  obtain ⟨rfl, rfl, rfl, rfl, rfl, i7_0, i7_1, i7_2⟩ := hI
  unfold wX11_fieldNamed_7'
  refine ⟨by omega, by omega, ?_⟩
  intro q1
  refine ⟨by omega, ?_⟩
  refine ⟨fun h15 => ?_, fun h15 => ?_⟩
  · exact hK (v7_5) (by omega) (by omega)
  · intro x24 hx24
    subst hx24
    refine ⟨by omega, ?_⟩
    refine ⟨fun h28 => ?_, fun h28 => ?_⟩
    · refine ⟨by omega, by omega, ?_⟩
      intro q2
      refine ⟨fun h67 => ?_, fun h67 => ?_⟩
      · unfold wX11_fieldNamed_75
        refine ⟨by omega, ?_⟩
        refine ⟨fun h79 => ?_, fun h79 => ?_⟩
        · unfold wX11_fieldNamed_101
          unfold wX11_fieldNamed_103
          exact ⟨⟨rfl, rfl, rfl, rfl, rfl, by omega, by omega, by omega⟩, show (5 - ((v7_6 + 1))).toNat < (5 - v7_6).toNat by omega⟩
        · refine ⟨by omega, ?_⟩
          refine ⟨by omega, ?_⟩
          refine ⟨by omega, ?_⟩
          refine tX11_isNamed (by omega) (by omega) (by omega) (by omega) (fun r90 n90_0 => ?_)
          refine ⟨by omega, ?_⟩
          refine ⟨fun h93 => ?_, fun h93 => ?_⟩
          · unfold wX11_fieldNamed_101
            unfold wX11_fieldNamed_103
            exact ⟨⟨rfl, rfl, rfl, rfl, rfl, by omega, by omega, by omega⟩, show (5 - ((v7_6 + 1))).toNat < (5 - v7_6).toNat by omega⟩
          · unfold wX11_fieldNamed_103
            exact ⟨⟨rfl, rfl, rfl, rfl, rfl, by omega, by omega, by omega⟩, show (5 - ((v7_6 + 1))).toNat < (5 - v7_6).toNat by omega⟩
      · unfold wX11_fieldNamed_75
        refine ⟨by omega, ?_⟩
        refine ⟨fun h79 => ?_, fun h79 => ?_⟩
        · unfold wX11_fieldNamed_101
          unfold wX11_fieldNamed_103
          exact ⟨⟨rfl, rfl, rfl, rfl, rfl, by omega, by omega, by omega⟩, show (5 - ((v7_6 + 1))).toNat < (5 - v7_6).toNat by omega⟩
        · refine ⟨by omega, ?_⟩
          refine ⟨by omega, ?_⟩
          refine ⟨by omega, ?_⟩
          refine tX11_isNamed (by omega) (by omega) (by omega) (by omega) (fun r90 n90_0 => ?_)
          refine ⟨by omega, ?_⟩
          refine ⟨fun h93 => ?_, fun h93 => ?_⟩
          · unfold wX11_fieldNamed_101
            unfold wX11_fieldNamed_103
            exact ⟨⟨rfl, rfl, rfl, rfl, rfl, by omega, by omega, by omega⟩, show (5 - ((v7_6 + 1))).toNat < (5 - v7_6).toNat by omega⟩
          · unfold wX11_fieldNamed_103
            exact ⟨⟨rfl, rfl, rfl, rfl, rfl, by omega, by omega, by omega⟩, show (5 - ((v7_6 + 1))).toNat < (5 - v7_6).toNat by omega⟩
    · refine ⟨by omega, by omega, ?_⟩
      intro q3
      refine ⟨fun h39 => ?_, fun h39 => ?_⟩
      · unfold wX11_fieldNamed_56
        unfold wX11_fieldNamed_75
        refine ⟨by omega, ?_⟩
        refine ⟨fun h79 => ?_, fun h79 => ?_⟩
        · unfold wX11_fieldNamed_101
          unfold wX11_fieldNamed_103
          exact ⟨⟨rfl, rfl, rfl, rfl, rfl, by omega, by omega, by omega⟩, show (5 - ((v7_6 + 1))).toNat < (5 - v7_6).toNat by omega⟩
        · refine ⟨by omega, ?_⟩
          refine ⟨by omega, ?_⟩
          refine ⟨by omega, ?_⟩
          refine tX11_isNamed (by omega) (by omega) (by omega) (by omega) (fun r90 n90_0 => ?_)
          refine ⟨by omega, ?_⟩
          refine ⟨fun h93 => ?_, fun h93 => ?_⟩
          · unfold wX11_fieldNamed_101
            unfold wX11_fieldNamed_103
            exact ⟨⟨rfl, rfl, rfl, rfl, rfl, by omega, by omega, by omega⟩, show (5 - ((v7_6 + 1))).toNat < (5 - v7_6).toNat by omega⟩
          · unfold wX11_fieldNamed_103
            exact ⟨⟨rfl, rfl, rfl, rfl, rfl, by omega, by omega, by omega⟩, show (5 - ((v7_6 + 1))).toNat < (5 - v7_6).toNat by omega⟩
      · refine ⟨by omega, by omega, ?_⟩
        intro q4
        refine ⟨fun h49 => ?_, fun h49 => ?_⟩
        · unfold wX11_fieldNamed_56
          unfold wX11_fieldNamed_75
          refine ⟨by omega, ?_⟩
          refine ⟨fun h79 => ?_, fun h79 => ?_⟩
          · unfold wX11_fieldNamed_101
            unfold wX11_fieldNamed_103
            exact ⟨⟨rfl, rfl, rfl, rfl, rfl, by omega, by omega, by omega⟩, show (5 - ((v7_6 + 1))).toNat < (5 - v7_6).toNat by omega⟩
          · refine ⟨by omega, ?_⟩
            refine ⟨by omega, ?_⟩
            refine ⟨by omega, ?_⟩
            refine tX11_isNamed (by omega) (by omega) (by omega) (by omega) (fun r90 n90_0 => ?_)
            refine ⟨by omega, ?_⟩
            refine ⟨fun h93 => ?_, fun h93 => ?_⟩
            · unfold wX11_fieldNamed_101
              unfold wX11_fieldNamed_103
              exact ⟨⟨rfl, rfl, rfl, rfl, rfl, by omega, by omega, by omega⟩, show (5 - ((v7_6 + 1))).toNat < (5 - v7_6).toNat by omega⟩
            · unfold wX11_fieldNamed_103
              exact ⟨⟨rfl, rfl, rfl, rfl, rfl, by omega, by omega, by omega⟩, show (5 - ((v7_6 + 1))).toNat < (5 - v7_6).toNat by omega⟩
        · unfold wX11_fieldNamed_75
          refine ⟨by omega, ?_⟩
          refine ⟨fun h79 => ?_, fun h79 => ?_⟩
          · unfold wX11_fieldNamed_101
            unfold wX11_fieldNamed_103
            exact ⟨⟨rfl, rfl, rfl, rfl, rfl, by omega, by omega, by omega⟩, show (5 - ((v7_6 + 1))).toNat < (5 - v7_6).toNat by omega⟩
          · refine ⟨by omega, ?_⟩
            refine ⟨by omega, ?_⟩
            refine ⟨by omega, ?_⟩
            refine tX11_isNamed (by omega) (by omega) (by omega) (by omega) (fun r90 n90_0 => ?_)
            refine ⟨by omega, ?_⟩
            refine ⟨fun h93 => ?_, fun h93 => ?_⟩
            · unfold wX11_fieldNamed_101
              unfold wX11_fieldNamed_103
              exact ⟨⟨rfl, rfl, rfl, rfl, rfl, by omega, by omega, by omega⟩, show (5 - ((v7_6 + 1))).toNat < (5 - v7_6).toNat by omega⟩
            · unfold wX11_fieldNamed_103
              exact ⟨⟨rfl, rfl, rfl, rfl, rfl, by omega, by omega, by omega⟩, show (5 - ((v7_6 + 1))).toNat < (5 - v7_6).toNat by omega⟩

set_option maxRecDepth 100000 in
set_option maxHeartbeats 4000000 in
theorem tX11_hasChild {a1 : Int} {S : St} {K : Int → St → Prop} (p1 : 0 ≤ a1) (p2 : a1 < (S.1 54 43)) (p3 : (S.1 54 43) ≤ 200) (hK : ∀ (r : Int), ((r = 1 ∧ (a1 + 1 < (S.1 54 43) ∧ (S.2 88) (a1 + 1) = a1)) ∨ (r = 0 ∧ ¬ (a1 + 1 < (S.1 54 43) ∧ (S.2 88) (a1 + 1) = a1))) → K r S) : wX11_hasChild a1 S K := by
  unfold wX11_hasChild
  intro g1
  intro q1
  refine ⟨by omega, ?_⟩
  refine ⟨fun h7 => ?_, fun h7 => ?_⟩
  · exact hK (0) (by omega)
  · refine ⟨by omega, by omega, ?_⟩
    intro q2
    refine ⟨fun h19 => ?_, fun h19 => ?_⟩
    · exact hK (0) (by omega)
    · exact hK (1) (by omega)

set_option maxRecDepth 100000 in
set_option maxHeartbeats 4000000 in
theorem tX11_implicitOf {a1 : Int} {S : St} {K : Int → St → Prop} (p1 : iv 0 5 a1) (hK : ∀ (r : Int), (r = -2 ∨ (0 ≤ r ∧ r ≤ 3)) → (r = -2 ∨ (S.2 59) (4 * a1 + r) = 3) → K r S) : wX11_implicitOf a1 S K := by
  unfold wX11_implicitOf
  intro g1
  unfold wX11_implicitOf_5
  refine ⟨fun u1 u2 u3 Sx => S = Sx ∧ a1 = u1 ∧ (iv 0 4 u3) ∧ (u2 = -2 ∨ (0 ≤ u2 ∧ u2 ≤ 3)) ∧ (u2 = -2 ∨ (Sx.2 59) (4 * a1 + u2) = 3), fun u1 u2 u3 Sx => (5 - u3).toNat, ?_, fun v5_1 v5_2 v5_3 S5h hI => ?_⟩
  · exact ⟨rfl, rfl, by omega, by omega, by omega⟩
  obtain ⟨rfl, rfl, i5_0, i5_1, i5_2⟩ := hI
  unfold wX11_implicitOf_5'
  refine ⟨by omega, by omega, ?_⟩
  intro q1
  refine ⟨by omega, ?_⟩
  refine ⟨fun h12 => ?_, fun h12 => ?_⟩
  · exact hK (v5_2) (by omega) (by omega)
  · refine ⟨by omega, by omega, ?_⟩
    intro q2
    refine ⟨fun h26 => ?_, fun h26 => ?_⟩
    · unfold wX11_implicitOf_46
      unfold wX11_implicitOf_47
      exact ⟨⟨rfl, rfl, by omega, by omega, by omega⟩, show (5 - ((v5_3 + 1))).toNat < (5 - v5_3).toNat by omega⟩
    · refine ⟨by omega, by omega, ?_⟩
      intro q3
      refine ⟨fun h39 => ?_, fun h39 => ?_⟩
      · unfold wX11_implicitOf_46
        unfold wX11_implicitOf_47
        exact ⟨⟨rfl, rfl, by omega, by omega, by omega⟩, show (5 - ((v5_3 + 1))).toNat < (5 - v5_3).toNat by omega⟩
      · unfold wX11_implicitOf_47
        exact ⟨⟨rfl, rfl, by omega, by omega, by omega⟩, show (5 - ((v5_3 + 1))).toNat < (5 - v5_3).toNat by omega⟩

set_option maxRecDepth 100000 in
set_option maxHeartbeats 4000000 in
theorem tX11_isBlankWithin {a1 : Int} {S : St} {K : Int → St → Prop}  (hK : ∀ (r : Int), (iv 0 1 r) → K r S) : wX11_isBlankWithin a1 S K := by
  unfold wX11_isBlankWithin
  intro g1
  unfold wX11_isBlankWithin_4
  refine ⟨fun u1 u2 u3 Sx => S = Sx ∧ a1 = u1 ∧ (iv 0 1 u2) ∧ (iv 0 3000 u3), fun u1 u2 u3 Sx => (3001 - u3).toNat, ?_, fun v4_1 v4_2 v4_3 S4h hI => ?_⟩
  · exact ⟨rfl, rfl, by omega, by omega⟩
  obtain ⟨rfl, rfl, i4_0, i4_1⟩ := hI
  unfold wX11_isBlankWithin_4'
  intro q1
  refine ⟨by omega, ?_⟩
  refine ⟨fun h9 => ?_, fun h9 => ?_⟩
  · refine ⟨by omega, ?_⟩
    exact hK (v4_2) (by omega)
  · refine ⟨by omega, ?_⟩
    refine ⟨fun h13 => ?_, fun h13 => ?_⟩
    · unfold wX11_isBlankWithin_42
      unfold wX11_isBlankWithin_43
      exact ⟨⟨rfl, rfl, by omega, by omega⟩, show (3001 - ((v4_3 + 1))).toNat < (3001 - v4_3).toNat by omega⟩
    · refine ⟨by omega, by omega, ?_⟩
      intro q2
      refine ⟨by omega, ?_⟩
      refine ⟨fun h23 => ?_, fun h23 => ?_⟩
      · unfold wX11_isBlankWithin_38
        unfold wX11_isBlankWithin_43
        exact ⟨⟨rfl, rfl, by omega, by omega⟩, show (3001 - ((v4_3 + 1))).toNat < (3001 - v4_3).toNat by omega⟩
      · refine ⟨by omega, by omega, ?_⟩
        intro q3
        refine tX11_isBlank  (fun r32 n32_0 => ?_)
        refine ⟨by omega, ?_⟩
        refine ⟨fun h35 => ?_, fun h35 => ?_⟩
        · unfold wX11_isBlankWithin_42
          unfold wX11_isBlankWithin_43
          exact ⟨⟨rfl, rfl, by omega, by omega⟩, show (3001 - ((v4_3 + 1))).toNat < (3001 - v4_3).toNat by omega⟩
        · unfold wX11_isBlankWithin_38
          unfold wX11_isBlankWithin_43
          exact ⟨⟨rfl, rfl, by omega, by omega⟩, show (3001 - ((v4_3 + 1))).toNat < (3001 - v4_3).toNat by omega⟩

