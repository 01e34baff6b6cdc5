set_option maxRecDepth 100000 in
set_option maxHeartbeats 4000000 in
theorem tX11_endTag {a1 a2 : Int} {S : St} {K : Int → St → Prop} (p1 : 0 ≤ a1) (p2 : a1 + 2 ≤ (S.1 54 41)) (p3 : (S.1 54 41) ≤ 3000) (p4 : iv 0 199 a2) (p5 : (S.2 86) a2 + (S.2 87) a2 ≤ 3000) (hK : ∀ (r : Int) (S' : St), Ch [59] [] S S' → (a1 < r) → (r ≤ 3010) → (-1 ≤ (S'.1 54 59) ∨ r ≤ (S.1 54 41)) → K r S') : wX11_endTag a1 a2 S K := by
  unfold wX11_endTag
  intro g1 g2
  refine ⟨by omega, ?_⟩
  refine tX11_nameEnd (by omega) (by omega) (by omega) (fun r4 n4_0 n4_1 n4_2 => ?_)
  intro x13 hx13
  subst hx13
  refine ⟨by omega, by omega, ?_⟩
  intro q1
  refine ⟨by omega, by omega, ?_⟩
  intro q2
  refine ⟨by omega, ?_⟩
  refine ⟨fun h30 => ?_, fun h30 => ?_⟩
  · refine ⟨by omega, by omega, ?_⟩
    intro q3
    unfold wX11_endTag_44
    refine ⟨by omega, ?_⟩
    refine ⟨by omega, ?_⟩
    refine ⟨by omega, ?_⟩
    refine ⟨by omega, ?_⟩
    refine tX11_sameNames (by omega) (by omega) (by omega) (by omega) (by omega) (fun r49 n49_0 => ?_)
    refine ⟨by omega, ?_⟩
    refine ⟨fun h56 => ?_, fun h56 => ?_⟩
    · unfold wX11_endTag_70
      refine ⟨by omega, ?_⟩
      refine tX11_fail (by omega) (fun r74 S74 hS74 n74_0 => ?_)
      exact hK (r4) S74 (Ch.wk hS74 (by decide) (by decide)) (by omega) (by omega) (by omega)
    · refine ⟨by omega, by omega, ?_⟩
      intro q4
      refine ⟨fun h67 => ?_, fun h67 => ?_⟩
      · refine ⟨by omega, ?_⟩
        refine tX11_blanksFrom (by omega) (by omega) (by omega) (fun r81 n81_0 n81_1 => ?_)
        refine ⟨by omega, ?_⟩
        refine tX11_docAt (by omega) (fun r87 n87_0 n87_1 n87_2 => ?_)
        refine ⟨by omega, ?_⟩
        refine ⟨fun h92 => ?_, fun h92 => ?_⟩
        · exact hK ((r81 + 1)) S (Ch.wk Ch.rf (by decide) (by decide)) (by omega) (by omega) (by omega)
        · refine tX11_fail (by omega) (fun r97 S97 hS97 n97_0 => ?_)
          exact hK ((r81 + 1)) S97 (Ch.wk hS97 (by decide) (by decide)) (by omega) (by omega) (by omega)
      · unfold wX11_endTag_70
        refine ⟨by omega, ?_⟩
        refine tX11_fail (by omega) (fun r74 S74 hS74 n74_0 => ?_)
        exact hK (r4) S74 (Ch.wk hS74 (by decide) (by decide)) (by omega) (by omega) (by omega)
  · unfold wX11_endTag_44
    refine ⟨by omega, ?_⟩
    refine ⟨by omega, ?_⟩
    refine ⟨by omega, ?_⟩
    refine ⟨by omega, ?_⟩
    refine tX11_sameNames (by omega) (by omega) (by omega) (by omega) (by omega) (fun r49 n49_0 => ?_)
    refine ⟨by omega, ?_⟩
    refine ⟨fun h56 => ?_, fun h56 => ?_⟩
    · unfold wX11_endTag_70
      refine ⟨by omega, ?_⟩
      refine tX11_fail (by omega) (fun r74 S74 hS74 n74_0 => ?_)
      exact hK (r4) S74 (Ch.wk hS74 (by decide) (by decide)) (by omega) (by omega) (by omega)
    · refine ⟨by omega, by omega, ?_⟩
      intro q5
      refine ⟨fun h67 => ?_, fun h67 => ?_⟩
      · refine ⟨by omega, ?_⟩
        refine tX11_blanksFrom (by omega) (by omega) (by omega) (fun r81 n81_0 n81_1 => ?_)
        refine ⟨by omega, ?_⟩
        refine tX11_docAt (by omega) (fun r87 n87_0 n87_1 n87_2 => ?_)
        refine ⟨by omega, ?_⟩
        refine ⟨fun h92 => ?_, fun h92 => ?_⟩
        · exact hK ((r81 + 1)) S (Ch.wk Ch.rf (by decide) (by decide)) (by omega) (by omega) (by omega)
        · refine tX11_fail (by omega) (fun r97 S97 hS97 n97_0 => ?_)
          exact hK ((r81 + 1)) S97 (Ch.wk hS97 (by decide) (by decide)) (by omega) (by omega) (by omega)
      · unfold wX11_endTag_70
        refine ⟨by omega, ?_⟩
        refine tX11_fail (by omega) (fun r74 S74 hS74 n74_0 => ?_)
        exact hK (r4) S74 (Ch.wk hS74 (by decide) (by decide)) (by omega) (by omega) (by omega)

set_option maxRecDepth 100000 in
set_option maxHeartbeats 4000000 in
theorem tX11_section {a1 a2 a3 : Int} {S : St} {K : Int → St → Prop} (p1 : 0 ≤ a1) (p2 : a1 < (S.1 54 41)) (p3 : (S.1 54 41) ≤ 3000) (p4 : (S.1 54 56) ≤ a1) (p5 : iv (-2) 199 a2) (p6 : iv 0 1 a3) (hK : ∀ (r : Int) (S' : St), Ch [56, 59] [96, 97] S S' → (a1 < r) → (r ≤ 3010) → ((S.1 54 56) ≤ (S'.1 54 56)) → (-1 ≤ (S'.1 54 59) ∨ (r ≤ (S.1 54 41) ∧ (S'.1 54 56) ≤ r)) → K r S') : wX11_section a1 a2 a3 S K := by
  unfold wX11_section
  intro g1 g2 g3
  unfold wX11_section_10
  refine ⟨fun u1 u2 u3 u4 u5 u6 Sx => S = Sx ∧ a1 = u1 ∧ a2 = u2 ∧ a3 = u3 ∧ (iv 0 2 u6) ∧ (iv 0 8 u4) ∧ (iv (-2) 1 u5) ∧ (a1 + u4 < (S.1 54 41)), fun u1 u2 u3 u4 u5 u6 Sx => (3 - u6).toNat, ?_, fun v10_1 v10_2 v10_3 v10_4 v10_5 v10_6 S10h hI => ?_⟩
  · exact ⟨rfl, rfl, rfl, rfl, by omega, by omega, by omega, by omega⟩
  obtain ⟨rfl, rfl, rfl, rfl, i10_0, i10_1, i10_2, i10_3⟩ := hI
  unfold wX11_section_10'
  refine ⟨by omega, ?_⟩
  refine ⟨fun h13 => ?_, fun h13 => ?_⟩
  · intro x102 hx102
    subst hx102
    refine ⟨by omega, ?_⟩
    refine ⟨fun h108 => ?_, fun h108 => ?_⟩
    · refine ⟨fun h131 => ?_, fun h131 => ?_⟩
      · unfold wX11_section_219
        refine ⟨fun u2 u6 Sx => Ch [56] [96, 97] S Sx ∧ a2 = u2 ∧ (a1 + 1 ≤ u6) ∧ (u6 ≤ (S.1 54 41)) ∧ ((Sx.1 54 56) ≤ u6) ∧ ((S.1 54 56) ≤ (Sx.1 54 56)), fun u2 u6 Sx => ((S.1 54 41) + 1 - u6).toNat, ?_, fun v219_2 v219_6 S219h hI => ?_⟩
        · exact ⟨Ch.re, rfl, by omega, by omega, by omega, by omega⟩
        obtain ⟨hS219h, rfl, i219_0, i219_1, i219_2, i219_3⟩ := hI
        unfold wX11_section_219'
        refine ⟨by omega, ?_⟩
        have e1 : S219h.1 54 41 = S.1 54 41 := hS219h.1 41 (by decide)
        have e2 : S219h.2 84 (v219_6) = S.2 84 (v219_6) := congrFun (hS219h.2 84 (by decide)) _
        have e3 : S219h.1 54 41 = S.1 54 41 := hS219h.1 41 (by decide)
        refine tX11_docAt (by omega) (fun r222 n222_0 n222_1 n222_2 => ?_)
        refine ⟨by omega, ?_⟩
        refine ⟨fun h225 => ?_, fun h225 => ?_⟩
        · unfold wX11_section_283
          refine ⟨by omega, ?_⟩
          have e4 : S219h.1 54 41 = S.1 54 41 := hS219h.1 41 (by decide)
          have e5 : S219h.2 84 (v219_6) = S.2 84 (v219_6) := congrFun (hS219h.2 84 (by decide)) _
          have e6 : S219h.1 54 41 = S.1 54 41 := hS219h.1 41 (by decide)
          refine tX11_docAt (by omega) (fun r286 n286_0 n286_1 n286_2 => ?_)
          refine ⟨by omega, ?_⟩
          refine ⟨fun h289 => ?_, fun h289 => ?_⟩
          · have e7 : S219h.1 54 59 = S.1 54 59 := hS219h.1 59 (by decide)
            exact hK ((v219_6 + 3)) S219h (Ch.wk hS219h (by decide) (by decide)) (by omega) (by omega) (by omega) (by omega)
          · intro q8
            have e9 : S219h.1 54 41 = S.1 54 41 := hS219h.1 41 (by decide)
            refine tX11_fail (by omega) (fun r297 S297 hS297 n297_0 => ?_)
            have e10 : S297.1 54 56 = S219h.1 54 56 := hS297.1 56 (by decide)
            have e11 : S297.1 54 56 = S219h.1 54 56 := hS297.1 56 (by decide)
            exact hK ((v219_6 + 3)) S297 (Ch.wk (Ch.tr hS219h hS297) (by decide) (by decide)) (by omega) (by omega) (by omega) (by omega)
        · have e12 : S219h.1 54 41 = S.1 54 41 := hS219h.1 41 (by decide)
          have e13 : S219h.2 84 (v219_6) = S.2 84 (v219_6) := congrFun (hS219h.2 84 (by decide)) _
          have e14 : S219h.1 54 41 = S.1 54 41 := hS219h.1 41 (by decide)
          refine tX11_docAt (by omega) (fun r231 n231_0 n231_1 n231_2 => ?_)
          refine ⟨by omega, ?_⟩
          refine ⟨fun h236 => ?_, fun h236 => ?_⟩
          · unfold wX11_section_265
            refine ⟨by omega, by omega, ?_⟩
            intro q15
            have e16 : S219h.2 84 (v219_6) = S.2 84 (v219_6) := congrFun (hS219h.2 84 (by decide)) _
            refine ⟨by omega, ?_⟩
            refine tX11_keep (by omega) (by omega) (fun r274 S274 hS274 n274_0 => ?_)
            exact ⟨⟨(Ch.wk (Ch.tr hS219h hS274) (by decide) (by decide)), rfl, by omega, by omega, by omega, by omega⟩, show ((S.1 54 41) + 1 - ((v219_6 + 1))).toNat < ((S.1 54 41) + 1 - v219_6).toNat by omega⟩
          · refine ⟨by omega, ?_⟩
            have e17 : S219h.1 54 41 = S.1 54 41 := hS219h.1 41 (by decide)
            have e18 : S219h.2 84 ((v219_6 + 1)) = S.2 84 ((v219_6 + 1)) := congrFun (hS219h.2 84 (by decide)) _
            have e19 : S219h.1 54 41 = S.1 54 41 := hS219h.1 41 (by decide)
            refine tX11_docAt (by omega) (fun r244 n244_0 n244_1 n244_2 => ?_)
            refine ⟨by omega, ?_⟩
            refine ⟨fun h249 => ?_, fun h249 => ?_⟩
            · unfold wX11_section_265
              refine ⟨by omega, by omega, ?_⟩
              intro q20
              have e21 : S219h.2 84 (v219_6) = S.2 84 (v219_6) := congrFun (hS219h.2 84 (by decide)) _
              refine ⟨by omega, ?_⟩
              refine tX11_keep (by omega) (by omega) (fun r274 S274 hS274 n274_0 => ?_)
              exact ⟨⟨(Ch.wk (Ch.tr hS219h hS274) (by decide) (by decide)), rfl, by omega, by omega, by omega, by omega⟩, show ((S.1 54 41) + 1 - ((v219_6 + 1))).toNat < ((S.1 54 41) + 1 - v219_6).toNat by omega⟩
            · refine ⟨by omega, ?_⟩
              have e22 : S219h.1 54 41 = S.1 54 41 := hS219h.1 41 (by decide)
              have e23 : S219h.2 84 ((v219_6 + 2)) = S.2 84 ((v219_6 + 2)) := congrFun (hS219h.2 84 (by decide)) _
              have e24 : S219h.1 54 41 = S.1 54 41 := hS219h.1 41 (by decide)
              refine tX11_docAt (by omega) (fun r257 n257_0 n257_1 n257_2 => ?_)
              refine ⟨by omega, ?_⟩
              refine ⟨fun h262 => ?_, fun h262 => ?_⟩
              · unfold wX11_section_283
                refine ⟨by omega, ?_⟩
                have e25 : S219h.1 54 41 = S.1 54 41 := hS219h.1 41 (by decide)
                have e26 : S219h.2 84 (v219_6) = S.2 84 (v219_6) := congrFun (hS219h.2 84 (by decide)) _
                have e27 : S219h.1 54 41 = S.1 54 41 := hS219h.1 41 (by decide)
                refine tX11_docAt (by omega) (fun r286 n286_0 n286_1 n286_2 => ?_)
                refine ⟨by omega, ?_⟩
                refine ⟨fun h289 => ?_, fun h289 => ?_⟩
                · have e28 : S219h.1 54 59 = S.1 54 59 := hS219h.1 59 (by decide)
                  exact hK ((v219_6 + 3)) S219h (Ch.wk hS219h (by decide) (by decide)) (by omega) (by omega) (by omega) (by omega)
                · intro q29
                  have e30 : S219h.1 54 41 = S.1 54 41 := hS219h.1 41 (by decide)
                  refine tX11_fail (by omega) (fun r297 S297 hS297 n297_0 => ?_)
                  have e31 : S297.1 54 56 = S219h.1 54 56 := hS297.1 56 (by decide)
                  have e32 : S297.1 54 56 = S219h.1 54 56 := hS297.1 56 (by decide)
                  exact hK ((v219_6 + 3)) S297 (Ch.wk (Ch.tr hS219h hS297) (by decide) (by decide)) (by omega) (by omega) (by omega) (by omega)
              · unfold wX11_section_265
                refine ⟨by omega, by omega, ?_⟩
                intro q33
                have e34 : S219h.2 84 (v219_6) = S.2 84 (v219_6) := congrFun (hS219h.2 84 (by decide)) _
                refine ⟨by omega, ?_⟩
                refine tX11_keep (by omega) (by omega) (fun r274 S274 hS274 n274_0 => ?_)
                exact ⟨⟨(Ch.wk (Ch.tr hS219h hS274) (by decide) (by decide)), rfl, by omega, by omega, by omega, by omega⟩, show ((S.1 54 41) + 1 - ((v219_6 + 1))).toNat < ((S.1 54 41) + 1 - v219_6).toNat by omega⟩
      · unfold wX11_section_134
        refine ⟨fun u6 Sx => S = Sx ∧ (a1 + 1 ≤ u6) ∧ (u6 ≤ (S.1 54 41)), fun u6 Sx => ((S.1 54 41) + 1 - u6).toNat, ?_, fun v134_6 S134h hI => ?_⟩
        · exact ⟨rfl, by omega, by omega⟩
        obtain ⟨rfl, i134_0, i134_1⟩ := hI
        unfold wX11_section_134'
        refine ⟨by omega, ?_⟩
        refine tX11_docAt (by omega) (fun r137 n137_0 n137_1 n137_2 => ?_)
        refine ⟨by omega, ?_⟩
        refine ⟨fun h140 => ?_, fun h140 => ?_⟩
        · unfold wX11_section_173
          refine ⟨by omega, ?_⟩
          refine tX11_docAt (by omega) (fun r176 n176_0 n176_1 n176_2 => ?_)
          refine ⟨by omega, ?_⟩
          refine ⟨fun h179 => ?_, fun h179 => ?_⟩
          · refine ⟨by omega, ?_⟩
            refine tX11_docAt (by omega) (fun r198 n198_0 n198_1 n198_2 => ?_)
            refine ⟨by omega, ?_⟩
            refine ⟨fun h203 => ?_, fun h203 => ?_⟩
            · exact hK ((v134_6 + 3)) S (Ch.wk Ch.rf (by decide) (by decide)) (by omega) (by omega) (by omega) (by omega)
            · refine tX11_fail (by omega) (fun r211 S211 hS211 n211_0 => ?_)
              have e35 : S211.1 54 56 = S.1 54 56 := hS211.1 56 (by decide)
              have e36 : S211.1 54 56 = S.1 54 56 := hS211.1 56 (by decide)
              exact hK ((v134_6 + 3)) S211 (Ch.wk hS211 (by decide) (by decide)) (by omega) (by omega) (by omega) (by omega)
          · intro q37
            refine tX11_fail (by omega) (fun r187 S187 hS187 n187_0 => ?_)
            have e38 : S187.1 54 56 = S.1 54 56 := hS187.1 56 (by decide)
            have e39 : S187.1 54 56 = S.1 54 56 := hS187.1 56 (by decide)
            exact hK ((v134_6 + 3)) S187 (Ch.wk hS187 (by decide) (by decide)) (by omega) (by omega) (by omega) (by omega)
        · refine tX11_docAt (by omega) (fun r146 n146_0 n146_1 n146_2 => ?_)
          refine ⟨by omega, ?_⟩
          refine ⟨fun h151 => ?_, fun h151 => ?_⟩
          · unfold wX11_section_167
            exact ⟨⟨rfl, by omega, by omega⟩, show ((S.1 54 41) + 1 - ((v134_6 + 1))).toNat < ((S.1 54 41) + 1 - v134_6).toNat by omega⟩
          · refine ⟨by omega, ?_⟩
            refine tX11_docAt (by omega) (fun r159 n159_0 n159_1 n159_2 => ?_)
            refine ⟨by omega, ?_⟩
            refine ⟨fun h164 => ?_, fun h164 => ?_⟩
            · unfold wX11_section_173
              refine ⟨by omega, ?_⟩
              refine tX11_docAt (by omega) (fun r176 n176_0 n176_1 n176_2 => ?_)
              refine ⟨by omega, ?_⟩
              refine ⟨fun h179 => ?_, fun h179 => ?_⟩
              · refine ⟨by omega, ?_⟩
                refine tX11_docAt (by omega) (fun r198 n198_0 n198_1 n198_2 => ?_)
                refine ⟨by omega, ?_⟩
                refine ⟨fun h203 => ?_, fun h203 => ?_⟩
                · exact hK ((v134_6 + 3)) S (Ch.wk Ch.rf (by decide) (by decide)) (by omega) (by omega) (by omega) (by omega)
                · refine tX11_fail (by omega) (fun r211 S211 hS211 n211_0 => ?_)
                  have e40 : S211.1 54 56 = S.1 54 56 := hS211.1 56 (by decide)
                  have e41 : S211.1 54 56 = S.1 54 56 := hS211.1 56 (by decide)
                  exact hK ((v134_6 + 3)) S211 (Ch.wk hS211 (by decide) (by decide)) (by omega) (by omega) (by omega) (by omega)
              · intro q42
                refine tX11_fail (by omega) (fun r187 S187 hS187 n187_0 => ?_)
                have e43 : S187.1 54 56 = S.1 54 56 := hS187.1 56 (by decide)
                have e44 : S187.1 54 56 = S.1 54 56 := hS187.1 56 (by decide)
                exact hK ((v134_6 + 3)) S187 (Ch.wk hS187 (by decide) (by decide)) (by omega) (by omega) (by omega) (by omega)
            · unfold wX11_section_167
              exact ⟨⟨rfl, by omega, by omega⟩, show ((S.1 54 41) + 1 - ((v134_6 + 1))).toNat < ((S.1 54 41) + 1 - v134_6).toNat by omega⟩
    · refine ⟨by omega, ?_⟩
      refine ⟨fun h113 => ?_, fun h113 => ?_⟩
      · unfold wX11_section_123
        refine ⟨by omega, ?_⟩
        refine tX11_fail (by omega) (fun r123 S123 hS123 n123_0 => ?_)
        have e45 : S123.1 54 56 = S.1 54 56 := hS123.1 56 (by decide)
        have e46 : S123.1 54 56 = S.1 54 56 := hS123.1 56 (by decide)
        exact hK ((((a1 + 1) + v10_4))) S123 (Ch.wk hS123 (by decide) (by decide)) (by omega) (by omega) (by omega) (by omega)
      · unfold wX11_section_123
        refine ⟨by omega, ?_⟩
        refine tX11_fail (by omega) (fun r123 S123 hS123 n123_0 => ?_)
        have e47 : S123.1 54 56 = S.1 54 56 := hS123.1 56 (by decide)
        have e48 : S123.1 54 56 = S.1 54 56 := hS123.1 56 (by decide)
        exact hK ((((a1 + 1) + v10_4))) S123 (Ch.wk hS123 (by decide) (by decide)) (by omega) (by omega) (by omega) (by omega)
  · unfold wX11_section_19
    refine ⟨fun u1 u2 u3 u4 u5 u6 u7 Sx => S = Sx ∧ a1 = u1 ∧ a2 = u2 ∧ a3 = u3 ∧ v10_4 = u4 ∧ v10_5 = u5 ∧ v10_6 = u6 ∧ (iv 0 8 u7) ∧ (a1 + u7 < (S.1 54 41)) ∧ (iv 0 1 u6), fun u1 u2 u3 u4 u5 u6 u7 Sx => (9 - u7).toNat, ?_, fun v19_1 v19_2 v19_3 v19_4 v19_5 v19_6 v19_7 S19h hI => ?_⟩
    · exact ⟨rfl, rfl, rfl, rfl, rfl, rfl, rfl, by omega, by omega, by omega⟩
    obtain ⟨rfl, rfl, rfl, rfl, rfl, rfl, rfl, i19_0, i19_1, i19_2⟩ := hI
    unfold wX11_section_19'
    refine ⟨by omega, ?_⟩
    refine ⟨by omega, ?_⟩
    refine tX11_openerSign (by omega) (fun r23 n23_0 n23_1 => ?_)
    refine ⟨by omega, ?_⟩
    refine ⟨fun h26 => ?_, fun h26 => ?_⟩
    · unfold wX11_section_55
      refine ⟨by omega, ?_⟩
      refine ⟨by omega, ?_⟩
      refine tX11_openerSign (by omega) (fun r59 n59_0 n59_1 => ?_)
      refine ⟨by omega, ?_⟩
      refine ⟨fun h62 => ?_, fun h62 => ?_⟩
      · unfold wX11_section_72
        refine ⟨by omega, ?_⟩
        refine ⟨by omega, ?_⟩
        refine ⟨fun h78 => ?_, fun h78 => ?_⟩
        · unfold wX11_section_88
          exact ⟨⟨rfl, rfl, rfl, rfl, by omega, by omega, by omega, by omega⟩, show (3 - ((v10_6 + 1))).toNat < (3 - v10_6).toNat by omega⟩
        · unfold wX11_section_88
          exact ⟨⟨rfl, rfl, rfl, rfl, by omega, by omega, by omega, by omega⟩, show (3 - ((v10_6 + 1))).toNat < (3 - v10_6).toNat by omega⟩
      · unfold wX11_section_72
        refine ⟨by omega, ?_⟩
        refine ⟨by omega, ?_⟩
        refine ⟨fun h78 => ?_, fun h78 => ?_⟩
        · unfold wX11_section_88
          exact ⟨⟨rfl, rfl, rfl, rfl, by omega, by omega, by omega, by omega⟩, show (3 - ((v10_6 + 1))).toNat < (3 - v10_6).toNat by omega⟩
        · unfold wX11_section_88
          exact ⟨⟨rfl, rfl, rfl, rfl, by omega, by omega, by omega, by omega⟩, show (3 - ((v10_6 + 1))).toNat < (3 - v10_6).toNat by omega⟩
    · refine tX11_openerSign (by omega) (fun r33 n33_0 n33_1 => ?_)
      refine ⟨by omega, ?_⟩
      refine tX11_docAt (by omega) (fun r43 n43_0 n43_1 n43_2 => ?_)
      refine ⟨by omega, ?_⟩
      refine ⟨by omega, ?_⟩
      refine ⟨fun h46 => ?_, fun h46 => ?_⟩
      · unfold wX11_section_55
        refine ⟨by omega, ?_⟩
        refine ⟨by omega, ?_⟩
        refine tX11_openerSign (by omega) (fun r59 n59_0 n59_1 => ?_)
        refine ⟨by omega, ?_⟩
        refine ⟨fun h62 => ?_, fun h62 => ?_⟩
        · unfold wX11_section_72
          refine ⟨by omega, ?_⟩
          refine ⟨by omega, ?_⟩
          refine ⟨fun h78 => ?_, fun h78 => ?_⟩
          · unfold wX11_section_88
            exact ⟨⟨rfl, rfl, rfl, rfl, by omega, by omega, by omega, by omega⟩, show (3 - ((v10_6 + 1))).toNat < (3 - v10_6).toNat by omega⟩
          · unfold wX11_section_88
            exact ⟨⟨rfl, rfl, rfl, rfl, by omega, by omega, by omega, by omega⟩, show (3 - ((v10_6 + 1))).toNat < (3 - v10_6).toNat by omega⟩
        · unfold wX11_section_72
          refine ⟨by omega, ?_⟩
          refine ⟨by omega, ?_⟩
          refine ⟨fun h78 => ?_, fun h78 => ?_⟩
          · unfold wX11_section_88
            exact ⟨⟨rfl, rfl, rfl, rfl, by omega, by omega, by omega, by omega⟩, show (3 - ((v10_6 + 1))).toNat < (3 - v10_6).toNat by omega⟩
          · unfold wX11_section_88
            exact ⟨⟨rfl, rfl, rfl, rfl, by omega, by omega, by omega, by omega⟩, show (3 - ((v10_6 + 1))).toNat < (3 - v10_6).toNat by omega⟩
      · exact ⟨⟨rfl, rfl, rfl, rfl, rfl, rfl, rfl, by omega, by omega, by omega⟩, show (9 - ((v19_7 + 1))).toNat < (9 - v19_7).toNat by omega⟩

