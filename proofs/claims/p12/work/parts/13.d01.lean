set_option maxRecDepth 100000 in
set_option maxHeartbeats 4000000 in
theorem tX11_reference {a1 a2 : Int} {S : St} {K : Int → St → Prop} (p1 : 0 ≤ a1) (p2 : a1 < (S.1 54 41)) (p3 : (S.1 54 41) ≤ 3000) (p4 : (S.1 54 56) ≤ a1) (p5 : iv (-2) 199 a2) (hK : ∀ (r : Int) (S' : St), Ch [56, 59] [96, 97] S S' → (a1 ≤ r) → (r ≤ 3003) → ((S.1 54 56) ≤ (S'.1 54 56) ∧ (S'.1 54 56) ≤ (S.1 54 56) + 1) → (-1 ≤ (S'.1 54 59) ∨ (a1 + 1 ≤ r ∧ r ≤ (S.1 54 41) ∧ (S'.1 54 56) ≤ r)) → K r S') : wX11_reference a1 a2 S K := by
  unfold wX11_reference
  intro g1 g2
  refine ⟨by omega, ?_⟩
  refine tX11_docAt (by omega) (fun r4 n4_0 n4_1 n4_2 => ?_)
  refine ⟨by omega, ?_⟩
  refine ⟨fun h9 => ?_, fun h9 => ?_⟩
  · unfold wX11_reference_178
    refine ⟨fun u1 u2 u3 Sx => S = Sx ∧ a1 = u1 ∧ a2 = u2 ∧ (iv 0 5 u3), fun u1 u2 u3 Sx => (6 - u3).toNat, ?_, fun v178_1 v178_2 v178_3 S178h hI => ?_⟩
    · exact ⟨rfl, rfl, rfl, by omega⟩
    obtain ⟨rfl, rfl, rfl, i178_0⟩ := hI
    unfold wX11_reference_178'
    refine ⟨by omega, ?_⟩
    refine ⟨fun h180 => ?_, fun h180 => ?_⟩
    · refine ⟨by omega, ?_⟩
      refine tX11_fail (by omega) (fun r268 S268 hS268 n268_0 => ?_)
      have e1 : S268.1 54 56 = S.1 54 56 := hS268.1 56 (by decide)
      have e2 : S268.1 54 56 = S.1 54 56 := hS268.1 56 (by decide)
      exact hK (a1) S268 (Ch.wk hS268 (by decide) (by decide)) (by omega) (by omega) (by omega) (by omega)
    · unfold wX11_reference_186
      refine ⟨fun u1 u2 u3 u4 Sx => S = Sx ∧ a1 = u1 ∧ a2 = u2 ∧ v178_3 = u3 ∧ (iv 0 5 u4) ∧ (iv 0 4 u3) ∧ (a1 + u4 < (S.1 54 41)), fun u1 u2 u3 u4 Sx => (6 - u4).toNat, ?_, fun v186_1 v186_2 v186_3 v186_4 S186h hI => ?_⟩
      · exact ⟨rfl, rfl, rfl, rfl, by omega, by omega, by omega⟩
      obtain ⟨rfl, rfl, rfl, rfl, i186_0, i186_1, i186_2⟩ := hI
      unfold wX11_reference_186'
      refine ⟨by omega, ?_⟩
      refine ⟨fun h189 => ?_, fun h189 => ?_⟩
      · unfold wX11_reference_226
        refine ⟨by omega, ?_⟩
        refine ⟨fun h228 => ?_, fun h228 => ?_⟩
        · unfold wX11_reference_260
          exact ⟨⟨rfl, rfl, rfl, by omega⟩, show (6 - ((v178_3 + 1))).toNat < (6 - v178_3).toNat by omega⟩
        · refine ⟨by omega, ?_⟩
          refine ⟨by omega, ?_⟩
          refine tX11_entitySign (by omega) (by omega) (fun r236 n236_0 => ?_)
          refine ⟨by omega, ?_⟩
          refine ⟨fun h241 => ?_, fun h241 => ?_⟩
          · unfold wX11_reference_260
            exact ⟨⟨rfl, rfl, rfl, by omega⟩, show (6 - ((v178_3 + 1))).toNat < (6 - v178_3).toNat by omega⟩
          · refine tX11_entity  (fun r246 n246_0 => ?_)
            refine ⟨by omega, ?_⟩
            refine ⟨by omega, ?_⟩
            refine tX11_keep (by omega) (by omega) (fun r250 S250 hS250 n250_0 => ?_)
            have e3 : S250.1 54 59 = S.1 54 59 := hS250.1 59 (by decide)
            exact hK (((a1 + 1) + v186_4)) S250 (Ch.wk hS250 (by decide) (by decide)) (by omega) (by omega) (by omega) (by omega)
      · refine ⟨by omega, ?_⟩
        refine tX11_entitySign (by omega) (by omega) (fun r195 n195_0 => ?_)
        refine ⟨by omega, ?_⟩
        refine ⟨fun h198 => ?_, fun h198 => ?_⟩
        · unfold wX11_reference_226
          refine ⟨by omega, ?_⟩
          refine ⟨fun h228 => ?_, fun h228 => ?_⟩
          · unfold wX11_reference_260
            exact ⟨⟨rfl, rfl, rfl, by omega⟩, show (6 - ((v178_3 + 1))).toNat < (6 - v178_3).toNat by omega⟩
          · refine ⟨by omega, ?_⟩
            refine ⟨by omega, ?_⟩
            refine tX11_entitySign (by omega) (by omega) (fun r236 n236_0 => ?_)
            refine ⟨by omega, ?_⟩
            refine ⟨fun h241 => ?_, fun h241 => ?_⟩
            · unfold wX11_reference_260
              exact ⟨⟨rfl, rfl, rfl, by omega⟩, show (6 - ((v178_3 + 1))).toNat < (6 - v178_3).toNat by omega⟩
            · refine tX11_entity  (fun r246 n246_0 => ?_)
              refine ⟨by omega, ?_⟩
              refine ⟨by omega, ?_⟩
              refine tX11_keep (by omega) (by omega) (fun r250 S250 hS250 n250_0 => ?_)
              have e4 : S250.1 54 59 = S.1 54 59 := hS250.1 59 (by decide)
              exact hK (((a1 + 1) + v186_4)) S250 (Ch.wk hS250 (by decide) (by decide)) (by omega) (by omega) (by omega) (by omega)
        · refine tX11_entitySign (by omega) (by omega) (fun r204 n204_0 => ?_)
          refine ⟨by omega, ?_⟩
          refine tX11_docAt (by omega) (fun r214 n214_0 n214_1 n214_2 => ?_)
          refine ⟨by omega, ?_⟩
          refine ⟨by omega, ?_⟩
          refine ⟨fun h217 => ?_, fun h217 => ?_⟩
          · unfold wX11_reference_226
            refine ⟨by omega, ?_⟩
            refine ⟨fun h228 => ?_, fun h228 => ?_⟩
            · unfold wX11_reference_260
              exact ⟨⟨rfl, rfl, rfl, by omega⟩, show (6 - ((v178_3 + 1))).toNat < (6 - v178_3).toNat by omega⟩
            · refine ⟨by omega, ?_⟩
              refine ⟨by omega, ?_⟩
              refine tX11_entitySign (by omega) (by omega) (fun r236 n236_0 => ?_)
              refine ⟨by omega, ?_⟩
              refine ⟨fun h241 => ?_, fun h241 => ?_⟩
              · unfold wX11_reference_260
                exact ⟨⟨rfl, rfl, rfl, by omega⟩, show (6 - ((v178_3 + 1))).toNat < (6 - v178_3).toNat by omega⟩
              · refine tX11_entity  (fun r246 n246_0 => ?_)
                refine ⟨by omega, ?_⟩
                refine ⟨by omega, ?_⟩
                refine tX11_keep (by omega) (by omega) (fun r250 S250 hS250 n250_0 => ?_)
                have e5 : S250.1 54 59 = S.1 54 59 := hS250.1 59 (by decide)
                exact hK (((a1 + 1) + v186_4)) S250 (Ch.wk hS250 (by decide) (by decide)) (by omega) (by omega) (by omega) (by omega)
          · exact ⟨⟨rfl, rfl, rfl, rfl, by omega, by omega, by omega⟩, show (6 - ((v186_4 + 1))).toNat < (6 - v186_4).toNat by omega⟩
  · refine ⟨by omega, ?_⟩
    refine tX11_docAt (by omega) (fun r16 n16_0 n16_1 n16_2 => ?_)
    refine ⟨by omega, ?_⟩
    refine ⟨fun h21 => ?_, fun h21 => ?_⟩
    · unfold wX11_reference_29
      refine ⟨by omega, ?_⟩
      refine ⟨fun h31 => ?_, fun h31 => ?_⟩
      · unfold wX11_reference_43
        unfold wX11_reference_51
        refine ⟨fun u1 u2 u3 u4 u5 u6 Sx => S = Sx ∧ a1 = u1 ∧ a2 = u2 ∧ ((0)) = u3 ∧ (iv 0 6 u5) ∧ (a1 + 2 ≤ u4) ∧ (u4 ≤ (S.1 54 41)) ∧ (iv 0 1 u3) ∧ (0 ≤ u6) ∧ (u6 < p16 u5), fun u1 u2 u3 u4 u5 u6 Sx => (7 - u5).toNat, ?_, fun v51_1 v51_2 v51_3 v51_4 v51_5 v51_6 S51h hI => ?_⟩
        · exact ⟨rfl, rfl, rfl, rfl, by omega, by omega, by omega, by omega, by omega, by have := p16_1 (n := 0); omega⟩
        obtain ⟨rfl, rfl, rfl, rfl, i51_0, i51_1, i51_2, i51_3, i51_4, i51_5⟩ := hI
        unfold wX11_reference_51'
        have h16 := p16_6 i51_0
        have h161 := p16_1 (n := v51_5)
        refine ⟨by omega, ?_⟩
        refine ⟨fun h55 => ?_, fun h55 => ?_⟩
        · unfold wX11_reference_107
          refine ⟨by omega, ?_⟩
          refine ⟨fun h109 => ?_, fun h109 => ?_⟩
          · unfold wX11_reference_156
            refine ⟨by omega, ?_⟩
            refine tX11_fail (by omega) (fun r158 S158 hS158 n158_0 => ?_)
            have e6 : S158.1 54 56 = S.1 54 56 := hS158.1 56 (by decide)
            have e7 : S158.1 54 56 = S.1 54 56 := hS158.1 56 (by decide)
            exact hK (v51_4) S158 (Ch.wk hS158 (by decide) (by decide)) (by omega) (by omega) (by omega) (by omega)
          · refine ⟨by omega, ?_⟩
            refine tX11_docAt (by omega) (fun r115 n115_0 n115_1 n115_2 => ?_)
            refine ⟨by omega, ?_⟩
            refine ⟨fun h120 => ?_, fun h120 => ?_⟩
            · unfold wX11_reference_156
              refine ⟨by omega, ?_⟩
              refine tX11_fail (by omega) (fun r158 S158 hS158 n158_0 => ?_)
              have e8 : S158.1 54 56 = S.1 54 56 := hS158.1 56 (by decide)
              have e9 : S158.1 54 56 = S.1 54 56 := hS158.1 56 (by decide)
              exact hK (v51_4) S158 (Ch.wk hS158 (by decide) (by decide)) (by omega) (by omega) (by omega) (by omega)
            · refine ⟨by omega, ?_⟩
              refine tX11_in  (fun r129 n129_0 => ?_)
              refine ⟨by omega, ?_⟩
              refine ⟨fun h132 => ?_, fun h132 => ?_⟩
              · unfold wX11_reference_164
                refine ⟨by omega, ?_⟩
                refine ⟨by omega, ?_⟩
                refine tX11_keep (by omega) (by omega) (fun r168 S168 hS168 n168_0 => ?_)
                have e10 : S168.1 54 59 = S.1 54 59 := hS168.1 59 (by decide)
                exact hK ((v51_4 + 1)) S168 (Ch.wk hS168 (by decide) (by decide)) (by omega) (by omega) (by omega) (by omega)
              · refine ⟨fun h139 => ?_, fun h139 => ?_⟩
                · unfold wX11_reference_164
                  refine ⟨by omega, ?_⟩
                  refine ⟨by omega, ?_⟩
                  refine tX11_keep (by omega) (by omega) (fun r168 S168 hS168 n168_0 => ?_)
                  have e11 : S168.1 54 59 = S.1 54 59 := hS168.1 59 (by decide)
                  exact hK ((v51_4 + 1)) S168 (Ch.wk hS168 (by decide) (by decide)) (by omega) (by omega) (by omega) (by omega)
                · refine ⟨fun h146 => ?_, fun h146 => ?_⟩
                  · unfold wX11_reference_164
                    refine ⟨by omega, ?_⟩
                    refine ⟨by omega, ?_⟩
                    refine tX11_keep (by omega) (by omega) (fun r168 S168 hS168 n168_0 => ?_)
                    have e12 : S168.1 54 59 = S.1 54 59 := hS168.1 59 (by decide)
                    exact hK ((v51_4 + 1)) S168 (Ch.wk hS168 (by decide) (by decide)) (by omega) (by omega) (by omega) (by omega)
                  · refine ⟨fun h153 => ?_, fun h153 => ?_⟩
                    · unfold wX11_reference_164
                      refine ⟨by omega, ?_⟩
                      refine ⟨by omega, ?_⟩
                      refine tX11_keep (by omega) (by omega) (fun r168 S168 hS168 n168_0 => ?_)
                      have e13 : S168.1 54 59 = S.1 54 59 := hS168.1 59 (by decide)
                      exact hK ((v51_4 + 1)) S168 (Ch.wk hS168 (by decide) (by decide)) (by omega) (by omega) (by omega) (by omega)
                    · unfold wX11_reference_156
                      refine ⟨by omega, ?_⟩
                      refine tX11_fail (by omega) (fun r158 S158 hS158 n158_0 => ?_)
                      have e14 : S158.1 54 56 = S.1 54 56 := hS158.1 56 (by decide)
                      have e15 : S158.1 54 56 = S.1 54 56 := hS158.1 56 (by decide)
                      exact hK (v51_4) S158 (Ch.wk hS158 (by decide) (by decide)) (by omega) (by omega) (by omega) (by omega)
        · refine ⟨by omega, ?_⟩
          refine tX11_docAt (by omega) (fun r61 n61_0 n61_1 n61_2 => ?_)
          refine ⟨by omega, ?_⟩
          refine ⟨by omega, ?_⟩
          refine tX11_figureB  (fun r65 n65_0 => ?_)
          refine ⟨by omega, ?_⟩
          refine ⟨fun h68 => ?_, fun h68 => ?_⟩
          · unfold wX11_reference_107
            refine ⟨by omega, ?_⟩
            refine ⟨fun h109 => ?_, fun h109 => ?_⟩
            · unfold wX11_reference_156
              refine ⟨by omega, ?_⟩
              refine tX11_fail (by omega) (fun r158 S158 hS158 n158_0 => ?_)
              have e16 : S158.1 54 56 = S.1 54 56 := hS158.1 56 (by decide)
              have e17 : S158.1 54 56 = S.1 54 56 := hS158.1 56 (by decide)
              exact hK (v51_4) S158 (Ch.wk hS158 (by decide) (by decide)) (by omega) (by omega) (by omega) (by omega)
            · refine ⟨by omega, ?_⟩
              refine tX11_docAt (by omega) (fun r115 n115_0 n115_1 n115_2 => ?_)
              refine ⟨by omega, ?_⟩
              refine ⟨fun h120 => ?_, fun h120 => ?_⟩
              · unfold wX11_reference_156
                refine ⟨by omega, ?_⟩
                refine tX11_fail (by omega) (fun r158 S158 hS158 n158_0 => ?_)
                have e18 : S158.1 54 56 = S.1 54 56 := hS158.1 56 (by decide)
                have e19 : S158.1 54 56 = S.1 54 56 := hS158.1 56 (by decide)
                exact hK (v51_4) S158 (Ch.wk hS158 (by decide) (by decide)) (by omega) (by omega) (by omega) (by omega)
              · refine ⟨by omega, ?_⟩
                refine tX11_in  (fun r129 n129_0 => ?_)
                refine ⟨by omega, ?_⟩
                refine ⟨fun h132 => ?_, fun h132 => ?_⟩
                · unfold wX11_reference_164
                  refine ⟨by omega, ?_⟩
                  refine ⟨by omega, ?_⟩
                  refine tX11_keep (by omega) (by omega) (fun r168 S168 hS168 n168_0 => ?_)
                  have e20 : S168.1 54 59 = S.1 54 59 := hS168.1 59 (by decide)
                  exact hK ((v51_4 + 1)) S168 (Ch.wk hS168 (by decide) (by decide)) (by omega) (by omega) (by omega) (by omega)
                · refine ⟨fun h139 => ?_, fun h139 => ?_⟩
                  · unfold wX11_reference_164
                    refine ⟨by omega, ?_⟩
                    refine ⟨by omega, ?_⟩
                    refine tX11_keep (by omega) (by omega) (fun r168 S168 hS168 n168_0 => ?_)
                    have e21 : S168.1 54 59 = S.1 54 59 := hS168.1 59 (by decide)
                    exact hK ((v51_4 + 1)) S168 (Ch.wk hS168 (by decide) (by decide)) (by omega) (by omega) (by omega) (by omega)
                  · refine ⟨fun h146 => ?_, fun h146 => ?_⟩
                    · unfold wX11_reference_164
                      refine ⟨by omega, ?_⟩
                      refine ⟨by omega, ?_⟩
                      refine tX11_keep (by omega) (by omega) (fun r168 S168 hS168 n168_0 => ?_)
                      have e22 : S168.1 54 59 = S.1 54 59 := hS168.1 59 (by decide)
                      exact hK ((v51_4 + 1)) S168 (Ch.wk hS168 (by decide) (by decide)) (by omega) (by omega) (by omega) (by omega)
                    · refine ⟨fun h153 => ?_, fun h153 => ?_⟩
                      · unfold wX11_reference_164
                        refine ⟨by omega, ?_⟩
                        refine ⟨by omega, ?_⟩
                        refine tX11_keep (by omega) (by omega) (fun r168 S168 hS168 n168_0 => ?_)
                        have e23 : S168.1 54 59 = S.1 54 59 := hS168.1 59 (by decide)
                        exact hK ((v51_4 + 1)) S168 (Ch.wk hS168 (by decide) (by decide)) (by omega) (by omega) (by omega) (by omega)
                      · unfold wX11_reference_156
                        refine ⟨by omega, ?_⟩
                        refine tX11_fail (by omega) (fun r158 S158 hS158 n158_0 => ?_)
                        have e24 : S158.1 54 56 = S.1 54 56 := hS158.1 56 (by decide)
                        have e25 : S158.1 54 56 = S.1 54 56 := hS158.1 56 (by decide)
                        exact hK (v51_4) S158 (Ch.wk hS158 (by decide) (by decide)) (by omega) (by omega) (by omega) (by omega)
          · refine ⟨fun h74 => ?_, fun h74 => ?_⟩
            · unfold wX11_reference_84
              refine ⟨by omega, ?_⟩
              refine tX11_docAt (by omega) (fun r88 n88_0 n88_1 n88_2 => ?_)
              refine ⟨by omega, ?_⟩
              refine ⟨by omega, ?_⟩
              refine tX11_figureB  (fun r92 n92_0 => ?_)
              intro x96 hx96
              subst hx96
              have h162 := p16_s (n := v51_5) (by omega)
              exact ⟨⟨rfl, rfl, rfl, rfl, by omega, by omega, by omega, by omega, by omega, by omega⟩, show (7 - ((v51_5 + 1))).toNat < (7 - v51_5).toNat by omega⟩
            · unfold wX11_reference_84
              refine ⟨by omega, ?_⟩
              refine tX11_docAt (by omega) (fun r88 n88_0 n88_1 n88_2 => ?_)
              refine ⟨by omega, ?_⟩
              refine ⟨by omega, ?_⟩
              refine tX11_figureB  (fun r92 n92_0 => ?_)
              intro x96 hx96
              subst hx96
              have h162 := p16_s (n := v51_5) (by omega)
              exact ⟨⟨rfl, rfl, rfl, rfl, by omega, by omega, by omega, by omega, by omega, by omega⟩, show (7 - ((v51_5 + 1))).toNat < (7 - v51_5).toNat by omega⟩
      · unfold wX11_reference_43
        unfold wX11_reference_51
        refine ⟨fun u1 u2 u3 u4 u5 u6 Sx => S = Sx ∧ a1 = u1 ∧ a2 = u2 ∧ ((0)) = u3 ∧ (iv 0 6 u5) ∧ (a1 + 2 ≤ u4) ∧ (u4 ≤ (S.1 54 41)) ∧ (iv 0 1 u3) ∧ (0 ≤ u6) ∧ (u6 < p16 u5), fun u1 u2 u3 u4 u5 u6 Sx => (7 - u5).toNat, ?_, fun v51_1 v51_2 v51_3 v51_4 v51_5 v51_6 S51h hI => ?_⟩
        · exact ⟨rfl, rfl, rfl, rfl, by omega, by omega, by omega, by omega, by omega, by have := p16_1 (n := 0); omega⟩
        obtain ⟨rfl, rfl, rfl, rfl, i51_0, i51_1, i51_2, i51_3, i51_4, i51_5⟩ := hI
        unfold wX11_reference_51'
        have h16 := p16_6 i51_0
        have h161 := p16_1 (n := v51_5)
        refine ⟨by omega, ?_⟩
        refine ⟨fun h55 => ?_, fun h55 => ?_⟩
        · unfold wX11_reference_107
          refine ⟨by omega, ?_⟩
          refine ⟨fun h109 => ?_, fun h109 => ?_⟩
          · unfold wX11_reference_156
            refine ⟨by omega, ?_⟩
            refine tX11_fail (by omega) (fun r158 S158 hS158 n158_0 => ?_)
            have e26 : S158.1 54 56 = S.1 54 56 := hS158.1 56 (by decide)
            have e27 : S158.1 54 56 = S.1 54 56 := hS158.1 56 (by decide)
            exact hK (v51_4) S158 (Ch.wk hS158 (by decide) (by decide)) (by omega) (by omega) (by omega) (by omega)
          · refine ⟨by omega, ?_⟩
            refine tX11_docAt (by omega) (fun r115 n115_0 n115_1 n115_2 => ?_)
            refine ⟨by omega, ?_⟩
            refine ⟨fun h120 => ?_, fun h120 => ?_⟩
            · unfold wX11_reference_156
              refine ⟨by omega, ?_⟩
              refine tX11_fail (by omega) (fun r158 S158 hS158 n158_0 => ?_)
              have e28 : S158.1 54 56 = S.1 54 56 := hS158.1 56 (by decide)
              have e29 : S158.1 54 56 = S.1 54 56 := hS158.1 56 (by decide)
              exact hK (v51_4) S158 (Ch.wk hS158 (by decide) (by decide)) (by omega) (by omega) (by omega) (by omega)
            · refine ⟨by omega, ?_⟩
              refine tX11_in  (fun r129 n129_0 => ?_)
              refine ⟨by omega, ?_⟩
              refine ⟨fun h132 => ?_, fun h132 => ?_⟩
              · unfold wX11_reference_164
                refine ⟨by omega, ?_⟩
                refine ⟨by omega, ?_⟩
                refine tX11_keep (by omega) (by omega) (fun r168 S168 hS168 n168_0 => ?_)
                have e30 : S168.1 54 59 = S.1 54 59 := hS168.1 59 (by decide)
                exact hK ((v51_4 + 1)) S168 (Ch.wk hS168 (by decide) (by decide)) (by omega) (by omega) (by omega) (by omega)
              · refine ⟨fun h139 => ?_, fun h139 => ?_⟩
                · unfold wX11_reference_164
                  refine ⟨by omega, ?_⟩
                  refine ⟨by omega, ?_⟩
                  refine tX11_keep (by omega) (by omega) (fun r168 S168 hS168 n168_0 => ?_)
                  have e31 : S168.1 54 59 = S.1 54 59 := hS168.1 59 (by decide)
                  exact hK ((v51_4 + 1)) S168 (Ch.wk hS168 (by decide) (by decide)) (by omega) (by omega) (by omega) (by omega)
                · refine ⟨fun h146 => ?_, fun h146 => ?_⟩
                  · unfold wX11_reference_164
                    refine ⟨by omega, ?_⟩
                    refine ⟨by omega, ?_⟩
                    refine tX11_keep (by omega) (by omega) (fun r168 S168 hS168 n168_0 => ?_)
                    have e32 : S168.1 54 59 = S.1 54 59 := hS168.1 59 (by decide)
                    exact hK ((v51_4 + 1)) S168 (Ch.wk hS168 (by decide) (by decide)) (by omega) (by omega) (by omega) (by omega)
                  · refine ⟨fun h153 => ?_, fun h153 => ?_⟩
                    · unfold wX11_reference_164
                      refine ⟨by omega, ?_⟩
                      refine ⟨by omega, ?_⟩
                      refine tX11_keep (by omega) (by omega) (fun r168 S168 hS168 n168_0 => ?_)
                      have e33 : S168.1 54 59 = S.1 54 59 := hS168.1 59 (by decide)
                      exact hK ((v51_4 + 1)) S168 (Ch.wk hS168 (by decide) (by decide)) (by omega) (by omega) (by omega) (by omega)
                    · unfold wX11_reference_156
                      refine ⟨by omega, ?_⟩
                      refine tX11_fail (by omega) (fun r158 S158 hS158 n158_0 => ?_)
                      have e34 : S158.1 54 56 = S.1 54 56 := hS158.1 56 (by decide)
                      have e35 : S158.1 54 56 = S.1 54 56 := hS158.1 56 (by decide)
                      exact hK (v51_4) S158 (Ch.wk hS158 (by decide) (by decide)) (by omega) (by omega) (by omega) (by omega)
        · refine ⟨by omega, ?_⟩
          refine tX11_docAt (by omega) (fun r61 n61_0 n61_1 n61_2 => ?_)
          refine ⟨by omega, ?_⟩
          refine ⟨by omega, ?_⟩
          refine tX11_figureB  (fun r65 n65_0 => ?_)
          refine ⟨by omega, ?_⟩
          refine ⟨fun h68 => ?_, fun h68 => ?_⟩
          · unfold wX11_reference_107
            refine ⟨by omega, ?_⟩
            refine ⟨fun h109 => ?_, fun h109 => ?_⟩
            · unfold wX11_reference_156
              refine ⟨by omega, ?_⟩
              refine tX11_fail (by omega) (fun r158 S158 hS158 n158_0 => ?_)
              have e36 : S158.1 54 56 = S.1 54 56 := hS158.1 56 (by decide)
              have e37 : S158.1 54 56 = S.1 54 56 := hS158.1 56 (by decide)
              exact hK (v51_4) S158 (Ch.wk hS158 (by decide) (by decide)) (by omega) (by omega) (by omega) (by omega)
            · refine ⟨by omega, ?_⟩
              refine tX11_docAt (by omega) (fun r115 n115_0 n115_1 n115_2 => ?_)
              refine ⟨by omega, ?_⟩
              refine ⟨fun h120 => ?_, fun h120 => ?_⟩
              · unfold wX11_reference_156
                refine ⟨by omega, ?_⟩
                refine tX11_fail (by omega) (fun r158 S158 hS158 n158_0 => ?_)
                have e38 : S158.1 54 56 = S.1 54 56 := hS158.1 56 (by decide)
                have e39 : S158.1 54 56 = S.1 54 56 := hS158.1 56 (by decide)
                exact hK (v51_4) S158 (Ch.wk hS158 (by decide) (by decide)) (by omega) (by omega) (by omega) (by omega)
              · refine ⟨by omega, ?_⟩
                refine tX11_in  (fun r129 n129_0 => ?_)
                refine ⟨by omega, ?_⟩
                refine ⟨fun h132 => ?_, fun h132 => ?_⟩
                · unfold wX11_reference_164
                  refine ⟨by omega, ?_⟩
                  refine ⟨by omega, ?_⟩
                  refine tX11_keep (by omega) (by omega) (fun r168 S168 hS168 n168_0 => ?_)
                  have e40 : S168.1 54 59 = S.1 54 59 := hS168.1 59 (by decide)
                  exact hK ((v51_4 + 1)) S168 (Ch.wk hS168 (by decide) (by decide)) (by omega) (by omega) (by omega) (by omega)
                · refine ⟨fun h139 => ?_, fun h139 => ?_⟩
                  · unfold wX11_reference_164
                    refine ⟨by omega, ?_⟩
                    refine ⟨by omega, ?_⟩
                    refine tX11_keep (by omega) (by omega) (fun r168 S168 hS168 n168_0 => ?_)
                    have e41 : S168.1 54 59 = S.1 54 59 := hS168.1 59 (by decide)
                    exact hK ((v51_4 + 1)) S168 (Ch.wk hS168 (by decide) (by decide)) (by omega) (by omega) (by omega) (by omega)
                  · refine ⟨fun h146 => ?_, fun h146 => ?_⟩
                    · unfold wX11_reference_164
                      refine ⟨by omega, ?_⟩
                      refine ⟨by omega, ?_⟩
                      refine tX11_keep (by omega) (by omega) (fun r168 S168 hS168 n168_0 => ?_)
                      have e42 : S168.1 54 59 = S.1 54 59 := hS168.1 59 (by decide)
                      exact hK ((v51_4 + 1)) S168 (Ch.wk hS168 (by decide) (by decide)) (by omega) (by omega) (by omega) (by omega)
                    · refine ⟨fun h153 => ?_, fun h153 => ?_⟩
                      · unfold wX11_reference_164
                        refine ⟨by omega, ?_⟩
                        refine ⟨by omega, ?_⟩
                        refine tX11_keep (by omega) (by omega) (fun r168 S168 hS168 n168_0 => ?_)
                        have e43 : S168.1 54 59 = S.1 54 59 := hS168.1 59 (by decide)
                        exact hK ((v51_4 + 1)) S168 (Ch.wk hS168 (by decide) (by decide)) (by omega) (by omega) (by omega) (by omega)
                      · unfold wX11_reference_156
                        refine ⟨by omega, ?_⟩
                        refine tX11_fail (by omega) (fun r158 S158 hS158 n158_0 => ?_)
                        have e44 : S158.1 54 56 = S.1 54 56 := hS158.1 56 (by decide)
                        have e45 : S158.1 54 56 = S.1 54 56 := hS158.1 56 (by decide)
                        exact hK (v51_4) S158 (Ch.wk hS158 (by decide) (by decide)) (by omega) (by omega) (by omega) (by omega)
          · refine ⟨fun h74 => ?_, fun h74 => ?_⟩
            · unfold wX11_reference_84
              refine ⟨by omega, ?_⟩
              refine tX11_docAt (by omega) (fun r88 n88_0 n88_1 n88_2 => ?_)
              refine ⟨by omega, ?_⟩
              refine ⟨by omega, ?_⟩
              refine tX11_figureB  (fun r92 n92_0 => ?_)
              intro x96 hx96
              subst hx96
              have h162 := p16_s (n := v51_5) (by omega)
              exact ⟨⟨rfl, rfl, rfl, rfl, by omega, by omega, by omega, by omega, by omega, by omega⟩, show (7 - ((v51_5 + 1))).toNat < (7 - v51_5).toNat by omega⟩
            · unfold wX11_reference_84
              refine ⟨by omega, ?_⟩
              refine tX11_docAt (by omega) (fun r88 n88_0 n88_1 n88_2 => ?_)
              refine ⟨by omega, ?_⟩
              refine ⟨by omega, ?_⟩
              refine tX11_figureB  (fun r92 n92_0 => ?_)
              intro x96 hx96
              subst hx96
              have h162 := p16_s (n := v51_5) (by omega)
              exact ⟨⟨rfl, rfl, rfl, rfl, by omega, by omega, by omega, by omega, by omega, by omega⟩, show (7 - ((v51_5 + 1))).toNat < (7 - v51_5).toNat by omega⟩
    · unfold wX11_reference_29
      refine ⟨by omega, ?_⟩
      refine ⟨fun h31 => ?_, fun h31 => ?_⟩
      · unfold wX11_reference_43
        unfold wX11_reference_51
        refine ⟨fun u1 u2 u3 u4 u5 u6 Sx => S = Sx ∧ a1 = u1 ∧ a2 = u2 ∧ ((1)) = u3 ∧ (iv 0 6 u5) ∧ (a1 + 2 ≤ u4) ∧ (u4 ≤ (S.1 54 41)) ∧ (iv 0 1 u3) ∧ (0 ≤ u6) ∧ (u6 < p16 u5), fun u1 u2 u3 u4 u5 u6 Sx => (7 - u5).toNat, ?_, fun v51_1 v51_2 v51_3 v51_4 v51_5 v51_6 S51h hI => ?_⟩
        · exact ⟨rfl, rfl, rfl, rfl, by omega, by omega, by omega, by omega, by omega, by have := p16_1 (n := 0); omega⟩
        obtain ⟨rfl, rfl, rfl, rfl, i51_0, i51_1, i51_2, i51_3, i51_4, i51_5⟩ := hI
        unfold wX11_reference_51'
        have h16 := p16_6 i51_0
        have h161 := p16_1 (n := v51_5)
        refine ⟨by omega, ?_⟩
        refine ⟨fun h55 => ?_, fun h55 => ?_⟩
        · unfold wX11_reference_107
          refine ⟨by omega, ?_⟩
          refine ⟨fun h109 => ?_, fun h109 => ?_⟩
          · unfold wX11_reference_156
            refine ⟨by omega, ?_⟩
            refine tX11_fail (by omega) (fun r158 S158 hS158 n158_0 => ?_)
            have e46 : S158.1 54 56 = S.1 54 56 := hS158.1 56 (by decide)
            have e47 : S158.1 54 56 = S.1 54 56 := hS158.1 56 (by decide)
            exact hK (v51_4) S158 (Ch.wk hS158 (by decide) (by decide)) (by omega) (by omega) (by omega) (by omega)
          · refine ⟨by omega, ?_⟩
            refine tX11_docAt (by omega) (fun r115 n115_0 n115_1 n115_2 => ?_)
            refine ⟨by omega, ?_⟩
            refine ⟨fun h120 => ?_, fun h120 => ?_⟩
            · unfold wX11_reference_156
              refine ⟨by omega, ?_⟩
              refine tX11_fail (by omega) (fun r158 S158 hS158 n158_0 => ?_)
              have e48 : S158.1 54 56 = S.1 54 56 := hS158.1 56 (by decide)
              have e49 : S158.1 54 56 = S.1 54 56 := hS158.1 56 (by decide)
              exact hK (v51_4) S158 (Ch.wk hS158 (by decide) (by decide)) (by omega) (by omega) (by omega) (by omega)
            · refine ⟨by omega, ?_⟩
              refine tX11_in  (fun r129 n129_0 => ?_)
              refine ⟨by omega, ?_⟩
              refine ⟨fun h132 => ?_, fun h132 => ?_⟩
              · unfold wX11_reference_164
                refine ⟨by omega, ?_⟩
                refine ⟨by omega, ?_⟩
                refine tX11_keep (by omega) (by omega) (fun r168 S168 hS168 n168_0 => ?_)
                have e50 : S168.1 54 59 = S.1 54 59 := hS168.1 59 (by decide)
                exact hK ((v51_4 + 1)) S168 (Ch.wk hS168 (by decide) (by decide)) (by omega) (by omega) (by omega) (by omega)
              · refine ⟨fun h139 => ?_, fun h139 => ?_⟩
                · unfold wX11_reference_164
                  refine ⟨by omega, ?_⟩
                  refine ⟨by omega, ?_⟩
                  refine tX11_keep (by omega) (by omega) (fun r168 S168 hS168 n168_0 => ?_)
                  have e51 : S168.1 54 59 = S.1 54 59 := hS168.1 59 (by decide)
                  exact hK ((v51_4 + 1)) S168 (Ch.wk hS168 (by decide) (by decide)) (by omega) (by omega) (by omega) (by omega)
                · refine ⟨fun h146 => ?_, fun h146 => ?_⟩
                  · unfold wX11_reference_164
                    refine ⟨by omega, ?_⟩
                    refine ⟨by omega, ?_⟩
                    refine tX11_keep (by omega) (by omega) (fun r168 S168 hS168 n168_0 => ?_)
                    have e52 : S168.1 54 59 = S.1 54 59 := hS168.1 59 (by decide)
                    exact hK ((v51_4 + 1)) S168 (Ch.wk hS168 (by decide) (by decide)) (by omega) (by omega) (by omega) (by omega)
                  · refine ⟨fun h153 => ?_, fun h153 => ?_⟩
                    · unfold wX11_reference_164
                      refine ⟨by omega, ?_⟩
                      refine ⟨by omega, ?_⟩
                      refine tX11_keep (by omega) (by omega) (fun r168 S168 hS168 n168_0 => ?_)
                      have e53 : S168.1 54 59 = S.1 54 59 := hS168.1 59 (by decide)
                      exact hK ((v51_4 + 1)) S168 (Ch.wk hS168 (by decide) (by decide)) (by omega) (by omega) (by omega) (by omega)
                    · unfold wX11_reference_156
                      refine ⟨by omega, ?_⟩
                      refine tX11_fail (by omega) (fun r158 S158 hS158 n158_0 => ?_)
                      have e54 : S158.1 54 56 = S.1 54 56 := hS158.1 56 (by decide)
                      have e55 : S158.1 54 56 = S.1 54 56 := hS158.1 56 (by decide)
                      exact hK (v51_4) S158 (Ch.wk hS158 (by decide) (by decide)) (by omega) (by omega) (by omega) (by omega)
        · refine ⟨by omega, ?_⟩
          refine tX11_docAt (by omega) (fun r61 n61_0 n61_1 n61_2 => ?_)
          refine ⟨by omega, ?_⟩
          refine ⟨by omega, ?_⟩
          refine tX11_figureB  (fun r65 n65_0 => ?_)
          refine ⟨by omega, ?_⟩
          refine ⟨fun h68 => ?_, fun h68 => ?_⟩
          · unfold wX11_reference_107
            refine ⟨by omega, ?_⟩
            refine ⟨fun h109 => ?_, fun h109 => ?_⟩
            · unfold wX11_reference_156
              refine ⟨by omega, ?_⟩
              refine tX11_fail (by omega) (fun r158 S158 hS158 n158_0 => ?_)
              have e56 : S158.1 54 56 = S.1 54 56 := hS158.1 56 (by decide)
              have e57 : S158.1 54 56 = S.1 54 56 := hS158.1 56 (by decide)
              exact hK (v51_4) S158 (Ch.wk hS158 (by decide) (by decide)) (by omega) (by omega) (by omega) (by omega)
            · refine ⟨by omega, ?_⟩
              refine tX11_docAt (by omega) (fun r115 n115_0 n115_1 n115_2 => ?_)
              refine ⟨by omega, ?_⟩
              refine ⟨fun h120 => ?_, fun h120 => ?_⟩
              · unfold wX11_reference_156
                refine ⟨by omega, ?_⟩
                refine tX11_fail (by omega) (fun r158 S158 hS158 n158_0 => ?_)
                have e58 : S158.1 54 56 = S.1 54 56 := hS158.1 56 (by decide)
                have e59 : S158.1 54 56 = S.1 54 56 := hS158.1 56 (by decide)
                exact hK (v51_4) S158 (Ch.wk hS158 (by decide) (by decide)) (by omega) (by omega) (by omega) (by omega)
              · refine ⟨by omega, ?_⟩
                refine tX11_in  (fun r129 n129_0 => ?_)
                refine ⟨by omega, ?_⟩
                refine ⟨fun h132 => ?_, fun h132 => ?_⟩
                · unfold wX11_reference_164
                  refine ⟨by omega, ?_⟩
                  refine ⟨by omega, ?_⟩
                  refine tX11_keep (by omega) (by omega) (fun r168 S168 hS168 n168_0 => ?_)
                  have e60 : S168.1 54 59 = S.1 54 59 := hS168.1 59 (by decide)
                  exact hK ((v51_4 + 1)) S168 (Ch.wk hS168 (by decide) (by decide)) (by omega) (by omega) (by omega) (by omega)
                · refine ⟨fun h139 => ?_, fun h139 => ?_⟩
                  · unfold wX11_reference_164
                    refine ⟨by omega, ?_⟩
                    refine ⟨by omega, ?_⟩
                    refine tX11_keep (by omega) (by omega) (fun r168 S168 hS168 n168_0 => ?_)
                    have e61 : S168.1 54 59 = S.1 54 59 := hS168.1 59 (by decide)
                    exact hK ((v51_4 + 1)) S168 (Ch.wk hS168 (by decide) (by decide)) (by omega) (by omega) (by omega) (by omega)
                  · refine ⟨fun h146 => ?_, fun h146 => ?_⟩
                    · unfold wX11_reference_164
                      refine ⟨by omega, ?_⟩
                      refine ⟨by omega, ?_⟩
                      refine tX11_keep (by omega) (by omega) (fun r168 S168 hS168 n168_0 => ?_)
                      have e62 : S168.1 54 59 = S.1 54 59 := hS168.1 59 (by decide)
                      exact hK ((v51_4 + 1)) S168 (Ch.wk hS168 (by decide) (by decide)) (by omega) (by omega) (by omega) (by omega)
                    · refine ⟨fun h153 => ?_, fun h153 => ?_⟩
                      · unfold wX11_reference_164
                        refine ⟨by omega, ?_⟩
                        refine ⟨by omega, ?_⟩
                        refine tX11_keep (by omega) (by omega) (fun r168 S168 hS168 n168_0 => ?_)
                        have e63 : S168.1 54 59 = S.1 54 59 := hS168.1 59 (by decide)
                        exact hK ((v51_4 + 1)) S168 (Ch.wk hS168 (by decide) (by decide)) (by omega) (by omega) (by omega) (by omega)
                      · unfold wX11_reference_156
                        refine ⟨by omega, ?_⟩
                        refine tX11_fail (by omega) (fun r158 S158 hS158 n158_0 => ?_)
                        have e64 : S158.1 54 56 = S.1 54 56 := hS158.1 56 (by decide)
                        have e65 : S158.1 54 56 = S.1 54 56 := hS158.1 56 (by decide)
                        exact hK (v51_4) S158 (Ch.wk hS158 (by decide) (by decide)) (by omega) (by omega) (by omega) (by omega)
          · refine ⟨fun h74 => ?_, fun h74 => ?_⟩
            · unfold wX11_reference_84
              refine ⟨by omega, ?_⟩
              refine tX11_docAt (by omega) (fun r88 n88_0 n88_1 n88_2 => ?_)
              refine ⟨by omega, ?_⟩
              refine ⟨by omega, ?_⟩
              refine tX11_figureB  (fun r92 n92_0 => ?_)
              intro x96 hx96
              subst hx96
              have h162 := p16_s (n := v51_5) (by omega)
              exact ⟨⟨rfl, rfl, rfl, rfl, by omega, by omega, by omega, by omega, by omega, by omega⟩, show (7 - ((v51_5 + 1))).toNat < (7 - v51_5).toNat by omega⟩
            · unfold wX11_reference_84
              refine ⟨by omega, ?_⟩
              refine tX11_docAt (by omega) (fun r88 n88_0 n88_1 n88_2 => ?_)
              refine ⟨by omega, ?_⟩
              refine ⟨by omega, ?_⟩
              refine tX11_figureB  (fun r92 n92_0 => ?_)
              intro x96 hx96
              subst hx96
              have h162 := p16_s (n := v51_5) (by omega)
              exact ⟨⟨rfl, rfl, rfl, rfl, by omega, by omega, by omega, by omega, by omega, by omega⟩, show (7 - ((v51_5 + 1))).toNat < (7 - v51_5).toNat by omega⟩
      · unfold wX11_reference_43
        unfold wX11_reference_51
        refine ⟨fun u1 u2 u3 u4 u5 u6 Sx => S = Sx ∧ a1 = u1 ∧ a2 = u2 ∧ ((1)) = u3 ∧ (iv 0 6 u5) ∧ (a1 + 2 ≤ u4) ∧ (u4 ≤ (S.1 54 41)) ∧ (iv 0 1 u3) ∧ (0 ≤ u6) ∧ (u6 < p16 u5), fun u1 u2 u3 u4 u5 u6 Sx => (7 - u5).toNat, ?_, fun v51_1 v51_2 v51_3 v51_4 v51_5 v51_6 S51h hI => ?_⟩
        · exact ⟨rfl, rfl, rfl, rfl, by omega, by omega, by omega, by omega, by omega, by have := p16_1 (n := 0); omega⟩
        obtain ⟨rfl, rfl, rfl, rfl, i51_0, i51_1, i51_2, i51_3, i51_4, i51_5⟩ := hI
        unfold wX11_reference_51'
        have h16 := p16_6 i51_0
        have h161 := p16_1 (n := v51_5)
        refine ⟨by omega, ?_⟩
        refine ⟨fun h55 => ?_, fun h55 => ?_⟩
        · unfold wX11_reference_107
          refine ⟨by omega, ?_⟩
          refine ⟨fun h109 => ?_, fun h109 => ?_⟩
          · unfold wX11_reference_156
            refine ⟨by omega, ?_⟩
            refine tX11_fail (by omega) (fun r158 S158 hS158 n158_0 => ?_)
            have e66 : S158.1 54 56 = S.1 54 56 := hS158.1 56 (by decide)
            have e67 : S158.1 54 56 = S.1 54 56 := hS158.1 56 (by decide)
            exact hK (v51_4) S158 (Ch.wk hS158 (by decide) (by decide)) (by omega) (by omega) (by omega) (by omega)
          · refine ⟨by omega, ?_⟩
            refine tX11_docAt (by omega) (fun r115 n115_0 n115_1 n115_2 => ?_)
            refine ⟨by omega, ?_⟩
            refine ⟨fun h120 => ?_, fun h120 => ?_⟩
            · unfold wX11_reference_156
              refine ⟨by omega, ?_⟩
              refine tX11_fail (by omega) (fun r158 S158 hS158 n158_0 => ?_)
              have e68 : S158.1 54 56 = S.1 54 56 := hS158.1 56 (by decide)
              have e69 : S158.1 54 56 = S.1 54 56 := hS158.1 56 (by decide)
              exact hK (v51_4) S158 (Ch.wk hS158 (by decide) (by decide)) (by omega) (by omega) (by omega) (by omega)
            · refine ⟨by omega, ?_⟩
              refine tX11_in  (fun r129 n129_0 => ?_)
              refine ⟨by omega, ?_⟩
              refine ⟨fun h132 => ?_, fun h132 => ?_⟩
              · unfold wX11_reference_164
                refine ⟨by omega, ?_⟩
                refine ⟨by omega, ?_⟩
                refine tX11_keep (by omega) (by omega) (fun r168 S168 hS168 n168_0 => ?_)
                have e70 : S168.1 54 59 = S.1 54 59 := hS168.1 59 (by decide)
                exact hK ((v51_4 + 1)) S168 (Ch.wk hS168 (by decide) (by decide)) (by omega) (by omega) (by omega) (by omega)
              · refine ⟨fun h139 => ?_, fun h139 => ?_⟩
                · unfold wX11_reference_164
                  refine ⟨by omega, ?_⟩
                  refine ⟨by omega, ?_⟩
                  refine tX11_keep (by omega) (by omega) (fun r168 S168 hS168 n168_0 => ?_)
                  have e71 : S168.1 54 59 = S.1 54 59 := hS168.1 59 (by decide)
                  exact hK ((v51_4 + 1)) S168 (Ch.wk hS168 (by decide) (by decide)) (by omega) (by omega) (by omega) (by omega)
                · refine ⟨fun h146 => ?_, fun h146 => ?_⟩
                  · unfold wX11_reference_164
                    refine ⟨by omega, ?_⟩
                    refine ⟨by omega, ?_⟩
                    refine tX11_keep (by omega) (by omega) (fun r168 S168 hS168 n168_0 => ?_)
                    have e72 : S168.1 54 59 = S.1 54 59 := hS168.1 59 (by decide)
                    exact hK ((v51_4 + 1)) S168 (Ch.wk hS168 (by decide) (by decide)) (by omega) (by omega) (by omega) (by omega)
                  · refine ⟨fun h153 => ?_, fun h153 => ?_⟩
                    · unfold wX11_reference_164
                      refine ⟨by omega, ?_⟩
                      refine ⟨by omega, ?_⟩
                      refine tX11_keep (by omega) (by omega) (fun r168 S168 hS168 n168_0 => ?_)
                      have e73 : S168.1 54 59 = S.1 54 59 := hS168.1 59 (by decide)
                      exact hK ((v51_4 + 1)) S168 (Ch.wk hS168 (by decide) (by decide)) (by omega) (by omega) (by omega) (by omega)
                    · unfold wX11_reference_156
                      refine ⟨by omega, ?_⟩
                      refine tX11_fail (by omega) (fun r158 S158 hS158 n158_0 => ?_)
                      have e74 : S158.1 54 56 = S.1 54 56 := hS158.1 56 (by decide)
                      have e75 : S158.1 54 56 = S.1 54 56 := hS158.1 56 (by decide)
                      exact hK (v51_4) S158 (Ch.wk hS158 (by decide) (by decide)) (by omega) (by omega) (by omega) (by omega)
        · refine ⟨by omega, ?_⟩
          refine tX11_docAt (by omega) (fun r61 n61_0 n61_1 n61_2 => ?_)
          refine ⟨by omega, ?_⟩
          refine ⟨by omega, ?_⟩
          refine tX11_figureB  (fun r65 n65_0 => ?_)
          refine ⟨by omega, ?_⟩
          refine ⟨fun h68 => ?_, fun h68 => ?_⟩
          · unfold wX11_reference_107
            refine ⟨by omega, ?_⟩
            refine ⟨fun h109 => ?_, fun h109 => ?_⟩
            · unfold wX11_reference_156
              refine ⟨by omega, ?_⟩
              refine tX11_fail (by omega) (fun r158 S158 hS158 n158_0 => ?_)
              have e76 : S158.1 54 56 = S.1 54 56 := hS158.1 56 (by decide)
              have e77 : S158.1 54 56 = S.1 54 56 := hS158.1 56 (by decide)
              exact hK (v51_4) S158 (Ch.wk hS158 (by decide) (by decide)) (by omega) (by omega) (by omega) (by omega)
            · refine ⟨by omega, ?_⟩
              refine tX11_docAt (by omega) (fun r115 n115_0 n115_1 n115_2 => ?_)
              refine ⟨by omega, ?_⟩
              refine ⟨fun h120 => ?_, fun h120 => ?_⟩
              · unfold wX11_reference_156
                refine ⟨by omega, ?_⟩
                refine tX11_fail (by omega) (fun r158 S158 hS158 n158_0 => ?_)
                have e78 : S158.1 54 56 = S.1 54 56 := hS158.1 56 (by decide)
                have e79 : S158.1 54 56 = S.1 54 56 := hS158.1 56 (by decide)
                exact hK (v51_4) S158 (Ch.wk hS158 (by decide) (by decide)) (by omega) (by omega) (by omega) (by omega)
              · refine ⟨by omega, ?_⟩
                refine tX11_in  (fun r129 n129_0 => ?_)
                refine ⟨by omega, ?_⟩
                refine ⟨fun h132 => ?_, fun h132 => ?_⟩
                · unfold wX11_reference_164
                  refine ⟨by omega, ?_⟩
                  refine ⟨by omega, ?_⟩
                  refine tX11_keep (by omega) (by omega) (fun r168 S168 hS168 n168_0 => ?_)
                  have e80 : S168.1 54 59 = S.1 54 59 := hS168.1 59 (by decide)
                  exact hK ((v51_4 + 1)) S168 (Ch.wk hS168 (by decide) (by decide)) (by omega) (by omega) (by omega) (by omega)
                · refine ⟨fun h139 => ?_, fun h139 => ?_⟩
                  · unfold wX11_reference_164
                    refine ⟨by omega, ?_⟩
                    refine ⟨by omega, ?_⟩
                    refine tX11_keep (by omega) (by omega) (fun r168 S168 hS168 n168_0 => ?_)
                    have e81 : S168.1 54 59 = S.1 54 59 := hS168.1 59 (by decide)
                    exact hK ((v51_4 + 1)) S168 (Ch.wk hS168 (by decide) (by decide)) (by omega) (by omega) (by omega) (by omega)
                  · refine ⟨fun h146 => ?_, fun h146 => ?_⟩
                    · unfold wX11_reference_164
                      refine ⟨by omega, ?_⟩
                      refine ⟨by omega, ?_⟩
                      refine tX11_keep (by omega) (by omega) (fun r168 S168 hS168 n168_0 => ?_)
                      have e82 : S168.1 54 59 = S.1 54 59 := hS168.1 59 (by decide)
                      exact hK ((v51_4 + 1)) S168 (Ch.wk hS168 (by decide) (by decide)) (by omega) (by omega) (by omega) (by omega)
                    · refine ⟨fun h153 => ?_, fun h153 => ?_⟩
                      · unfold wX11_reference_164
                        refine ⟨by omega, ?_⟩
                        refine ⟨by omega, ?_⟩
                        refine tX11_keep (by omega) (by omega) (fun r168 S168 hS168 n168_0 => ?_)
                        have e83 : S168.1 54 59 = S.1 54 59 := hS168.1 59 (by decide)
                        exact hK ((v51_4 + 1)) S168 (Ch.wk hS168 (by decide) (by decide)) (by omega) (by omega) (by omega) (by omega)
                      · unfold wX11_reference_156
                        refine ⟨by omega, ?_⟩
                        refine tX11_fail (by omega) (fun r158 S158 hS158 n158_0 => ?_)
                        have e84 : S158.1 54 56 = S.1 54 56 := hS158.1 56 (by decide)
                        have e85 : S158.1 54 56 = S.1 54 56 := hS158.1 56 (by decide)
                        exact hK (v51_4) S158 (Ch.wk hS158 (by decide) (by decide)) (by omega) (by omega) (by omega) (by omega)
          · refine ⟨fun h74 => ?_, fun h74 => ?_⟩
            · unfold wX11_reference_84
              refine ⟨by omega, ?_⟩
              refine tX11_docAt (by omega) (fun r88 n88_0 n88_1 n88_2 => ?_)
              refine ⟨by omega, ?_⟩
              refine ⟨by omega, ?_⟩
              refine tX11_figureB  (fun r92 n92_0 => ?_)
              intro x96 hx96
              subst hx96
              have h162 := p16_s (n := v51_5) (by omega)
              exact ⟨⟨rfl, rfl, rfl, rfl, by omega, by omega, by omega, by omega, by omega, by omega⟩, show (7 - ((v51_5 + 1))).toNat < (7 - v51_5).toNat by omega⟩
            · unfold wX11_reference_84
              refine ⟨by omega, ?_⟩
              refine tX11_docAt (by omega) (fun r88 n88_0 n88_1 n88_2 => ?_)
              refine ⟨by omega, ?_⟩
              refine ⟨by omega, ?_⟩
              refine tX11_figureB  (fun r92 n92_0 => ?_)
              intro x96 hx96
              subst hx96
              have h162 := p16_s (n := v51_5) (by omega)
              exact ⟨⟨rfl, rfl, rfl, rfl, by omega, by omega, by omega, by omega, by omega, by omega⟩, show (7 - ((v51_5 + 1))).toNat < (7 - v51_5).toNat by omega⟩

