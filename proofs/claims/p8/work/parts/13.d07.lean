set_option maxRecDepth 100000 in
set_option maxHeartbeats 4000000 in
theorem tX11_parse {S : St} {K : Int → St → Prop} (p1 : (S.1 54 41) ≤ 3000) (hK : ∀ (r : Int) (S' : St), Ch [43, 51, 56, 59, 60] [85, 86, 87, 88, 89, 90, 91, 92, 93, 94, 95, 96, 97] S S' → (PA S') → (PR S') → (PO S') → (-1 ≤ (S'.1 54 59) ∨ 1 ≤ (S'.1 54 43)) → K r S') : wX11_parse  S K := by
  unfold wX11_parse
  intro S2 hS2e
  have hS2 : Ch [43] [] S S2 := Ch_I hS2e
  have hS2v : S2.1 54 43 = 0 := pI_at hS2e
  intro S7 hS7e
  have hS7 : Ch [51] [] S2 S7 := Ch_I hS7e
  have hS7v : S7.1 54 51 = 0 := pI_at hS7e
  intro S12 hS12e
  have hS12 : Ch [56] [] S7 S12 := Ch_I hS12e
  have hS12v : S12.1 54 56 = 0 := pI_at hS12e
  intro S18 hS18e
  have hS18 : Ch [59] [] S12 S18 := Ch_I hS18e
  have hS18v : S18.1 54 59 = (-2) := pI_at hS18e
  have e1 : S18.1 54 41 = S12.1 54 41 := hS18.1 41 (by decide)
  have e2 : S12.1 54 41 = S7.1 54 41 := hS12.1 41 (by decide)
  have e3 : S7.1 54 41 = S2.1 54 41 := hS7.1 41 (by decide)
  have e4 : S2.1 54 41 = S.1 54 41 := hS2.1 41 (by decide)
  have e5 : S18.1 54 41 = S12.1 54 41 := hS18.1 41 (by decide)
  have e6 : S12.1 54 41 = S7.1 54 41 := hS12.1 41 (by decide)
  have e7 : S7.1 54 41 = S2.1 54 41 := hS7.1 41 (by decide)
  have e8 : S2.1 54 41 = S.1 54 41 := hS2.1 41 (by decide)
  have e9 : S18.1 54 41 = S12.1 54 41 := hS18.1 41 (by decide)
  have e10 : S12.1 54 41 = S7.1 54 41 := hS12.1 41 (by decide)
  have e11 : S7.1 54 41 = S2.1 54 41 := hS7.1 41 (by decide)
  have e12 : S2.1 54 41 = S.1 54 41 := hS2.1 41 (by decide)
  refine tX11_blanksFrom (by omega) (by omega) (by omega) (fun r23 n23_0 n23_1 => ?_)
  refine ⟨by omega, ?_⟩
  have e13 : S18.1 54 41 = S12.1 54 41 := hS18.1 41 (by decide)
  have e14 : S12.1 54 41 = S7.1 54 41 := hS12.1 41 (by decide)
  have e15 : S7.1 54 41 = S2.1 54 41 := hS7.1 41 (by decide)
  have e16 : S2.1 54 41 = S.1 54 41 := hS2.1 41 (by decide)
  have e17 : S18.2 84 (r23) = S12.2 84 (r23) := congrFun (hS18.2 84 (by decide)) _
  have e18 : S12.2 84 (r23) = S7.2 84 (r23) := congrFun (hS12.2 84 (by decide)) _
  have e19 : S7.2 84 (r23) = S2.2 84 (r23) := congrFun (hS7.2 84 (by decide)) _
  have e20 : S2.2 84 (r23) = S.2 84 (r23) := congrFun (hS2.2 84 (by decide)) _
  have e21 : S18.1 54 41 = S12.1 54 41 := hS18.1 41 (by decide)
  have e22 : S12.1 54 41 = S7.1 54 41 := hS12.1 41 (by decide)
  have e23 : S7.1 54 41 = S2.1 54 41 := hS7.1 41 (by decide)
  have e24 : S2.1 54 41 = S.1 54 41 := hS2.1 41 (by decide)
  refine tX11_docAt (by omega) (fun r29 n29_0 n29_1 n29_2 => ?_)
  refine ⟨by omega, ?_⟩
  refine ⟨fun h34 => ?_, fun h34 => ?_⟩
  · unfold wX11_parse_51
    have e25 : S18.1 54 43 = S12.1 54 43 := hS18.1 43 (by decide)
    have e26 : S12.1 54 43 = S7.1 54 43 := hS12.1 43 (by decide)
    have e27 : S7.1 54 43 = S2.1 54 43 := hS7.1 43 (by decide)
    refine ⟨fun u1 u2 u3 u4 Sx => Ch [43, 51, 56, 59, 60] [85, 86, 87, 88, 89, 90, 91, 92, 93, 94, 95, 96, 97] S18 Sx ∧ (iv 0 3010 u1) ∧ (iv (-2) 199 u2) ∧ (u3 ≤ u1) ∧ (-u3 ≤ u1) ∧ (iv 0 1 u4) ∧ (PA Sx) ∧ (PR Sx) ∧ (PO Sx) ∧ (PE Sx u2) ∧ (PB Sx u1) ∧ (P1 Sx u1 u2) ∧ ((Sx.1 54 43) ≤ 200), fun u1 u2 u3 u4 Sx => (2 * (3020 - u1) + min 1 (max 0 (-1 - (Sx.1 54 59)))).toNat, ?_, fun v51_1 v51_2 v51_3 v51_4 S51h hI => ?_⟩
    · exact ⟨Ch.re, by omega, by omega, by omega, by omega, by omega, by unfold PA; intro x; omega, by unfold PR; intro x; omega, by unfold PO; intro x; omega, ⟨by omega, Or.inl rfl⟩, (by
          unfold PB
          have e28 : S18.1 54 41 = S12.1 54 41 := hS18.1 41 (by decide)
          have e29 : S12.1 54 41 = S7.1 54 41 := hS12.1 41 (by decide)
          have e30 : S7.1 54 41 = S2.1 54 41 := hS7.1 41 (by decide)
          have e31 : S2.1 54 41 = S.1 54 41 := hS2.1 41 (by decide)
          have e32 : S18.1 54 56 = S12.1 54 56 := hS18.1 56 (by decide)
          have e33 : S18.1 54 51 = S12.1 54 51 := hS18.1 51 (by decide)
          have e34 : S12.1 54 51 = S7.1 54 51 := hS12.1 51 (by decide)
          exact Or.inr ⟨by omega, by omega, by omega⟩), (by
          unfold P1
          refine Or.inr (Or.inr ⟨rfl, by omega, ?_⟩)
          have e84 : S18.2 84 = S.2 84 := ((Ch.tr (Ch.tr (Ch.tr hS2 hS7) hS12) hS18)).2 84 (by decide)
          omega), by omega⟩
    obtain ⟨hS51h, i51_0, i51_1, i51_2, i51_3, i51_4, i51_5, i51_6, i51_7, i51_8, i51_9, i51_10, i51_11⟩ := hI
    unfold wX11_parse_51'
    refine ⟨by omega, ?_⟩
    refine ⟨fun h53 => ?_, fun h53 => ?_⟩
    · unfold wX11_parse_300
      intro q35
      refine ⟨fun h306 => ?_, fun h306 => ?_⟩
      · refine ⟨by omega, ?_⟩
        have e36 : S51h.1 54 41 = S18.1 54 41 := hS51h.1 41 (by decide)
        have e37 : S18.1 54 41 = S12.1 54 41 := hS18.1 41 (by decide)
        have e38 : S12.1 54 41 = S7.1 54 41 := hS12.1 41 (by decide)
        have e39 : S7.1 54 41 = S2.1 54 41 := hS7.1 41 (by decide)
        have e40 : S2.1 54 41 = S.1 54 41 := hS2.1 41 (by decide)
        have e41 : S51h.1 54 41 = S18.1 54 41 := hS51h.1 41 (by decide)
        have e42 : S18.1 54 41 = S12.1 54 41 := hS18.1 41 (by decide)
        have e43 : S12.1 54 41 = S7.1 54 41 := hS12.1 41 (by decide)
        have e44 : S7.1 54 41 = S2.1 54 41 := hS7.1 41 (by decide)
        have e45 : S2.1 54 41 = S.1 54 41 := hS2.1 41 (by decide)
        have e46 : S51h.1 54 41 = S18.1 54 41 := hS51h.1 41 (by decide)
        have e47 : S18.1 54 41 = S12.1 54 41 := hS18.1 41 (by decide)
        have e48 : S12.1 54 41 = S7.1 54 41 := hS12.1 41 (by decide)
        have e49 : S7.1 54 41 = S2.1 54 41 := hS7.1 41 (by decide)
        have e50 : S2.1 54 41 = S.1 54 41 := hS2.1 41 (by decide)
        refine tX11_blanksFrom (by omega) (by omega) (by omega) (fun r312 n312_0 n312_1 => ?_)
        intro q51
        have e52 : S51h.1 54 41 = S18.1 54 41 := hS51h.1 41 (by decide)
        have e53 : S18.1 54 41 = S12.1 54 41 := hS18.1 41 (by decide)
        have e54 : S12.1 54 41 = S7.1 54 41 := hS12.1 41 (by decide)
        have e55 : S7.1 54 41 = S2.1 54 41 := hS7.1 41 (by decide)
        have e56 : S2.1 54 41 = S.1 54 41 := hS2.1 41 (by decide)
        refine ⟨by omega, ?_⟩
        refine ⟨fun h321 => ?_, fun h321 => ?_⟩
        · exact hK (0) S51h (Ch.wk (Ch.tr (Ch.tr (Ch.tr (Ch.tr hS2 hS7) hS12) hS18) hS51h) (by decide) (by decide)) i51_5 i51_6 i51_7 (by omega)
        · refine tX11_fail (by omega) (fun r326 S326 hS326 n326_0 => ?_)
          have e57 : S326.1 54 43 = S51h.1 54 43 := hS326.1 43 (by decide)
          exact hK (0) S326 (Ch.wk (Ch.tr (Ch.tr (Ch.tr (Ch.tr (Ch.tr hS2 hS7) hS12) hS18) hS51h) hS326) (by decide) (by decide)) (PA.mv2 i51_5 ((hS326).1 51 (by decide)) ((hS326).1 56 (by decide)) ((hS326).2 92 (by decide)) ((hS326).2 93 (by decide)) ((hS326).2 94 (by decide)) ((hS326).2 95 (by decide))) (PR.mv i51_6 ((hS326).1 43 (by decide)) ((hS326).1 51 (by decide)) ((hS326).2 86 (by decide)) ((hS326).2 87 (by decide)) ((hS326).2 88 (by decide)) ((hS326).2 90 (by decide)) ((hS326).2 91 (by decide))) (PO.mv i51_7 ((hS326).1 43 (by decide)) ((hS326).2 88 (by decide))) (by omega)
      · exact hK (0) S51h (Ch.wk (Ch.tr (Ch.tr (Ch.tr (Ch.tr hS2 hS7) hS12) hS18) hS51h) (by decide) (by decide)) i51_5 i51_6 i51_7 (by omega)
    · intro q58
      refine ⟨fun h62 => ?_, fun h62 => ?_⟩
      · unfold wX11_parse_300
        intro q59
        refine ⟨fun h306 => ?_, fun h306 => ?_⟩
        · refine ⟨by omega, ?_⟩
          have e60 : S51h.1 54 41 = S18.1 54 41 := hS51h.1 41 (by decide)
          have e61 : S18.1 54 41 = S12.1 54 41 := hS18.1 41 (by decide)
          have e62 : S12.1 54 41 = S7.1 54 41 := hS12.1 41 (by decide)
          have e63 : S7.1 54 41 = S2.1 54 41 := hS7.1 41 (by decide)
          have e64 : S2.1 54 41 = S.1 54 41 := hS2.1 41 (by decide)
          have e65 : S51h.1 54 41 = S18.1 54 41 := hS51h.1 41 (by decide)
          have e66 : S18.1 54 41 = S12.1 54 41 := hS18.1 41 (by decide)
          have e67 : S12.1 54 41 = S7.1 54 41 := hS12.1 41 (by decide)
          have e68 : S7.1 54 41 = S2.1 54 41 := hS7.1 41 (by decide)
          have e69 : S2.1 54 41 = S.1 54 41 := hS2.1 41 (by decide)
          have e70 : S51h.1 54 41 = S18.1 54 41 := hS51h.1 41 (by decide)
          have e71 : S18.1 54 41 = S12.1 54 41 := hS18.1 41 (by decide)
          have e72 : S12.1 54 41 = S7.1 54 41 := hS12.1 41 (by decide)
          have e73 : S7.1 54 41 = S2.1 54 41 := hS7.1 41 (by decide)
          have e74 : S2.1 54 41 = S.1 54 41 := hS2.1 41 (by decide)
          refine tX11_blanksFrom (by omega) (by omega) (by omega) (fun r312 n312_0 n312_1 => ?_)
          intro q75
          have e76 : S51h.1 54 41 = S18.1 54 41 := hS51h.1 41 (by decide)
          have e77 : S18.1 54 41 = S12.1 54 41 := hS18.1 41 (by decide)
          have e78 : S12.1 54 41 = S7.1 54 41 := hS12.1 41 (by decide)
          have e79 : S7.1 54 41 = S2.1 54 41 := hS7.1 41 (by decide)
          have e80 : S2.1 54 41 = S.1 54 41 := hS2.1 41 (by decide)
          refine ⟨by omega, ?_⟩
          refine ⟨fun h321 => ?_, fun h321 => ?_⟩
          · exact hK (0) S51h (Ch.wk (Ch.tr (Ch.tr (Ch.tr (Ch.tr hS2 hS7) hS12) hS18) hS51h) (by decide) (by decide)) i51_5 i51_6 i51_7 (by omega)
          · refine tX11_fail (by omega) (fun r326 S326 hS326 n326_0 => ?_)
            have e81 : S326.1 54 43 = S51h.1 54 43 := hS326.1 43 (by decide)
            exact hK (0) S326 (Ch.wk (Ch.tr (Ch.tr (Ch.tr (Ch.tr (Ch.tr hS2 hS7) hS12) hS18) hS51h) hS326) (by decide) (by decide)) (PA.mv2 i51_5 ((hS326).1 51 (by decide)) ((hS326).1 56 (by decide)) ((hS326).2 92 (by decide)) ((hS326).2 93 (by decide)) ((hS326).2 94 (by decide)) ((hS326).2 95 (by decide))) (PR.mv i51_6 ((hS326).1 43 (by decide)) ((hS326).1 51 (by decide)) ((hS326).2 86 (by decide)) ((hS326).2 87 (by decide)) ((hS326).2 88 (by decide)) ((hS326).2 90 (by decide)) ((hS326).2 91 (by decide))) (PO.mv i51_7 ((hS326).1 43 (by decide)) ((hS326).2 88 (by decide))) (by omega)
        · exact hK (0) S51h (Ch.wk (Ch.tr (Ch.tr (Ch.tr (Ch.tr hS2 hS7) hS12) hS18) hS51h) (by decide) (by decide)) i51_5 i51_6 i51_7 (by omega)
      · have hib : PB S51h (v51_1) := i51_9
        unfold PB at hib
        have hib := hib.resolve_left (by omega)
        have hE : PE S51h (v51_2) := i51_8
        have hE1 := hE.1
        have h1 : P1 S51h (v51_1) (v51_2) := i51_10
        unfold P1 at h1
        refine ⟨by omega, ?_⟩
        have e82 : S51h.1 54 41 = S18.1 54 41 := hS51h.1 41 (by decide)
        have e83 : S18.1 54 41 = S12.1 54 41 := hS18.1 41 (by decide)
        have e84 : S12.1 54 41 = S7.1 54 41 := hS12.1 41 (by decide)
        have e85 : S7.1 54 41 = S2.1 54 41 := hS7.1 41 (by decide)
        have e86 : S2.1 54 41 = S.1 54 41 := hS2.1 41 (by decide)
        have e87 : S51h.2 84 (v51_1) = S18.2 84 (v51_1) := congrFun (hS51h.2 84 (by decide)) _
        have e88 : S18.2 84 (v51_1) = S12.2 84 (v51_1) := congrFun (hS18.2 84 (by decide)) _
        have e89 : S12.2 84 (v51_1) = S7.2 84 (v51_1) := congrFun (hS12.2 84 (by decide)) _
        have e90 : S7.2 84 (v51_1) = S2.2 84 (v51_1) := congrFun (hS7.2 84 (by decide)) _
        have e91 : S2.2 84 (v51_1) = S.2 84 (v51_1) := congrFun (hS2.2 84 (by decide)) _
        have e92 : S51h.1 54 41 = S18.1 54 41 := hS51h.1 41 (by decide)
        have e93 : S18.1 54 41 = S12.1 54 41 := hS18.1 41 (by decide)
        have e94 : S12.1 54 41 = S7.1 54 41 := hS12.1 41 (by decide)
        have e95 : S7.1 54 41 = S2.1 54 41 := hS7.1 41 (by decide)
        have e96 : S2.1 54 41 = S.1 54 41 := hS2.1 41 (by decide)
        refine tX11_docAt (by omega) (fun r67 n67_0 n67_1 n67_2 => ?_)
        refine ⟨by omega, ?_⟩
        have e97 : S51h.1 54 41 = S18.1 54 41 := hS51h.1 41 (by decide)
        have e98 : S18.1 54 41 = S12.1 54 41 := hS18.1 41 (by decide)
        have e99 : S12.1 54 41 = S7.1 54 41 := hS12.1 41 (by decide)
        have e100 : S7.1 54 41 = S2.1 54 41 := hS7.1 41 (by decide)
        have e101 : S2.1 54 41 = S.1 54 41 := hS2.1 41 (by decide)
        have e102 : S51h.2 84 ((v51_1 + 1)) = S18.2 84 ((v51_1 + 1)) := congrFun (hS51h.2 84 (by decide)) _
        have e103 : S18.2 84 ((v51_1 + 1)) = S12.2 84 ((v51_1 + 1)) := congrFun (hS18.2 84 (by decide)) _
        have e104 : S12.2 84 ((v51_1 + 1)) = S7.2 84 ((v51_1 + 1)) := congrFun (hS12.2 84 (by decide)) _
        have e105 : S7.2 84 ((v51_1 + 1)) = S2.2 84 ((v51_1 + 1)) := congrFun (hS7.2 84 (by decide)) _
        have e106 : S2.2 84 ((v51_1 + 1)) = S.2 84 ((v51_1 + 1)) := congrFun (hS2.2 84 (by decide)) _
        have e107 : S51h.1 54 41 = S18.1 54 41 := hS51h.1 41 (by decide)
        have e108 : S18.1 54 41 = S12.1 54 41 := hS18.1 41 (by decide)
        have e109 : S12.1 54 41 = S7.1 54 41 := hS12.1 41 (by decide)
        have e110 : S7.1 54 41 = S2.1 54 41 := hS7.1 41 (by decide)
        have e111 : S2.1 54 41 = S.1 54 41 := hS2.1 41 (by decide)
        refine tX11_docAt (by omega) (fun r76 n76_0 n76_1 n76_2 => ?_)
        refine ⟨by omega, ?_⟩
        refine ⟨fun h84 => ?_, fun h84 => ?_⟩
        · unfold wX11_parse_97
          unfold wX11_parse_102
          refine ⟨by omega, ?_⟩
          refine ⟨fun h106 => ?_, fun h106 => ?_⟩
          · refine ⟨fun h121 => ?_, fun h121 => ?_⟩
            · refine ⟨fun h138 => ?_, fun h138 => ?_⟩
              · refine ⟨by omega, ?_⟩
                refine ⟨fun h158 => ?_, fun h158 => ?_⟩
                · unfold wX11_parse_200
                  refine ⟨by omega, ?_⟩
                  refine ⟨fun h204 => ?_, fun h204 => ?_⟩
                  · unfold wX11_parse_225
                    refine ⟨by omega, ?_⟩
                    refine ⟨fun h227 => ?_, fun h227 => ?_⟩
                    · intro S240 hS240e
                      have hS240 : Ch [60] [] S51h S240 := Ch_I hS240e
                      have hS240v : S240.1 54 60 = 0 := pI_at hS240e
                      refine ⟨by omega, ?_⟩
                      refine ⟨by omega, ?_⟩
                      refine ⟨by omega, ?_⟩
                      have e112 : S240.1 54 41 = S51h.1 54 41 := hS240.1 41 (by decide)
                      have e113 : S51h.1 54 41 = S18.1 54 41 := hS51h.1 41 (by decide)
                      have e114 : S18.1 54 41 = S12.1 54 41 := hS18.1 41 (by decide)
                      have e115 : S12.1 54 41 = S7.1 54 41 := hS12.1 41 (by decide)
                      have e116 : S7.1 54 41 = S2.1 54 41 := hS7.1 41 (by decide)
                      have e117 : S2.1 54 41 = S.1 54 41 := hS2.1 41 (by decide)
                      have e118 : S240.1 54 41 = S51h.1 54 41 := hS240.1 41 (by decide)
                      have e119 : S51h.1 54 41 = S18.1 54 41 := hS51h.1 41 (by decide)
                      have e120 : S18.1 54 41 = S12.1 54 41 := hS18.1 41 (by decide)
                      have e121 : S12.1 54 41 = S7.1 54 41 := hS12.1 41 (by decide)
                      have e122 : S7.1 54 41 = S2.1 54 41 := hS7.1 41 (by decide)
                      have e123 : S2.1 54 41 = S.1 54 41 := hS2.1 41 (by decide)
                      have e124 : S240.1 54 56 = S51h.1 54 56 := hS240.1 56 (by decide)
                      have e125 : S240.1 54 51 = S51h.1 54 51 := hS240.1 51 (by decide)
                      have e126 : S240.1 54 43 = S51h.1 54 43 := hS240.1 43 (by decide)
                      have e127 : S240.1 54 43 = S51h.1 54 43 := hS240.1 43 (by decide)
                      refine tX11_beginTag (by omega) (by omega) (by omega) (by omega) (by omega) (by omega) (PA.mv2 i51_5 ((hS240).1 51 (by decide)) ((hS240).1 56 (by decide)) ((hS240).2 92 (by decide)) ((hS240).2 93 (by decide)) ((hS240).2 94 (by decide)) ((hS240).2 95 (by decide))) (PR.mv i51_6 ((hS240).1 43 (by decide)) ((hS240).1 51 (by decide)) ((hS240).2 86 (by decide)) ((hS240).2 87 (by decide)) ((hS240).2 88 (by decide)) ((hS240).2 90 (by decide)) ((hS240).2 91 (by decide))) (PO.mv i51_7 ((hS240).1 43 (by decide)) ((hS240).2 88 (by decide))) (PE.mv i51_8 ((hS240).1 43 (by decide)) ((hS240).2 88 (by decide))) (by omega) (fun r247 S247 hS247 n247_0 n247_1 n247_2 n247_3 n247_4 n247_5 n247_6 n247_7 => ?_)
                      have hbr : (S247.1 54 43 = S240.1 54 43 + 1 ∧ S247.2 88 (S240.1 54 43) = v51_2) ∨ S247.1 54 43 = S240.1 54 43 := by
                        rcases n247_5 with h | h
                        · exact Or.inl h
                        · exact Or.inr h.1
                      intro q128
                      refine ⟨fun h255 => ?_, fun h255 => ?_⟩
                      · unfold wX11_parse_265
                        intro q129
                        refine ⟨fun h270 => ?_, fun h270 => ?_⟩
                        · unfold wX11_parse_283
                          refine ⟨by omega, ?_⟩
                          refine ⟨fun h287 => ?_, fun h287 => ?_⟩
                          · unfold wX11_parse_295
                            unfold wX11_parse_297
                            exact ⟨⟨(Ch.wk (Ch.tr (Ch.tr hS51h hS240) hS247) (by decide) (by decide)), by omega, by omega, by omega, by omega, by omega, n247_2, n247_3, n247_4, (PE_new (PE.mv i51_8 (hS240.1 43 (by decide)) (hS240.2 88 (by decide))) hbr n247_6), n247_7, (by
                                  unfold P1
                                  first | exact Or.inr (Or.inl (by omega)) | exact Or.inl (by omega)), by omega⟩, show (2 * (3020 - r247) + min 1 (max 0 (-1 - (S247.1 54 59)))).toNat < (2 * (3020 - v51_1) + min 1 (max 0 (-1 - (S51h.1 54 59)))).toNat by omega⟩
                          · unfold wX11_parse_295
                            unfold wX11_parse_297
                            exact ⟨⟨(Ch.wk (Ch.tr (Ch.tr hS51h hS240) hS247) (by decide) (by decide)), by omega, by omega, by omega, by omega, by omega, n247_2, n247_3, n247_4, (PE_new (PE.mv i51_8 (hS240.1 43 (by decide)) (hS240.2 88 (by decide))) hbr n247_6), n247_7, (by
                                  unfold P1
                                  first | exact Or.inr (Or.inl (by omega)) | exact Or.inl (by omega)), by omega⟩, show (2 * (3020 - r247) + min 1 (max 0 (-1 - (S247.1 54 59)))).toNat < (2 * (3020 - v51_1) + min 1 (max 0 (-1 - (S51h.1 54 59)))).toNat by omega⟩
                        · intro q130
                          unfold wX11_parse_283
                          refine ⟨by omega, ?_⟩
                          refine ⟨fun h287 => ?_, fun h287 => ?_⟩
                          · unfold wX11_parse_295
                            unfold wX11_parse_297
                            exact ⟨⟨(Ch.wk (Ch.tr (Ch.tr hS51h hS240) hS247) (by decide) (by decide)), by omega, by omega, by omega, by omega, by omega, n247_2, n247_3, n247_4, (PE_last (by omega)), n247_7, (by
                                  unfold P1
                                  first | exact Or.inr (Or.inl (by omega)) | exact Or.inl (by omega)), by omega⟩, show (2 * (3020 - r247) + min 1 (max 0 (-1 - (S247.1 54 59)))).toNat < (2 * (3020 - v51_1) + min 1 (max 0 (-1 - (S51h.1 54 59)))).toNat by omega⟩
                          · unfold wX11_parse_295
                            unfold wX11_parse_297
                            exact ⟨⟨(Ch.wk (Ch.tr (Ch.tr hS51h hS240) hS247) (by decide) (by decide)), by omega, by omega, by omega, by omega, by omega, n247_2, n247_3, n247_4, (PE_last (by omega)), n247_7, (by
                                  unfold P1
                                  first | exact Or.inr (Or.inl (by omega)) | exact Or.inl (by omega)), by omega⟩, show (2 * (3020 - r247) + min 1 (max 0 (-1 - (S247.1 54 59)))).toNat < (2 * (3020 - v51_1) + min 1 (max 0 (-1 - (S51h.1 54 59)))).toNat by omega⟩
                      · unfold wX11_parse_265
                        intro q131
                        refine ⟨fun h270 => ?_, fun h270 => ?_⟩
                        · unfold wX11_parse_283
                          refine ⟨by omega, ?_⟩
                          refine ⟨fun h287 => ?_, fun h287 => ?_⟩
                          · unfold wX11_parse_295
                            unfold wX11_parse_297
                            exact ⟨⟨(Ch.wk (Ch.tr (Ch.tr hS51h hS240) hS247) (by decide) (by decide)), by omega, by omega, by omega, by omega, by omega, n247_2, n247_3, n247_4, (PE_new (PE.mv i51_8 (hS240.1 43 (by decide)) (hS240.2 88 (by decide))) hbr n247_6), n247_7, (by
                                  unfold P1
                                  first | exact Or.inr (Or.inl (by omega)) | exact Or.inl (by omega)), by omega⟩, show (2 * (3020 - r247) + min 1 (max 0 (-1 - (S247.1 54 59)))).toNat < (2 * (3020 - v51_1) + min 1 (max 0 (-1 - (S51h.1 54 59)))).toNat by omega⟩
                          · unfold wX11_parse_295
                            unfold wX11_parse_297
                            exact ⟨⟨(Ch.wk (Ch.tr (Ch.tr hS51h hS240) hS247) (by decide) (by decide)), by omega, by omega, by omega, by omega, by omega, n247_2, n247_3, n247_4, (PE_new (PE.mv i51_8 (hS240.1 43 (by decide)) (hS240.2 88 (by decide))) hbr n247_6), n247_7, (by
                                  unfold P1
                                  first | exact Or.inr (Or.inl (by omega)) | exact Or.inl (by omega)), by omega⟩, show (2 * (3020 - r247) + min 1 (max 0 (-1 - (S247.1 54 59)))).toNat < (2 * (3020 - v51_1) + min 1 (max 0 (-1 - (S51h.1 54 59)))).toNat by omega⟩
                        · intro q132
                          unfold wX11_parse_283
                          refine ⟨by omega, ?_⟩
                          refine ⟨fun h287 => ?_, fun h287 => ?_⟩
                          · unfold wX11_parse_295
                            unfold wX11_parse_297
                            exact ⟨⟨(Ch.wk (Ch.tr (Ch.tr hS51h hS240) hS247) (by decide) (by decide)), by omega, by omega, by omega, by omega, by omega, n247_2, n247_3, n247_4, (PE_last (by omega)), n247_7, (by
                                  unfold P1
                                  first | exact Or.inr (Or.inl (by omega)) | exact Or.inl (by omega)), by omega⟩, show (2 * (3020 - r247) + min 1 (max 0 (-1 - (S247.1 54 59)))).toNat < (2 * (3020 - v51_1) + min 1 (max 0 (-1 - (S51h.1 54 59)))).toNat by omega⟩
                          · unfold wX11_parse_295
                            unfold wX11_parse_297
                            exact ⟨⟨(Ch.wk (Ch.tr (Ch.tr hS51h hS240) hS247) (by decide) (by decide)), by omega, by omega, by omega, by omega, by omega, n247_2, n247_3, n247_4, (PE_last (by omega)), n247_7, (by
                                  unfold P1
                                  first | exact Or.inr (Or.inl (by omega)) | exact Or.inl (by omega)), by omega⟩, show (2 * (3020 - r247) + min 1 (max 0 (-1 - (S247.1 54 59)))).toNat < (2 * (3020 - v51_1) + min 1 (max 0 (-1 - (S51h.1 54 59)))).toNat by omega⟩
                    · refine ⟨by omega, ?_⟩
                      refine tX11_fail (by omega) (fun r232 S232 hS232 n232_0 => ?_)
                      unfold wX11_parse_297
                      have e133 : S232.1 54 43 = S51h.1 54 43 := hS232.1 43 (by decide)
                      exact ⟨⟨(Ch.wk (Ch.tr hS51h hS232) (by decide) (by decide)), by omega, by omega, by omega, by omega, by omega, (PA.mv3 i51_5 ((hS232).1 51 (by decide)) ((hS232).2 92 (by decide)) ((hS232).2 93 (by decide)) ((hS232).2 94 (by decide)) ((hS232).2 95 (by decide))), (PR.mv i51_6 ((hS232).1 43 (by decide)) ((hS232).1 51 (by decide)) ((hS232).2 86 (by decide)) ((hS232).2 87 (by decide)) ((hS232).2 88 (by decide)) ((hS232).2 90 (by decide)) ((hS232).2 91 (by decide))), (PO.mv i51_7 ((hS232).1 43 (by decide)) ((hS232).2 88 (by decide))), (PE.mv i51_8 ((hS232).1 43 (by decide)) ((hS232).2 88 (by decide))), (by
                            unfold PB
                            have e134 : S232.1 54 41 = S51h.1 54 41 := hS232.1 41 (by decide)
                            have e135 : S51h.1 54 41 = S18.1 54 41 := hS51h.1 41 (by decide)
                            have e136 : S18.1 54 41 = S12.1 54 41 := hS18.1 41 (by decide)
                            have e137 : S12.1 54 41 = S7.1 54 41 := hS12.1 41 (by decide)
                            have e138 : S7.1 54 41 = S2.1 54 41 := hS7.1 41 (by decide)
                            have e139 : S2.1 54 41 = S.1 54 41 := hS2.1 41 (by decide)
                            have e140 : S232.1 54 56 = S51h.1 54 56 := hS232.1 56 (by decide)
                            have e141 : S232.1 54 51 = S51h.1 54 51 := hS232.1 51 (by decide)
                            first
                            | exact Or.inl (by omega)
                            | exact (Classical.em (-1 ≤ S232.1 54 59)).elim (fun hb => Or.inl hb) (fun hb => Or.inr ⟨by omega, by omega, by omega⟩)), (by
                            unfold P1
                            have e142 : S232.1 54 43 = S51h.1 54 43 := hS232.1 43 (by decide)
                            first | exact Or.inr (Or.inl (by omega)) | exact Or.inl (by omega)), by omega⟩, show (2 * (3020 - v51_1) + min 1 (max 0 (-1 - (S232.1 54 59)))).toNat < (2 * (3020 - v51_1) + min 1 (max 0 (-1 - (S51h.1 54 59)))).toNat by omega⟩
                  · refine ⟨by omega, ?_⟩
                    refine ⟨fun h210 => ?_, fun h210 => ?_⟩
                    · unfold wX11_parse_225
                      refine ⟨by omega, ?_⟩
                      refine ⟨fun h227 => ?_, fun h227 => ?_⟩
                      · intro S240 hS240e
                        have hS240 : Ch [60] [] S51h S240 := Ch_I hS240e
                        have hS240v : S240.1 54 60 = 0 := pI_at hS240e
                        refine ⟨by omega, ?_⟩
                        refine ⟨by omega, ?_⟩
                        refine ⟨by omega, ?_⟩
                        have e143 : S240.1 54 41 = S51h.1 54 41 := hS240.1 41 (by decide)
                        have e144 : S51h.1 54 41 = S18.1 54 41 := hS51h.1 41 (by decide)
                        have e145 : S18.1 54 41 = S12.1 54 41 := hS18.1 41 (by decide)
                        have e146 : S12.1 54 41 = S7.1 54 41 := hS12.1 41 (by decide)
                        have e147 : S7.1 54 41 = S2.1 54 41 := hS7.1 41 (by decide)
                        have e148 : S2.1 54 41 = S.1 54 41 := hS2.1 41 (by decide)
                        have e149 : S240.1 54 41 = S51h.1 54 41 := hS240.1 41 (by decide)
                        have e150 : S51h.1 54 41 = S18.1 54 41 := hS51h.1 41 (by decide)
                        have e151 : S18.1 54 41 = S12.1 54 41 := hS18.1 41 (by decide)
                        have e152 : S12.1 54 41 = S7.1 54 41 := hS12.1 41 (by decide)
                        have e153 : S7.1 54 41 = S2.1 54 41 := hS7.1 41 (by decide)
                        have e154 : S2.1 54 41 = S.1 54 41 := hS2.1 41 (by decide)
                        have e155 : S240.1 54 56 = S51h.1 54 56 := hS240.1 56 (by decide)
                        have e156 : S240.1 54 51 = S51h.1 54 51 := hS240.1 51 (by decide)
                        have e157 : S240.1 54 43 = S51h.1 54 43 := hS240.1 43 (by decide)
                        have e158 : S240.1 54 43 = S51h.1 54 43 := hS240.1 43 (by decide)
                        refine tX11_beginTag (by omega) (by omega) (by omega) (by omega) (by omega) (by omega) (PA.mv2 i51_5 ((hS240).1 51 (by decide)) ((hS240).1 56 (by decide)) ((hS240).2 92 (by decide)) ((hS240).2 93 (by decide)) ((hS240).2 94 (by decide)) ((hS240).2 95 (by decide))) (PR.mv i51_6 ((hS240).1 43 (by decide)) ((hS240).1 51 (by decide)) ((hS240).2 86 (by decide)) ((hS240).2 87 (by decide)) ((hS240).2 88 (by decide)) ((hS240).2 90 (by decide)) ((hS240).2 91 (by decide))) (PO.mv i51_7 ((hS240).1 43 (by decide)) ((hS240).2 88 (by decide))) (PE.mv i51_8 ((hS240).1 43 (by decide)) ((hS240).2 88 (by decide))) (by omega) (fun r247 S247 hS247 n247_0 n247_1 n247_2 n247_3 n247_4 n247_5 n247_6 n247_7 => ?_)
                        have hbr : (S247.1 54 43 = S240.1 54 43 + 1 ∧ S247.2 88 (S240.1 54 43) = v51_2) ∨ S247.1 54 43 = S240.1 54 43 := by
                          rcases n247_5 with h | h
                          · exact Or.inl h
                          · exact Or.inr h.1
                        intro q159
                        refine ⟨fun h255 => ?_, fun h255 => ?_⟩
                        · unfold wX11_parse_265
                          intro q160
                          refine ⟨fun h270 => ?_, fun h270 => ?_⟩
                          · unfold wX11_parse_283
                            refine ⟨by omega, ?_⟩
                            refine ⟨fun h287 => ?_, fun h287 => ?_⟩
                            · unfold wX11_parse_295
                              unfold wX11_parse_297
                              exact ⟨⟨(Ch.wk (Ch.tr (Ch.tr hS51h hS240) hS247) (by decide) (by decide)), by omega, by omega, by omega, by omega, by omega, n247_2, n247_3, n247_4, (PE_new (PE.mv i51_8 (hS240.1 43 (by decide)) (hS240.2 88 (by decide))) hbr n247_6), n247_7, (by
                                    unfold P1
                                    first | exact Or.inr (Or.inl (by omega)) | exact Or.inl (by omega)), by omega⟩, show (2 * (3020 - r247) + min 1 (max 0 (-1 - (S247.1 54 59)))).toNat < (2 * (3020 - v51_1) + min 1 (max 0 (-1 - (S51h.1 54 59)))).toNat by omega⟩
                            · unfold wX11_parse_295
                              unfold wX11_parse_297
                              exact ⟨⟨(Ch.wk (Ch.tr (Ch.tr hS51h hS240) hS247) (by decide) (by decide)), by omega, by omega, by omega, by omega, by omega, n247_2, n247_3, n247_4, (PE_new (PE.mv i51_8 (hS240.1 43 (by decide)) (hS240.2 88 (by decide))) hbr n247_6), n247_7, (by
                                    unfold P1
                                    first | exact Or.inr (Or.inl (by omega)) | exact Or.inl (by omega)), by omega⟩, show (2 * (3020 - r247) + min 1 (max 0 (-1 - (S247.1 54 59)))).toNat < (2 * (3020 - v51_1) + min 1 (max 0 (-1 - (S51h.1 54 59)))).toNat by omega⟩
                          · intro q161
                            unfold wX11_parse_283
                            refine ⟨by omega, ?_⟩
                            refine ⟨fun h287 => ?_, fun h287 => ?_⟩
                            · unfold wX11_parse_295
                              unfold wX11_parse_297
                              exact ⟨⟨(Ch.wk (Ch.tr (Ch.tr hS51h hS240) hS247) (by decide) (by decide)), by omega, by omega, by omega, by omega, by omega, n247_2, n247_3, n247_4, (PE_last (by omega)), n247_7, (by
                                    unfold P1
                                    first | exact Or.inr (Or.inl (by omega)) | exact Or.inl (by omega)), by omega⟩, show (2 * (3020 - r247) + min 1 (max 0 (-1 - (S247.1 54 59)))).toNat < (2 * (3020 - v51_1) + min 1 (max 0 (-1 - (S51h.1 54 59)))).toNat by omega⟩
                            · unfold wX11_parse_295
                              unfold wX11_parse_297
                              exact ⟨⟨(Ch.wk (Ch.tr (Ch.tr hS51h hS240) hS247) (by decide) (by decide)), by omega, by omega, by omega, by omega, by omega, n247_2, n247_3, n247_4, (PE_last (by omega)), n247_7, (by
                                    unfold P1
                                    first | exact Or.inr (Or.inl (by omega)) | exact Or.inl (by omega)), by omega⟩, show (2 * (3020 - r247) + min 1 (max 0 (-1 - (S247.1 54 59)))).toNat < (2 * (3020 - v51_1) + min 1 (max 0 (-1 - (S51h.1 54 59)))).toNat by omega⟩
                        · unfold wX11_parse_265
                          intro q162
                          refine ⟨fun h270 => ?_, fun h270 => ?_⟩
                          · unfold wX11_parse_283
                            refine ⟨by omega, ?_⟩
                            refine ⟨fun h287 => ?_, fun h287 => ?_⟩
                            · unfold wX11_parse_295
                              unfold wX11_parse_297
                              exact ⟨⟨(Ch.wk (Ch.tr (Ch.tr hS51h hS240) hS247) (by decide) (by decide)), by omega, by omega, by omega, by omega, by omega, n247_2, n247_3, n247_4, (PE_new (PE.mv i51_8 (hS240.1 43 (by decide)) (hS240.2 88 (by decide))) hbr n247_6), n247_7, (by
                                    unfold P1
                                    first | exact Or.inr (Or.inl (by omega)) | exact Or.inl (by omega)), by omega⟩, show (2 * (3020 - r247) + min 1 (max 0 (-1 - (S247.1 54 59)))).toNat < (2 * (3020 - v51_1) + min 1 (max 0 (-1 - (S51h.1 54 59)))).toNat by omega⟩
                            · unfold wX11_parse_295
                              unfold wX11_parse_297
                              exact ⟨⟨(Ch.wk (Ch.tr (Ch.tr hS51h hS240) hS247) (by decide) (by decide)), by omega, by omega, by omega, by omega, by omega, n247_2, n247_3, n247_4, (PE_new (PE.mv i51_8 (hS240.1 43 (by decide)) (hS240.2 88 (by decide))) hbr n247_6), n247_7, (by
                                    unfold P1
                                    first | exact Or.inr (Or.inl (by omega)) | exact Or.inl (by omega)), by omega⟩, show (2 * (3020 - r247) + min 1 (max 0 (-1 - (S247.1 54 59)))).toNat < (2 * (3020 - v51_1) + min 1 (max 0 (-1 - (S51h.1 54 59)))).toNat by omega⟩
                          · intro q163
                            unfold wX11_parse_283
                            refine ⟨by omega, ?_⟩
                            refine ⟨fun h287 => ?_, fun h287 => ?_⟩
                            · unfold wX11_parse_295
                              unfold wX11_parse_297
                              exact ⟨⟨(Ch.wk (Ch.tr (Ch.tr hS51h hS240) hS247) (by decide) (by decide)), by omega, by omega, by omega, by omega, by omega, n247_2, n247_3, n247_4, (PE_last (by omega)), n247_7, (by
                                    unfold P1
                                    first | exact Or.inr (Or.inl (by omega)) | exact Or.inl (by omega)), by omega⟩, show (2 * (3020 - r247) + min 1 (max 0 (-1 - (S247.1 54 59)))).toNat < (2 * (3020 - v51_1) + min 1 (max 0 (-1 - (S51h.1 54 59)))).toNat by omega⟩
                            · unfold wX11_parse_295
                              unfold wX11_parse_297
                              exact ⟨⟨(Ch.wk (Ch.tr (Ch.tr hS51h hS240) hS247) (by decide) (by decide)), by omega, by omega, by omega, by omega, by omega, n247_2, n247_3, n247_4, (PE_last (by omega)), n247_7, (by
                                    unfold P1
                                    first | exact Or.inr (Or.inl (by omega)) | exact Or.inl (by omega)), by omega⟩, show (2 * (3020 - r247) + min 1 (max 0 (-1 - (S247.1 54 59)))).toNat < (2 * (3020 - v51_1) + min 1 (max 0 (-1 - (S51h.1 54 59)))).toNat by omega⟩
                      · refine ⟨by omega, ?_⟩
                        refine tX11_fail (by omega) (fun r232 S232 hS232 n232_0 => ?_)
                        unfold wX11_parse_297
                        have e164 : S232.1 54 43 = S51h.1 54 43 := hS232.1 43 (by decide)
                        exact ⟨⟨(Ch.wk (Ch.tr hS51h hS232) (by decide) (by decide)), by omega, by omega, by omega, by omega, by omega, (PA.mv3 i51_5 ((hS232).1 51 (by decide)) ((hS232).2 92 (by decide)) ((hS232).2 93 (by decide)) ((hS232).2 94 (by decide)) ((hS232).2 95 (by decide))), (PR.mv i51_6 ((hS232).1 43 (by decide)) ((hS232).1 51 (by decide)) ((hS232).2 86 (by decide)) ((hS232).2 87 (by decide)) ((hS232).2 88 (by decide)) ((hS232).2 90 (by decide)) ((hS232).2 91 (by decide))), (PO.mv i51_7 ((hS232).1 43 (by decide)) ((hS232).2 88 (by decide))), (PE.mv i51_8 ((hS232).1 43 (by decide)) ((hS232).2 88 (by decide))), (by
                              unfold PB
                              have e165 : S232.1 54 41 = S51h.1 54 41 := hS232.1 41 (by decide)
                              have e166 : S51h.1 54 41 = S18.1 54 41 := hS51h.1 41 (by decide)
                              have e167 : S18.1 54 41 = S12.1 54 41 := hS18.1 41 (by decide)
                              have e168 : S12.1 54 41 = S7.1 54 41 := hS12.1 41 (by decide)
                              have e169 : S7.1 54 41 = S2.1 54 41 := hS7.1 41 (by decide)
                              have e170 : S2.1 54 41 = S.1 54 41 := hS2.1 41 (by decide)
                              have e171 : S232.1 54 56 = S51h.1 54 56 := hS232.1 56 (by decide)
                              have e172 : S232.1 54 51 = S51h.1 54 51 := hS232.1 51 (by decide)
                              first
                              | exact Or.inl (by omega)
                              | exact (Classical.em (-1 ≤ S232.1 54 59)).elim (fun hb => Or.inl hb) (fun hb => Or.inr ⟨by omega, by omega, by omega⟩)), (by
                              unfold P1
                              have e173 : S232.1 54 43 = S51h.1 54 43 := hS232.1 43 (by decide)
                              first | exact Or.inr (Or.inl (by omega)) | exact Or.inl (by omega)), by omega⟩, show (2 * (3020 - v51_1) + min 1 (max 0 (-1 - (S232.1 54 59)))).toNat < (2 * (3020 - v51_1) + min 1 (max 0 (-1 - (S51h.1 54 59)))).toNat by omega⟩
                    · refine ⟨by omega, ?_⟩
                      refine ⟨by omega, ?_⟩
                      have e174 : S51h.1 54 41 = S18.1 54 41 := hS51h.1 41 (by decide)
                      have e175 : S18.1 54 41 = S12.1 54 41 := hS18.1 41 (by decide)
                      have e176 : S12.1 54 41 = S7.1 54 41 := hS12.1 41 (by decide)
                      have e177 : S7.1 54 41 = S2.1 54 41 := hS7.1 41 (by decide)
                      have e178 : S2.1 54 41 = S.1 54 41 := hS2.1 41 (by decide)
                      have e179 : S51h.1 54 41 = S18.1 54 41 := hS51h.1 41 (by decide)
                      have e180 : S18.1 54 41 = S12.1 54 41 := hS18.1 41 (by decide)
                      have e181 : S12.1 54 41 = S7.1 54 41 := hS12.1 41 (by decide)
                      have e182 : S7.1 54 41 = S2.1 54 41 := hS7.1 41 (by decide)
                      have e183 : S2.1 54 41 = S.1 54 41 := hS2.1 41 (by decide)
                      have e184 : S51h.1 54 41 = S18.1 54 41 := hS51h.1 41 (by decide)
                      have e185 : S18.1 54 41 = S12.1 54 41 := hS18.1 41 (by decide)
                      have e186 : S12.1 54 41 = S7.1 54 41 := hS12.1 41 (by decide)
                      have e187 : S7.1 54 41 = S2.1 54 41 := hS7.1 41 (by decide)
                      have e188 : S2.1 54 41 = S.1 54 41 := hS2.1 41 (by decide)
                      refine tX11_section (by omega) (by omega) (by omega) (by omega) (by omega) (by omega) (fun r218 S218 hS218 n218_0 n218_1 n218_2 n218_3 => ?_)
                      unfold wX11_parse_297
                      have e189 : S218.1 54 43 = S51h.1 54 43 := hS218.1 43 (by decide)
                      exact ⟨⟨(Ch.wk (Ch.tr hS51h hS218) (by decide) (by decide)), by omega, by omega, by omega, by omega, by omega, (PA.mv3 i51_5 ((hS218).1 51 (by decide)) ((hS218).2 92 (by decide)) ((hS218).2 93 (by decide)) ((hS218).2 94 (by decide)) ((hS218).2 95 (by decide))), (PR.mv i51_6 ((hS218).1 43 (by decide)) ((hS218).1 51 (by decide)) ((hS218).2 86 (by decide)) ((hS218).2 87 (by decide)) ((hS218).2 88 (by decide)) ((hS218).2 90 (by decide)) ((hS218).2 91 (by decide))), (PO.mv i51_7 ((hS218).1 43 (by decide)) ((hS218).2 88 (by decide))), (PE.mv i51_8 ((hS218).1 43 (by decide)) ((hS218).2 88 (by decide))), (by
                            unfold PB
                            have e190 : S218.1 54 41 = S51h.1 54 41 := hS218.1 41 (by decide)
                            have e191 : S51h.1 54 41 = S18.1 54 41 := hS51h.1 41 (by decide)
                            have e192 : S18.1 54 41 = S12.1 54 41 := hS18.1 41 (by decide)
                            have e193 : S12.1 54 41 = S7.1 54 41 := hS12.1 41 (by decide)
                            have e194 : S7.1 54 41 = S2.1 54 41 := hS7.1 41 (by decide)
                            have e195 : S2.1 54 41 = S.1 54 41 := hS2.1 41 (by decide)
                            have e196 : S218.1 54 51 = S51h.1 54 51 := hS218.1 51 (by decide)
                            first
                            | exact Or.inl (by omega)
                            | exact (Classical.em (-1 ≤ S218.1 54 59)).elim (fun hb => Or.inl hb) (fun hb => Or.inr ⟨by omega, by omega, by omega⟩)), (by
                            unfold P1
                            have e197 : S218.1 54 43 = S51h.1 54 43 := hS218.1 43 (by decide)
                            first | exact Or.inr (Or.inl (by omega)) | exact Or.inl (by omega)), by omega⟩, show (2 * (3020 - r218) + min 1 (max 0 (-1 - (S218.1 54 59)))).toNat < (2 * (3020 - v51_1) + min 1 (max 0 (-1 - (S51h.1 54 59)))).toNat by omega⟩
                · refine ⟨by omega, ?_⟩
                  refine ⟨fun h164 => ?_, fun h164 => ?_⟩
                  · unfold wX11_parse_200
                    refine ⟨by omega, ?_⟩
                    refine ⟨fun h204 => ?_, fun h204 => ?_⟩
                    · unfold wX11_parse_225
                      refine ⟨by omega, ?_⟩
                      refine ⟨fun h227 => ?_, fun h227 => ?_⟩
                      · intro S240 hS240e
                        have hS240 : Ch [60] [] S51h S240 := Ch_I hS240e
                        have hS240v : S240.1 54 60 = 0 := pI_at hS240e
                        refine ⟨by omega, ?_⟩
                        refine ⟨by omega, ?_⟩
                        refine ⟨by omega, ?_⟩
                        have e198 : S240.1 54 41 = S51h.1 54 41 := hS240.1 41 (by decide)
                        have e199 : S51h.1 54 41 = S18.1 54 41 := hS51h.1 41 (by decide)
                        have e200 : S18.1 54 41 = S12.1 54 41 := hS18.1 41 (by decide)
                        have e201 : S12.1 54 41 = S7.1 54 41 := hS12.1 41 (by decide)
                        have e202 : S7.1 54 41 = S2.1 54 41 := hS7.1 41 (by decide)
                        have e203 : S2.1 54 41 = S.1 54 41 := hS2.1 41 (by decide)
                        have e204 : S240.1 54 41 = S51h.1 54 41 := hS240.1 41 (by decide)
                        have e205 : S51h.1 54 41 = S18.1 54 41 := hS51h.1 41 (by decide)
                        have e206 : S18.1 54 41 = S12.1 54 41 := hS18.1 41 (by decide)
                        have e207 : S12.1 54 41 = S7.1 54 41 := hS12.1 41 (by decide)
                        have e208 : S7.1 54 41 = S2.1 54 41 := hS7.1 41 (by decide)
                        have e209 : S2.1 54 41 = S.1 54 41 := hS2.1 41 (by decide)
                        have e210 : S240.1 54 56 = S51h.1 54 56 := hS240.1 56 (by decide)
                        have e211 : S240.1 54 51 = S51h.1 54 51 := hS240.1 51 (by decide)
                        have e212 : S240.1 54 43 = S51h.1 54 43 := hS240.1 43 (by decide)
                        have e213 : S240.1 54 43 = S51h.1 54 43 := hS240.1 43 (by decide)
                        refine tX11_beginTag (by omega) (by omega) (by omega) (by omega) (by omega) (by omega) (PA.mv2 i51_5 ((hS240).1 51 (by decide)) ((hS240).1 56 (by decide)) ((hS240).2 92 (by decide)) ((hS240).2 93 (by decide)) ((hS240).2 94 (by decide)) ((hS240).2 95 (by decide))) (PR.mv i51_6 ((hS240).1 43 (by decide)) ((hS240).1 51 (by decide)) ((hS240).2 86 (by decide)) ((hS240).2 87 (by decide)) ((hS240).2 88 (by decide)) ((hS240).2 90 (by decide)) ((hS240).2 91 (by decide))) (PO.mv i51_7 ((hS240).1 43 (by decide)) ((hS240).2 88 (by decide))) (PE.mv i51_8 ((hS240).1 43 (by decide)) ((hS240).2 88 (by decide))) (by omega) (fun r247 S247 hS247 n247_0 n247_1 n247_2 n247_3 n247_4 n247_5 n247_6 n247_7 => ?_)
                        have hbr : (S247.1 54 43 = S240.1 54 43 + 1 ∧ S247.2 88 (S240.1 54 43) = v51_2) ∨ S247.1 54 43 = S240.1 54 43 := by
                          rcases n247_5 with h | h
                          · exact Or.inl h
                          · exact Or.inr h.1
                        intro q214
                        refine ⟨fun h255 => ?_, fun h255 => ?_⟩
                        · unfold wX11_parse_265
                          intro q215
                          refine ⟨fun h270 => ?_, fun h270 => ?_⟩
                          · unfold wX11_parse_283
                            refine ⟨by omega, ?_⟩
                            refine ⟨fun h287 => ?_, fun h287 => ?_⟩
                            · unfold wX11_parse_295
                              unfold wX11_parse_297
                              exact ⟨⟨(Ch.wk (Ch.tr (Ch.tr hS51h hS240) hS247) (by decide) (by decide)), by omega, by omega, by omega, by omega, by omega, n247_2, n247_3, n247_4, (PE_new (PE.mv i51_8 (hS240.1 43 (by decide)) (hS240.2 88 (by decide))) hbr n247_6), n247_7, (by
                                    unfold P1
                                    first | exact Or.inr (Or.inl (by omega)) | exact Or.inl (by omega)), by omega⟩, show (2 * (3020 - r247) + min 1 (max 0 (-1 - (S247.1 54 59)))).toNat < (2 * (3020 - v51_1) + min 1 (max 0 (-1 - (S51h.1 54 59)))).toNat by omega⟩
                            · unfold wX11_parse_295
                              unfold wX11_parse_297
                              exact ⟨⟨(Ch.wk (Ch.tr (Ch.tr hS51h hS240) hS247) (by decide) (by decide)), by omega, by omega, by omega, by omega, by omega, n247_2, n247_3, n247_4, (PE_new (PE.mv i51_8 (hS240.1 43 (by decide)) (hS240.2 88 (by decide))) hbr n247_6), n247_7, (by
                                    unfold P1
                                    first | exact Or.inr (Or.inl (by omega)) | exact Or.inl (by omega)), by omega⟩, show (2 * (3020 - r247) + min 1 (max 0 (-1 - (S247.1 54 59)))).toNat < (2 * (3020 - v51_1) + min 1 (max 0 (-1 - (S51h.1 54 59)))).toNat by omega⟩
                          · intro q216
                            unfold wX11_parse_283
                            refine ⟨by omega, ?_⟩
                            refine ⟨fun h287 => ?_, fun h287 => ?_⟩
                            · unfold wX11_parse_295
                              unfold wX11_parse_297
                              exact ⟨⟨(Ch.wk (Ch.tr (Ch.tr hS51h hS240) hS247) (by decide) (by decide)), by omega, by omega, by omega, by omega, by omega, n247_2, n247_3, n247_4, (PE_last (by omega)), n247_7, (by
                                    unfold P1
                                    first | exact Or.inr (Or.inl (by omega)) | exact Or.inl (by omega)), by omega⟩, show (2 * (3020 - r247) + min 1 (max 0 (-1 - (S247.1 54 59)))).toNat < (2 * (3020 - v51_1) + min 1 (max 0 (-1 - (S51h.1 54 59)))).toNat by omega⟩
                            · unfold wX11_parse_295
                              unfold wX11_parse_297
                              exact ⟨⟨(Ch.wk (Ch.tr (Ch.tr hS51h hS240) hS247) (by decide) (by decide)), by omega, by omega, by omega, by omega, by omega, n247_2, n247_3, n247_4, (PE_last (by omega)), n247_7, (by
                                    unfold P1
                                    first | exact Or.inr (Or.inl (by omega)) | exact Or.inl (by omega)), by omega⟩, show (2 * (3020 - r247) + min 1 (max 0 (-1 - (S247.1 54 59)))).toNat < (2 * (3020 - v51_1) + min 1 (max 0 (-1 - (S51h.1 54 59)))).toNat by omega⟩
                        · unfold wX11_parse_265
                          intro q217
                          refine ⟨fun h270 => ?_, fun h270 => ?_⟩
                          · unfold wX11_parse_283
                            refine ⟨by omega, ?_⟩
                            refine ⟨fun h287 => ?_, fun h287 => ?_⟩
                            · unfold wX11_parse_295
                              unfold wX11_parse_297
                              exact ⟨⟨(Ch.wk (Ch.tr (Ch.tr hS51h hS240) hS247) (by decide) (by decide)), by omega, by omega, by omega, by omega, by omega, n247_2, n247_3, n247_4, (PE_new (PE.mv i51_8 (hS240.1 43 (by decide)) (hS240.2 88 (by decide))) hbr n247_6), n247_7, (by
                                    unfold P1
                                    first | exact Or.inr (Or.inl (by omega)) | exact Or.inl (by omega)), by omega⟩, show (2 * (3020 - r247) + min 1 (max 0 (-1 - (S247.1 54 59)))).toNat < (2 * (3020 - v51_1) + min 1 (max 0 (-1 - (S51h.1 54 59)))).toNat by omega⟩
                            · unfold wX11_parse_295
                              unfold wX11_parse_297
                              exact ⟨⟨(Ch.wk (Ch.tr (Ch.tr hS51h hS240) hS247) (by decide) (by decide)), by omega, by omega, by omega, by omega, by omega, n247_2, n247_3, n247_4, (PE_new (PE.mv i51_8 (hS240.1 43 (by decide)) (hS240.2 88 (by decide))) hbr n247_6), n247_7, (by
                                    unfold P1
                                    first | exact Or.inr (Or.inl (by omega)) | exact Or.inl (by omega)), by omega⟩, show (2 * (3020 - r247) + min 1 (max 0 (-1 - (S247.1 54 59)))).toNat < (2 * (3020 - v51_1) + min 1 (max 0 (-1 - (S51h.1 54 59)))).toNat by omega⟩
                          · intro q218
                            unfold wX11_parse_283
                            refine ⟨by omega, ?_⟩
                            refine ⟨fun h287 => ?_, fun h287 => ?_⟩
                            · unfold wX11_parse_295
                              unfold wX11_parse_297
                              exact ⟨⟨(Ch.wk (Ch.tr (Ch.tr hS51h hS240) hS247) (by decide) (by decide)), by omega, by omega, by omega, by omega, by omega, n247_2, n247_3, n247_4, (PE_last (by omega)), n247_7, (by
                                    unfold P1
                                    first | exact Or.inr (Or.inl (by omega)) | exact Or.inl (by omega)), by omega⟩, show (2 * (3020 - r247) + min 1 (max 0 (-1 - (S247.1 54 59)))).toNat < (2 * (3020 - v51_1) + min 1 (max 0 (-1 - (S51h.1 54 59)))).toNat by omega⟩
                            · unfold wX11_parse_295
                              unfold wX11_parse_297
                              exact ⟨⟨(Ch.wk (Ch.tr (Ch.tr hS51h hS240) hS247) (by decide) (by decide)), by omega, by omega, by omega, by omega, by omega, n247_2, n247_3, n247_4, (PE_last (by omega)), n247_7, (by
                                    unfold P1
                                    first | exact Or.inr (Or.inl (by omega)) | exact Or.inl (by omega)), by omega⟩, show (2 * (3020 - r247) + min 1 (max 0 (-1 - (S247.1 54 59)))).toNat < (2 * (3020 - v51_1) + min 1 (max 0 (-1 - (S51h.1 54 59)))).toNat by omega⟩
                      · refine ⟨by omega, ?_⟩
                        refine tX11_fail (by omega) (fun r232 S232 hS232 n232_0 => ?_)
                        unfold wX11_parse_297
                        have e219 : S232.1 54 43 = S51h.1 54 43 := hS232.1 43 (by decide)
                        exact ⟨⟨(Ch.wk (Ch.tr hS51h hS232) (by decide) (by decide)), by omega, by omega, by omega, by omega, by omega, (PA.mv3 i51_5 ((hS232).1 51 (by decide)) ((hS232).2 92 (by decide)) ((hS232).2 93 (by decide)) ((hS232).2 94 (by decide)) ((hS232).2 95 (by decide))), (PR.mv i51_6 ((hS232).1 43 (by decide)) ((hS232).1 51 (by decide)) ((hS232).2 86 (by decide)) ((hS232).2 87 (by decide)) ((hS232).2 88 (by decide)) ((hS232).2 90 (by decide)) ((hS232).2 91 (by decide))), (PO.mv i51_7 ((hS232).1 43 (by decide)) ((hS232).2 88 (by decide))), (PE.mv i51_8 ((hS232).1 43 (by decide)) ((hS232).2 88 (by decide))), (by
                              unfold PB
                              have e220 : S232.1 54 41 = S51h.1 54 41 := hS232.1 41 (by decide)
                              have e221 : S51h.1 54 41 = S18.1 54 41 := hS51h.1 41 (by decide)
                              have e222 : S18.1 54 41 = S12.1 54 41 := hS18.1 41 (by decide)
                              have e223 : S12.1 54 41 = S7.1 54 41 := hS12.1 41 (by decide)
                              have e224 : S7.1 54 41 = S2.1 54 41 := hS7.1 41 (by decide)
                              have e225 : S2.1 54 41 = S.1 54 41 := hS2.1 41 (by decide)
                              have e226 : S232.1 54 56 = S51h.1 54 56 := hS232.1 56 (by decide)
                              have e227 : S232.1 54 51 = S51h.1 54 51 := hS232.1 51 (by decide)
                              first
                              | exact Or.inl (by omega)
                              | exact (Classical.em (-1 ≤ S232.1 54 59)).elim (fun hb => Or.inl hb) (fun hb => Or.inr ⟨by omega, by omega, by omega⟩)), (by
                              unfold P1
                              have e228 : S232.1 54 43 = S51h.1 54 43 := hS232.1 43 (by decide)
                              first | exact Or.inr (Or.inl (by omega)) | exact Or.inl (by omega)), by omega⟩, show (2 * (3020 - v51_1) + min 1 (max 0 (-1 - (S232.1 54 59)))).toNat < (2 * (3020 - v51_1) + min 1 (max 0 (-1 - (S51h.1 54 59)))).toNat by omega⟩
                    · refine ⟨by omega, ?_⟩
                      refine ⟨fun h210 => ?_, fun h210 => ?_⟩
                      · unfold wX11_parse_225
                        refine ⟨by omega, ?_⟩
                        refine ⟨fun h227 => ?_, fun h227 => ?_⟩
                        · intro S240 hS240e
                          have hS240 : Ch [60] [] S51h S240 := Ch_I hS240e
                          have hS240v : S240.1 54 60 = 0 := pI_at hS240e
                          refine ⟨by omega, ?_⟩
                          refine ⟨by omega, ?_⟩
                          refine ⟨by omega, ?_⟩
                          have e229 : S240.1 54 41 = S51h.1 54 41 := hS240.1 41 (by decide)
                          have e230 : S51h.1 54 41 = S18.1 54 41 := hS51h.1 41 (by decide)
                          have e231 : S18.1 54 41 = S12.1 54 41 := hS18.1 41 (by decide)
                          have e232 : S12.1 54 41 = S7.1 54 41 := hS12.1 41 (by decide)
                          have e233 : S7.1 54 41 = S2.1 54 41 := hS7.1 41 (by decide)
                          have e234 : S2.1 54 41 = S.1 54 41 := hS2.1 41 (by decide)
                          have e235 : S240.1 54 41 = S51h.1 54 41 := hS240.1 41 (by decide)
                          have e236 : S51h.1 54 41 = S18.1 54 41 := hS51h.1 41 (by decide)
                          have e237 : S18.1 54 41 = S12.1 54 41 := hS18.1 41 (by decide)
                          have e238 : S12.1 54 41 = S7.1 54 41 := hS12.1 41 (by decide)
                          have e239 : S7.1 54 41 = S2.1 54 41 := hS7.1 41 (by decide)
                          have e240 : S2.1 54 41 = S.1 54 41 := hS2.1 41 (by decide)
                          have e241 : S240.1 54 56 = S51h.1 54 56 := hS240.1 56 (by decide)
                          have e242 : S240.1 54 51 = S51h.1 54 51 := hS240.1 51 (by decide)
                          have e243 : S240.1 54 43 = S51h.1 54 43 := hS240.1 43 (by decide)
                          have e244 : S240.1 54 43 = S51h.1 54 43 := hS240.1 43 (by decide)
                          refine tX11_beginTag (by omega) (by omega) (by omega) (by omega) (by omega) (by omega) (PA.mv2 i51_5 ((hS240).1 51 (by decide)) ((hS240).1 56 (by decide)) ((hS240).2 92 (by decide)) ((hS240).2 93 (by decide)) ((hS240).2 94 (by decide)) ((hS240).2 95 (by decide))) (PR.mv i51_6 ((hS240).1 43 (by decide)) ((hS240).1 51 (by decide)) ((hS240).2 86 (by decide)) ((hS240).2 87 (by decide)) ((hS240).2 88 (by decide)) ((hS240).2 90 (by decide)) ((hS240).2 91 (by decide))) (PO.mv i51_7 ((hS240).1 43 (by decide)) ((hS240).2 88 (by decide))) (PE.mv i51_8 ((hS240).1 43 (by decide)) ((hS240).2 88 (by decide))) (by omega) (fun r247 S247 hS247 n247_0 n247_1 n247_2 n247_3 n247_4 n247_5 n247_6 n247_7 => ?_)
                          have hbr : (S247.1 54 43 = S240.1 54 43 + 1 ∧ S247.2 88 (S240.1 54 43) = v51_2) ∨ S247.1 54 43 = S240.1 54 43 := by
                            rcases n247_5 with h | h
                            · exact Or.inl h
                            · exact Or.inr h.1
                          intro q245
                          refine ⟨fun h255 => ?_, fun h255 => ?_⟩
                          · unfold wX11_parse_265
                            intro q246
                            refine ⟨fun h270 => ?_, fun h270 => ?_⟩
                            · unfold wX11_parse_283
                              refine ⟨by omega, ?_⟩
                              refine ⟨fun h287 => ?_, fun h287 => ?_⟩
                              · unfold wX11_parse_295
                                unfold wX11_parse_297
                                exact ⟨⟨(Ch.wk (Ch.tr (Ch.tr hS51h hS240) hS247) (by decide) (by decide)), by omega, by omega, by omega, by omega, by omega, n247_2, n247_3, n247_4, (PE_new (PE.mv i51_8 (hS240.1 43 (by decide)) (hS240.2 88 (by decide))) hbr n247_6), n247_7, (by
                                      unfold P1
                                      first | exact Or.inr (Or.inl (by omega)) | exact Or.inl (by omega)), by omega⟩, show (2 * (3020 - r247) + min 1 (max 0 (-1 - (S247.1 54 59)))).toNat < (2 * (3020 - v51_1) + min 1 (max 0 (-1 - (S51h.1 54 59)))).toNat by omega⟩
                              · unfold wX11_parse_295
                                unfold wX11_parse_297
                                exact ⟨⟨(Ch.wk (Ch.tr (Ch.tr hS51h hS240) hS247) (by decide) (by decide)), by omega, by omega, by omega, by omega, by omega, n247_2, n247_3, n247_4, (PE_new (PE.mv i51_8 (hS240.1 43 (by decide)) (hS240.2 88 (by decide))) hbr n247_6), n247_7, (by
                                      unfold P1
                                      first | exact Or.inr (Or.inl (by omega)) | exact Or.inl (by omega)), by omega⟩, show (2 * (3020 - r247) + min 1 (max 0 (-1 - (S247.1 54 59)))).toNat < (2 * (3020 - v51_1) + min 1 (max 0 (-1 - (S51h.1 54 59)))).toNat by omega⟩
                            · intro q247
                              unfold wX11_parse_283
                              refine ⟨by omega, ?_⟩
                              refine ⟨fun h287 => ?_, fun h287 => ?_⟩
                              · unfold wX11_parse_295
                                unfold wX11_parse_297
                                exact ⟨⟨(Ch.wk (Ch.tr (Ch.tr hS51h hS240) hS247) (by decide) (by decide)), by omega, by omega, by omega, by omega, by omega, n247_2, n247_3, n247_4, (PE_last (by omega)), n247_7, (by
                                      unfold P1
                                      first | exact Or.inr (Or.inl (by omega)) | exact Or.inl (by omega)), by omega⟩, show (2 * (3020 - r247) + min 1 (max 0 (-1 - (S247.1 54 59)))).toNat < (2 * (3020 - v51_1) + min 1 (max 0 (-1 - (S51h.1 54 59)))).toNat by omega⟩
                              · unfold wX11_parse_295
                                unfold wX11_parse_297
                                exact ⟨⟨(Ch.wk (Ch.tr (Ch.tr hS51h hS240) hS247) (by decide) (by decide)), by omega, by omega, by omega, by omega, by omega, n247_2, n247_3, n247_4, (PE_last (by omega)), n247_7, (by
                                      unfold P1
                                      first | exact Or.inr (Or.inl (by omega)) | exact Or.inl (by omega)), by omega⟩, show (2 * (3020 - r247) + min 1 (max 0 (-1 - (S247.1 54 59)))).toNat < (2 * (3020 - v51_1) + min 1 (max 0 (-1 - (S51h.1 54 59)))).toNat by omega⟩
                          · unfold wX11_parse_265
                            intro q248
                            refine ⟨fun h270 => ?_, fun h270 => ?_⟩
                            · unfold wX11_parse_283
                              refine ⟨by omega, ?_⟩
                              refine ⟨fun h287 => ?_, fun h287 => ?_⟩
                              · unfold wX11_parse_295
                                unfold wX11_parse_297
                                exact ⟨⟨(Ch.wk (Ch.tr (Ch.tr hS51h hS240) hS247) (by decide) (by decide)), by omega, by omega, by omega, by omega, by omega, n247_2, n247_3, n247_4, (PE_new (PE.mv i51_8 (hS240.1 43 (by decide)) (hS240.2 88 (by decide))) hbr n247_6), n247_7, (by
                                      unfold P1
                                      first | exact Or.inr (Or.inl (by omega)) | exact Or.inl (by omega)), by omega⟩, show (2 * (3020 - r247) + min 1 (max 0 (-1 - (S247.1 54 59)))).toNat < (2 * (3020 - v51_1) + min 1 (max 0 (-1 - (S51h.1 54 59)))).toNat by omega⟩
                              · unfold wX11_parse_295
                                unfold wX11_parse_297
                                exact ⟨⟨(Ch.wk (Ch.tr (Ch.tr hS51h hS240) hS247) (by decide) (by decide)), by omega, by omega, by omega, by omega, by omega, n247_2, n247_3, n247_4, (PE_new (PE.mv i51_8 (hS240.1 43 (by decide)) (hS240.2 88 (by decide))) hbr n247_6), n247_7, (by
                                      unfold P1
                                      first | exact Or.inr (Or.inl (by omega)) | exact Or.inl (by omega)), by omega⟩, show (2 * (3020 - r247) + min 1 (max 0 (-1 - (S247.1 54 59)))).toNat < (2 * (3020 - v51_1) + min 1 (max 0 (-1 - (S51h.1 54 59)))).toNat by omega⟩
                            · intro q249
                              unfold wX11_parse_283
                              refine ⟨by omega, ?_⟩
                              refine ⟨fun h287 => ?_, fun h287 => ?_⟩
                              · unfold wX11_parse_295
                                unfold wX11_parse_297
                                exact ⟨⟨(Ch.wk (Ch.tr (Ch.tr hS51h hS240) hS247) (by decide) (by decide)), by omega, by omega, by omega, by omega, by omega, n247_2, n247_3, n247_4, (PE_last (by omega)), n247_7, (by
                                      unfold P1
                                      first | exact Or.inr (Or.inl (by omega)) | exact Or.inl (by omega)), by omega⟩, show (2 * (3020 - r247) + min 1 (max 0 (-1 - (S247.1 54 59)))).toNat < (2 * (3020 - v51_1) + min 1 (max 0 (-1 - (S51h.1 54 59)))).toNat by omega⟩
                              · unfold wX11_parse_295
                                unfold wX11_parse_297
                                exact ⟨⟨(Ch.wk (Ch.tr (Ch.tr hS51h hS240) hS247) (by decide) (by decide)), by omega, by omega, by omega, by omega, by omega, n247_2, n247_3, n247_4, (PE_last (by omega)), n247_7, (by
                                      unfold P1
                                      first | exact Or.inr (Or.inl (by omega)) | exact Or.inl (by omega)), by omega⟩, show (2 * (3020 - r247) + min 1 (max 0 (-1 - (S247.1 54 59)))).toNat < (2 * (3020 - v51_1) + min 1 (max 0 (-1 - (S51h.1 54 59)))).toNat by omega⟩
                        · refine ⟨by omega, ?_⟩
                          refine tX11_fail (by omega) (fun r232 S232 hS232 n232_0 => ?_)
                          unfold wX11_parse_297
                          have e250 : S232.1 54 43 = S51h.1 54 43 := hS232.1 43 (by decide)
                          exact ⟨⟨(Ch.wk (Ch.tr hS51h hS232) (by decide) (by decide)), by omega, by omega, by omega, by omega, by omega, (PA.mv3 i51_5 ((hS232).1 51 (by decide)) ((hS232).2 92 (by decide)) ((hS232).2 93 (by decide)) ((hS232).2 94 (by decide)) ((hS232).2 95 (by decide))), (PR.mv i51_6 ((hS232).1 43 (by decide)) ((hS232).1 51 (by decide)) ((hS232).2 86 (by decide)) ((hS232).2 87 (by decide)) ((hS232).2 88 (by decide)) ((hS232).2 90 (by decide)) ((hS232).2 91 (by decide))), (PO.mv i51_7 ((hS232).1 43 (by decide)) ((hS232).2 88 (by decide))), (PE.mv i51_8 ((hS232).1 43 (by decide)) ((hS232).2 88 (by decide))), (by
                                unfold PB
                                have e251 : S232.1 54 41 = S51h.1 54 41 := hS232.1 41 (by decide)
                                have e252 : S51h.1 54 41 = S18.1 54 41 := hS51h.1 41 (by decide)
                                have e253 : S18.1 54 41 = S12.1 54 41 := hS18.1 41 (by decide)
                                have e254 : S12.1 54 41 = S7.1 54 41 := hS12.1 41 (by decide)
                                have e255 : S7.1 54 41 = S2.1 54 41 := hS7.1 41 (by decide)
                                have e256 : S2.1 54 41 = S.1 54 41 := hS2.1 41 (by decide)
                                have e257 : S232.1 54 56 = S51h.1 54 56 := hS232.1 56 (by decide)
                                have e258 : S232.1 54 51 = S51h.1 54 51 := hS232.1 51 (by decide)
                                first
                                | exact Or.inl (by omega)
                                | exact (Classical.em (-1 ≤ S232.1 54 59)).elim (fun hb => Or.inl hb) (fun hb => Or.inr ⟨by omega, by omega, by omega⟩)), (by
                                unfold P1
                                have e259 : S232.1 54 43 = S51h.1 54 43 := hS232.1 43 (by decide)
                                first | exact Or.inr (Or.inl (by omega)) | exact Or.inl (by omega)), by omega⟩, show (2 * (3020 - v51_1) + min 1 (max 0 (-1 - (S232.1 54 59)))).toNat < (2 * (3020 - v51_1) + min 1 (max 0 (-1 - (S51h.1 54 59)))).toNat by omega⟩
                      · refine ⟨by omega, ?_⟩
                        refine ⟨by omega, ?_⟩
                        have e260 : S51h.1 54 41 = S18.1 54 41 := hS51h.1 41 (by decide)
                        have e261 : S18.1 54 41 = S12.1 54 41 := hS18.1 41 (by decide)
                        have e262 : S12.1 54 41 = S7.1 54 41 := hS12.1 41 (by decide)
                        have e263 : S7.1 54 41 = S2.1 54 41 := hS7.1 41 (by decide)
                        have e264 : S2.1 54 41 = S.1 54 41 := hS2.1 41 (by decide)
                        have e265 : S51h.1 54 41 = S18.1 54 41 := hS51h.1 41 (by decide)
                        have e266 : S18.1 54 41 = S12.1 54 41 := hS18.1 41 (by decide)
                        have e267 : S12.1 54 41 = S7.1 54 41 := hS12.1 41 (by decide)
                        have e268 : S7.1 54 41 = S2.1 54 41 := hS7.1 41 (by decide)
                        have e269 : S2.1 54 41 = S.1 54 41 := hS2.1 41 (by decide)
                        have e270 : S51h.1 54 41 = S18.1 54 41 := hS51h.1 41 (by decide)
                        have e271 : S18.1 54 41 = S12.1 54 41 := hS18.1 41 (by decide)
                        have e272 : S12.1 54 41 = S7.1 54 41 := hS12.1 41 (by decide)
                        have e273 : S7.1 54 41 = S2.1 54 41 := hS7.1 41 (by decide)
                        have e274 : S2.1 54 41 = S.1 54 41 := hS2.1 41 (by decide)
                        refine tX11_section (by omega) (by omega) (by omega) (by omega) (by omega) (by omega) (fun r218 S218 hS218 n218_0 n218_1 n218_2 n218_3 => ?_)
                        unfold wX11_parse_297
                        have e275 : S218.1 54 43 = S51h.1 54 43 := hS218.1 43 (by decide)
                        exact ⟨⟨(Ch.wk (Ch.tr hS51h hS218) (by decide) (by decide)), by omega, by omega, by omega, by omega, by omega, (PA.mv3 i51_5 ((hS218).1 51 (by decide)) ((hS218).2 92 (by decide)) ((hS218).2 93 (by decide)) ((hS218).2 94 (by decide)) ((hS218).2 95 (by decide))), (PR.mv i51_6 ((hS218).1 43 (by decide)) ((hS218).1 51 (by decide)) ((hS218).2 86 (by decide)) ((hS218).2 87 (by decide)) ((hS218).2 88 (by decide)) ((hS218).2 90 (by decide)) ((hS218).2 91 (by decide))), (PO.mv i51_7 ((hS218).1 43 (by decide)) ((hS218).2 88 (by decide))), (PE.mv i51_8 ((hS218).1 43 (by decide)) ((hS218).2 88 (by decide))), (by
                              unfold PB
                              have e276 : S218.1 54 41 = S51h.1 54 41 := hS218.1 41 (by decide)
                              have e277 : S51h.1 54 41 = S18.1 54 41 := hS51h.1 41 (by decide)
                              have e278 : S18.1 54 41 = S12.1 54 41 := hS18.1 41 (by decide)
                              have e279 : S12.1 54 41 = S7.1 54 41 := hS12.1 41 (by decide)
                              have e280 : S7.1 54 41 = S2.1 54 41 := hS7.1 41 (by decide)
                              have e281 : S2.1 54 41 = S.1 54 41 := hS2.1 41 (by decide)
                              have e282 : S218.1 54 51 = S51h.1 54 51 := hS218.1 51 (by decide)
                              first
                              | exact Or.inl (by omega)
                              | exact (Classical.em (-1 ≤ S218.1 54 59)).elim (fun hb => Or.inl hb) (fun hb => Or.inr ⟨by omega, by omega, by omega⟩)), (by
                              unfold P1
                              have e283 : S218.1 54 43 = S51h.1 54 43 := hS218.1 43 (by decide)
                              first | exact Or.inr (Or.inl (by omega)) | exact Or.inl (by omega)), by omega⟩, show (2 * (3020 - r218) + min 1 (max 0 (-1 - (S218.1 54 59)))).toNat < (2 * (3020 - v51_1) + min 1 (max 0 (-1 - (S51h.1 54 59)))).toNat by omega⟩
                  · have hE2 := hE.2.resolve_left (by omega)
                    have hpr := i51_6.at (x := v51_2) (by omega) (by omega)
                    refine ⟨by omega, ?_⟩
                    have e284 : S51h.1 54 41 = S18.1 54 41 := hS51h.1 41 (by decide)
                    have e285 : S18.1 54 41 = S12.1 54 41 := hS18.1 41 (by decide)
                    have e286 : S12.1 54 41 = S7.1 54 41 := hS12.1 41 (by decide)
                    have e287 : S7.1 54 41 = S2.1 54 41 := hS7.1 41 (by decide)
                    have e288 : S2.1 54 41 = S.1 54 41 := hS2.1 41 (by decide)
                    have e289 : S51h.1 54 41 = S18.1 54 41 := hS51h.1 41 (by decide)
                    have e290 : S18.1 54 41 = S12.1 54 41 := hS18.1 41 (by decide)
                    have e291 : S12.1 54 41 = S7.1 54 41 := hS12.1 41 (by decide)
                    have e292 : S7.1 54 41 = S2.1 54 41 := hS7.1 41 (by decide)
                    have e293 : S2.1 54 41 = S.1 54 41 := hS2.1 41 (by decide)
                    have e294 : S51h.1 54 41 = S18.1 54 41 := hS51h.1 41 (by decide)
                    have e295 : S18.1 54 41 = S12.1 54 41 := hS18.1 41 (by decide)
                    have e296 : S12.1 54 41 = S7.1 54 41 := hS12.1 41 (by decide)
                    have e297 : S7.1 54 41 = S2.1 54 41 := hS7.1 41 (by decide)
                    have e298 : S2.1 54 41 = S.1 54 41 := hS2.1 41 (by decide)
                    refine tX11_endTag (by omega) (by omega) (by omega) (by omega) (by omega) (fun r170 S170 hS170 n170_0 n170_1 n170_2 => ?_)
                    refine ⟨by omega, by omega, ?_⟩
                    intro q299
                    have e300 : S170.2 88 (v51_2) = S51h.2 88 (v51_2) := congrFun (hS170.2 88 (by decide)) _
                    intro x180 hx180
                    subst hx180
                    refine ⟨fun h187 => ?_, fun h187 => ?_⟩
                    · unfold wX11_parse_195
                      unfold wX11_parse_297
                      have e301 : S170.1 54 43 = S51h.1 54 43 := hS170.1 43 (by decide)
                      exact ⟨⟨(Ch.wk (Ch.tr hS51h hS170) (by decide) (by decide)), by omega, by omega, by omega, by omega, by omega, (PA.mv3 i51_5 ((hS170).1 51 (by decide)) ((hS170).2 92 (by decide)) ((hS170).2 93 (by decide)) ((hS170).2 94 (by decide)) ((hS170).2 95 (by decide))), (PR.mv i51_6 ((hS170).1 43 (by decide)) ((hS170).1 51 (by decide)) ((hS170).2 86 (by decide)) ((hS170).2 87 (by decide)) ((hS170).2 88 (by decide)) ((hS170).2 90 (by decide)) ((hS170).2 91 (by decide))), (PO.mv i51_7 ((hS170).1 43 (by decide)) ((hS170).2 88 (by decide))), (PE_up i51_6 i51_7 (by omega) (by omega)).mv (hS170.1 43 (by decide)) (hS170.2 88 (by decide)), (by
                            unfold PB
                            have e302 : S170.1 54 41 = S51h.1 54 41 := hS170.1 41 (by decide)
                            have e303 : S51h.1 54 41 = S18.1 54 41 := hS51h.1 41 (by decide)
                            have e304 : S18.1 54 41 = S12.1 54 41 := hS18.1 41 (by decide)
                            have e305 : S12.1 54 41 = S7.1 54 41 := hS12.1 41 (by decide)
                            have e306 : S7.1 54 41 = S2.1 54 41 := hS7.1 41 (by decide)
                            have e307 : S2.1 54 41 = S.1 54 41 := hS2.1 41 (by decide)
                            have e308 : S170.1 54 56 = S51h.1 54 56 := hS170.1 56 (by decide)
                            have e309 : S170.1 54 51 = S51h.1 54 51 := hS170.1 51 (by decide)
                            first
                            | exact Or.inl (by omega)
                            | exact (Classical.em (-1 ≤ S170.1 54 59)).elim (fun hb => Or.inl hb) (fun hb => Or.inr ⟨by omega, by omega, by omega⟩)), (by
                            unfold P1
                            have e310 : S170.1 54 43 = S51h.1 54 43 := hS170.1 43 (by decide)
                            first | exact Or.inr (Or.inl (by omega)) | exact Or.inl (by omega)), by omega⟩, show (2 * (3020 - r170) + min 1 (max 0 (-1 - (S170.1 54 59)))).toNat < (2 * (3020 - v51_1) + min 1 (max 0 (-1 - (S51h.1 54 59)))).toNat by omega⟩
                    · unfold wX11_parse_195
                      unfold wX11_parse_297
                      have e311 : S170.1 54 43 = S51h.1 54 43 := hS170.1 43 (by decide)
                      exact ⟨⟨(Ch.wk (Ch.tr hS51h hS170) (by decide) (by decide)), by omega, by omega, by omega, by omega, by omega, (PA.mv3 i51_5 ((hS170).1 51 (by decide)) ((hS170).2 92 (by decide)) ((hS170).2 93 (by decide)) ((hS170).2 94 (by decide)) ((hS170).2 95 (by decide))), (PR.mv i51_6 ((hS170).1 43 (by decide)) ((hS170).1 51 (by decide)) ((hS170).2 86 (by decide)) ((hS170).2 87 (by decide)) ((hS170).2 88 (by decide)) ((hS170).2 90 (by decide)) ((hS170).2 91 (by decide))), (PO.mv i51_7 ((hS170).1 43 (by decide)) ((hS170).2 88 (by decide))), (PE_up i51_6 i51_7 (by omega) (by omega)).mv (hS170.1 43 (by decide)) (hS170.2 88 (by decide)), (by
                            unfold PB
                            have e312 : S170.1 54 41 = S51h.1 54 41 := hS170.1 41 (by decide)
                            have e313 : S51h.1 54 41 = S18.1 54 41 := hS51h.1 41 (by decide)
                            have e314 : S18.1 54 41 = S12.1 54 41 := hS18.1 41 (by decide)
                            have e315 : S12.1 54 41 = S7.1 54 41 := hS12.1 41 (by decide)
                            have e316 : S7.1 54 41 = S2.1 54 41 := hS7.1 41 (by decide)
                            have e317 : S2.1 54 41 = S.1 54 41 := hS2.1 41 (by decide)
                            have e318 : S170.1 54 56 = S51h.1 54 56 := hS170.1 56 (by decide)
                            have e319 : S170.1 54 51 = S51h.1 54 51 := hS170.1 51 (by decide)
                            first
                            | exact Or.inl (by omega)
                            | exact (Classical.em (-1 ≤ S170.1 54 59)).elim (fun hb => Or.inl hb) (fun hb => Or.inr ⟨by omega, by omega, by omega⟩)), (by
                            unfold P1
                            have e320 : S170.1 54 43 = S51h.1 54 43 := hS170.1 43 (by decide)
                            first | exact Or.inr (Or.inl (by omega)) | exact Or.inl (by omega)), by omega⟩, show (2 * (3020 - r170) + min 1 (max 0 (-1 - (S170.1 54 59)))).toNat < (2 * (3020 - v51_1) + min 1 (max 0 (-1 - (S51h.1 54 59)))).toNat by omega⟩
              · refine ⟨by omega, ?_⟩
                refine tX11_keep (by omega) (by omega) (fun r145 S145 hS145 n145_0 => ?_)
                unfold wX11_parse_297
                have e321 : S145.1 54 43 = S51h.1 54 43 := hS145.1 43 (by decide)
                have e322 : S145.1 54 59 = S51h.1 54 59 := hS145.1 59 (by decide)
                exact ⟨⟨(Ch.wk (Ch.tr hS51h hS145) (by decide) (by decide)), by omega, by omega, by omega, by omega, by omega, (PA.mv3 i51_5 ((hS145).1 51 (by decide)) ((hS145).2 92 (by decide)) ((hS145).2 93 (by decide)) ((hS145).2 94 (by decide)) ((hS145).2 95 (by decide))), (PR.mv i51_6 ((hS145).1 43 (by decide)) ((hS145).1 51 (by decide)) ((hS145).2 86 (by decide)) ((hS145).2 87 (by decide)) ((hS145).2 88 (by decide)) ((hS145).2 90 (by decide)) ((hS145).2 91 (by decide))), (PO.mv i51_7 ((hS145).1 43 (by decide)) ((hS145).2 88 (by decide))), (PE.mv i51_8 ((hS145).1 43 (by decide)) ((hS145).2 88 (by decide))), (by
                      unfold PB
                      have e323 : S145.1 54 59 = S51h.1 54 59 := hS145.1 59 (by decide)
                      have e324 : S145.1 54 41 = S51h.1 54 41 := hS145.1 41 (by decide)
                      have e325 : S51h.1 54 41 = S18.1 54 41 := hS51h.1 41 (by decide)
                      have e326 : S18.1 54 41 = S12.1 54 41 := hS18.1 41 (by decide)
                      have e327 : S12.1 54 41 = S7.1 54 41 := hS12.1 41 (by decide)
                      have e328 : S7.1 54 41 = S2.1 54 41 := hS7.1 41 (by decide)
                      have e329 : S2.1 54 41 = S.1 54 41 := hS2.1 41 (by decide)
                      have e330 : S145.1 54 51 = S51h.1 54 51 := hS145.1 51 (by decide)
                      first
                      | exact Or.inl (by omega)
                      | exact (Classical.em (-1 ≤ S145.1 54 59)).elim (fun hb => Or.inl hb) (fun hb => Or.inr ⟨by omega, by omega, by omega⟩)), (by
                      unfold P1
                      have e331 : S145.1 54 43 = S51h.1 54 43 := hS145.1 43 (by decide)
                      have e332 : S145.1 54 59 = S51h.1 54 59 := hS145.1 59 (by decide)
                      first | exact Or.inr (Or.inl (by omega)) | exact Or.inl (by omega)), by omega⟩, show (2 * (3020 - ((v51_1 + 1))) + min 1 (max 0 (-1 - (S145.1 54 59)))).toNat < (2 * (3020 - v51_1) + min 1 (max 0 (-1 - (S51h.1 54 59)))).toNat by omega⟩
            · refine ⟨by omega, ?_⟩
              refine ⟨by omega, ?_⟩
              have e333 : S51h.1 54 41 = S18.1 54 41 := hS51h.1 41 (by decide)
              have e334 : S18.1 54 41 = S12.1 54 41 := hS18.1 41 (by decide)
              have e335 : S12.1 54 41 = S7.1 54 41 := hS12.1 41 (by decide)
              have e336 : S7.1 54 41 = S2.1 54 41 := hS7.1 41 (by decide)
              have e337 : S2.1 54 41 = S.1 54 41 := hS2.1 41 (by decide)
              have e338 : S51h.1 54 41 = S18.1 54 41 := hS51h.1 41 (by decide)
              have e339 : S18.1 54 41 = S12.1 54 41 := hS18.1 41 (by decide)
              have e340 : S12.1 54 41 = S7.1 54 41 := hS12.1 41 (by decide)
              have e341 : S7.1 54 41 = S2.1 54 41 := hS7.1 41 (by decide)
              have e342 : S2.1 54 41 = S.1 54 41 := hS2.1 41 (by decide)
              have e343 : S51h.1 54 41 = S18.1 54 41 := hS51h.1 41 (by decide)
              have e344 : S18.1 54 41 = S12.1 54 41 := hS18.1 41 (by decide)
              have e345 : S12.1 54 41 = S7.1 54 41 := hS12.1 41 (by decide)
              have e346 : S7.1 54 41 = S2.1 54 41 := hS7.1 41 (by decide)
              have e347 : S2.1 54 41 = S.1 54 41 := hS2.1 41 (by decide)
              refine tX11_reference (by omega) (by omega) (by omega) (by omega) (by omega) (fun r127 S127 hS127 n127_0 n127_1 n127_2 n127_3 => ?_)
              unfold wX11_parse_297
              have e348 : S127.1 54 43 = S51h.1 54 43 := hS127.1 43 (by decide)
              exact ⟨⟨(Ch.wk (Ch.tr hS51h hS127) (by decide) (by decide)), by omega, by omega, by omega, by omega, by omega, (PA.mv3 i51_5 ((hS127).1 51 (by decide)) ((hS127).2 92 (by decide)) ((hS127).2 93 (by decide)) ((hS127).2 94 (by decide)) ((hS127).2 95 (by decide))), (PR.mv i51_6 ((hS127).1 43 (by decide)) ((hS127).1 51 (by decide)) ((hS127).2 86 (by decide)) ((hS127).2 87 (by decide)) ((hS127).2 88 (by decide)) ((hS127).2 90 (by decide)) ((hS127).2 91 (by decide))), (PO.mv i51_7 ((hS127).1 43 (by decide)) ((hS127).2 88 (by decide))), (PE.mv i51_8 ((hS127).1 43 (by decide)) ((hS127).2 88 (by decide))), (by
                    unfold PB
                    have e349 : S127.1 54 41 = S51h.1 54 41 := hS127.1 41 (by decide)
                    have e350 : S51h.1 54 41 = S18.1 54 41 := hS51h.1 41 (by decide)
                    have e351 : S18.1 54 41 = S12.1 54 41 := hS18.1 41 (by decide)
                    have e352 : S12.1 54 41 = S7.1 54 41 := hS12.1 41 (by decide)
                    have e353 : S7.1 54 41 = S2.1 54 41 := hS7.1 41 (by decide)
                    have e354 : S2.1 54 41 = S.1 54 41 := hS2.1 41 (by decide)
                    have e355 : S127.1 54 51 = S51h.1 54 51 := hS127.1 51 (by decide)
                    first
                    | exact Or.inl (by omega)
                    | exact (Classical.em (-1 ≤ S127.1 54 59)).elim (fun hb => Or.inl hb) (fun hb => Or.inr ⟨by omega, by omega, by omega⟩)), (by
                    unfold P1
                    have e356 : S127.1 54 43 = S51h.1 54 43 := hS127.1 43 (by decide)
                    first | exact Or.inr (Or.inl (by omega)) | exact Or.inl (by omega)), by omega⟩, show (2 * (3020 - r127) + min 1 (max 0 (-1 - (S127.1 54 59)))).toNat < (2 * (3020 - v51_1) + min 1 (max 0 (-1 - (S51h.1 54 59)))).toNat by omega⟩
          · refine ⟨by omega, ?_⟩
            refine tX11_fail (by omega) (fun r111 S111 hS111 n111_0 => ?_)
            unfold wX11_parse_297
            have e357 : S111.1 54 43 = S51h.1 54 43 := hS111.1 43 (by decide)
            exact ⟨⟨(Ch.wk (Ch.tr hS51h hS111) (by decide) (by decide)), by omega, by omega, by omega, by omega, by omega, (PA.mv3 i51_5 ((hS111).1 51 (by decide)) ((hS111).2 92 (by decide)) ((hS111).2 93 (by decide)) ((hS111).2 94 (by decide)) ((hS111).2 95 (by decide))), (PR.mv i51_6 ((hS111).1 43 (by decide)) ((hS111).1 51 (by decide)) ((hS111).2 86 (by decide)) ((hS111).2 87 (by decide)) ((hS111).2 88 (by decide)) ((hS111).2 90 (by decide)) ((hS111).2 91 (by decide))), (PO.mv i51_7 ((hS111).1 43 (by decide)) ((hS111).2 88 (by decide))), (PE.mv i51_8 ((hS111).1 43 (by decide)) ((hS111).2 88 (by decide))), (by
                  unfold PB
                  have e358 : S111.1 54 41 = S51h.1 54 41 := hS111.1 41 (by decide)
                  have e359 : S51h.1 54 41 = S18.1 54 41 := hS51h.1 41 (by decide)
                  have e360 : S18.1 54 41 = S12.1 54 41 := hS18.1 41 (by decide)
                  have e361 : S12.1 54 41 = S7.1 54 41 := hS12.1 41 (by decide)
                  have e362 : S7.1 54 41 = S2.1 54 41 := hS7.1 41 (by decide)
                  have e363 : S2.1 54 41 = S.1 54 41 := hS2.1 41 (by decide)
                  have e364 : S111.1 54 56 = S51h.1 54 56 := hS111.1 56 (by decide)
                  have e365 : S111.1 54 51 = S51h.1 54 51 := hS111.1 51 (by decide)
                  first
                  | exact Or.inl (by omega)
                  | exact (Classical.em (-1 ≤ S111.1 54 59)).elim (fun hb => Or.inl hb) (fun hb => Or.inr ⟨by omega, by omega, by omega⟩)), (by
                  unfold P1
                  have e366 : S111.1 54 43 = S51h.1 54 43 := hS111.1 43 (by decide)
                  first | exact Or.inr (Or.inl (by omega)) | exact Or.inl (by omega)), by omega⟩, show (2 * (3020 - v51_1) + min 1 (max 0 (-1 - (S111.1 54 59)))).toNat < (2 * (3020 - v51_1) + min 1 (max 0 (-1 - (S51h.1 54 59)))).toNat by omega⟩
        · intro q367
          refine ⟨fun h94 => ?_, fun h94 => ?_⟩
          · unfold wX11_parse_102
            refine ⟨by omega, ?_⟩
            refine ⟨fun h106 => ?_, fun h106 => ?_⟩
            · refine ⟨fun h121 => ?_, fun h121 => ?_⟩
              · refine ⟨fun h138 => ?_, fun h138 => ?_⟩
                · refine ⟨by omega, ?_⟩
                  refine ⟨fun h158 => ?_, fun h158 => ?_⟩
                  · unfold wX11_parse_200
                    refine ⟨by omega, ?_⟩
                    refine ⟨fun h204 => ?_, fun h204 => ?_⟩
                    · unfold wX11_parse_225
                      refine ⟨by omega, ?_⟩
                      refine ⟨fun h227 => ?_, fun h227 => ?_⟩
                      · intro S240 hS240e
                        have hS240 : Ch [60] [] S51h S240 := Ch_I hS240e
                        have hS240v : S240.1 54 60 = 0 := pI_at hS240e
                        refine ⟨by omega, ?_⟩
                        refine ⟨by omega, ?_⟩
                        refine ⟨by omega, ?_⟩
                        have e368 : S240.1 54 41 = S51h.1 54 41 := hS240.1 41 (by decide)
                        have e369 : S51h.1 54 41 = S18.1 54 41 := hS51h.1 41 (by decide)
                        have e370 : S18.1 54 41 = S12.1 54 41 := hS18.1 41 (by decide)
                        have e371 : S12.1 54 41 = S7.1 54 41 := hS12.1 41 (by decide)
                        have e372 : S7.1 54 41 = S2.1 54 41 := hS7.1 41 (by decide)
                        have e373 : S2.1 54 41 = S.1 54 41 := hS2.1 41 (by decide)
                        have e374 : S240.1 54 41 = S51h.1 54 41 := hS240.1 41 (by decide)
                        have e375 : S51h.1 54 41 = S18.1 54 41 := hS51h.1 41 (by decide)
                        have e376 : S18.1 54 41 = S12.1 54 41 := hS18.1 41 (by decide)
                        have e377 : S12.1 54 41 = S7.1 54 41 := hS12.1 41 (by decide)
                        have e378 : S7.1 54 41 = S2.1 54 41 := hS7.1 41 (by decide)
                        have e379 : S2.1 54 41 = S.1 54 41 := hS2.1 41 (by decide)
                        have e380 : S240.1 54 56 = S51h.1 54 56 := hS240.1 56 (by decide)
                        have e381 : S240.1 54 51 = S51h.1 54 51 := hS240.1 51 (by decide)
                        have e382 : S240.1 54 43 = S51h.1 54 43 := hS240.1 43 (by decide)
                        have e383 : S240.1 54 43 = S51h.1 54 43 := hS240.1 43 (by decide)
                        refine tX11_beginTag (by omega) (by omega) (by omega) (by omega) (by omega) (by omega) (PA.mv2 i51_5 ((hS240).1 51 (by decide)) ((hS240).1 56 (by decide)) ((hS240).2 92 (by decide)) ((hS240).2 93 (by decide)) ((hS240).2 94 (by decide)) ((hS240).2 95 (by decide))) (PR.mv i51_6 ((hS240).1 43 (by decide)) ((hS240).1 51 (by decide)) ((hS240).2 86 (by decide)) ((hS240).2 87 (by decide)) ((hS240).2 88 (by decide)) ((hS240).2 90 (by decide)) ((hS240).2 91 (by decide))) (PO.mv i51_7 ((hS240).1 43 (by decide)) ((hS240).2 88 (by decide))) (PE.mv i51_8 ((hS240).1 43 (by decide)) ((hS240).2 88 (by decide))) (by omega) (fun r247 S247 hS247 n247_0 n247_1 n247_2 n247_3 n247_4 n247_5 n247_6 n247_7 => ?_)
                        have hbr : (S247.1 54 43 = S240.1 54 43 + 1 ∧ S247.2 88 (S240.1 54 43) = v51_2) ∨ S247.1 54 43 = S240.1 54 43 := by
                          rcases n247_5 with h | h
                          · exact Or.inl h
                          · exact Or.inr h.1
                        intro q384
                        refine ⟨fun h255 => ?_, fun h255 => ?_⟩
                        · unfold wX11_parse_265
                          intro q385
                          refine ⟨fun h270 => ?_, fun h270 => ?_⟩
                          · unfold wX11_parse_283
                            refine ⟨by omega, ?_⟩
                            refine ⟨fun h287 => ?_, fun h287 => ?_⟩
                            · unfold wX11_parse_295
                              unfold wX11_parse_297
                              exact ⟨⟨(Ch.wk (Ch.tr (Ch.tr hS51h hS240) hS247) (by decide) (by decide)), by omega, by omega, by omega, by omega, by omega, n247_2, n247_3, n247_4, (PE_new (PE.mv i51_8 (hS240.1 43 (by decide)) (hS240.2 88 (by decide))) hbr n247_6), n247_7, (by
                                    unfold P1
                                    first | exact Or.inr (Or.inl (by omega)) | exact Or.inl (by omega)), by omega⟩, show (2 * (3020 - r247) + min 1 (max 0 (-1 - (S247.1 54 59)))).toNat < (2 * (3020 - v51_1) + min 1 (max 0 (-1 - (S51h.1 54 59)))).toNat by omega⟩
                            · unfold wX11_parse_295
                              unfold wX11_parse_297
                              exact ⟨⟨(Ch.wk (Ch.tr (Ch.tr hS51h hS240) hS247) (by decide) (by decide)), by omega, by omega, by omega, by omega, by omega, n247_2, n247_3, n247_4, (PE_new (PE.mv i51_8 (hS240.1 43 (by decide)) (hS240.2 88 (by decide))) hbr n247_6), n247_7, (by
                                    unfold P1
                                    first | exact Or.inr (Or.inl (by omega)) | exact Or.inl (by omega)), by omega⟩, show (2 * (3020 - r247) + min 1 (max 0 (-1 - (S247.1 54 59)))).toNat < (2 * (3020 - v51_1) + min 1 (max 0 (-1 - (S51h.1 54 59)))).toNat by omega⟩
                          · intro q386
                            unfold wX11_parse_283
                            refine ⟨by omega, ?_⟩
                            refine ⟨fun h287 => ?_, fun h287 => ?_⟩
                            · unfold wX11_parse_295
                              unfold wX11_parse_297
                              exact ⟨⟨(Ch.wk (Ch.tr (Ch.tr hS51h hS240) hS247) (by decide) (by decide)), by omega, by omega, by omega, by omega, by omega, n247_2, n247_3, n247_4, (PE_last (by omega)), n247_7, (by
                                    unfold P1
                                    first | exact Or.inr (Or.inl (by omega)) | exact Or.inl (by omega)), by omega⟩, show (2 * (3020 - r247) + min 1 (max 0 (-1 - (S247.1 54 59)))).toNat < (2 * (3020 - v51_1) + min 1 (max 0 (-1 - (S51h.1 54 59)))).toNat by omega⟩
                            · unfold wX11_parse_295
                              unfold wX11_parse_297
                              exact ⟨⟨(Ch.wk (Ch.tr (Ch.tr hS51h hS240) hS247) (by decide) (by decide)), by omega, by omega, by omega, by omega, by omega, n247_2, n247_3, n247_4, (PE_last (by omega)), n247_7, (by
                                    unfold P1
                                    first | exact Or.inr (Or.inl (by omega)) | exact Or.inl (by omega)), by omega⟩, show (2 * (3020 - r247) + min 1 (max 0 (-1 - (S247.1 54 59)))).toNat < (2 * (3020 - v51_1) + min 1 (max 0 (-1 - (S51h.1 54 59)))).toNat by omega⟩
                        · unfold wX11_parse_265
                          intro q387
                          refine ⟨fun h270 => ?_, fun h270 => ?_⟩
                          · unfold wX11_parse_283
                            refine ⟨by omega, ?_⟩
                            refine ⟨fun h287 => ?_, fun h287 => ?_⟩
                            · unfold wX11_parse_295
                              unfold wX11_parse_297
                              exact ⟨⟨(Ch.wk (Ch.tr (Ch.tr hS51h hS240) hS247) (by decide) (by decide)), by omega, by omega, by omega, by omega, by omega, n247_2, n247_3, n247_4, (PE_new (PE.mv i51_8 (hS240.1 43 (by decide)) (hS240.2 88 (by decide))) hbr n247_6), n247_7, (by
                                    unfold P1
                                    first | exact Or.inr (Or.inl (by omega)) | exact Or.inl (by omega)), by omega⟩, show (2 * (3020 - r247) + min 1 (max 0 (-1 - (S247.1 54 59)))).toNat < (2 * (3020 - v51_1) + min 1 (max 0 (-1 - (S51h.1 54 59)))).toNat by omega⟩
                            · unfold wX11_parse_295
                              unfold wX11_parse_297
                              exact ⟨⟨(Ch.wk (Ch.tr (Ch.tr hS51h hS240) hS247) (by decide) (by decide)), by omega, by omega, by omega, by omega, by omega, n247_2, n247_3, n247_4, (PE_new (PE.mv i51_8 (hS240.1 43 (by decide)) (hS240.2 88 (by decide))) hbr n247_6), n247_7, (by
                                    unfold P1
                                    first | exact Or.inr (Or.inl (by omega)) | exact Or.inl (by omega)), by omega⟩, show (2 * (3020 - r247) + min 1 (max 0 (-1 - (S247.1 54 59)))).toNat < (2 * (3020 - v51_1) + min 1 (max 0 (-1 - (S51h.1 54 59)))).toNat by omega⟩
                          · intro q388
                            unfold wX11_parse_283
                            refine ⟨by omega, ?_⟩
                            refine ⟨fun h287 => ?_, fun h287 => ?_⟩
                            · unfold wX11_parse_295
                              unfold wX11_parse_297
                              exact ⟨⟨(Ch.wk (Ch.tr (Ch.tr hS51h hS240) hS247) (by decide) (by decide)), by omega, by omega, by omega, by omega, by omega, n247_2, n247_3, n247_4, (PE_last (by omega)), n247_7, (by
                                    unfold P1
                                    first | exact Or.inr (Or.inl (by omega)) | exact Or.inl (by omega)), by omega⟩, show (2 * (3020 - r247) + min 1 (max 0 (-1 - (S247.1 54 59)))).toNat < (2 * (3020 - v51_1) + min 1 (max 0 (-1 - (S51h.1 54 59)))).toNat by omega⟩
                            · unfold wX11_parse_295
                              unfold wX11_parse_297
                              exact ⟨⟨(Ch.wk (Ch.tr (Ch.tr hS51h hS240) hS247) (by decide) (by decide)), by omega, by omega, by omega, by omega, by omega, n247_2, n247_3, n247_4, (PE_last (by omega)), n247_7, (by
                                    unfold P1
                                    first | exact Or.inr (Or.inl (by omega)) | exact Or.inl (by omega)), by omega⟩, show (2 * (3020 - r247) + min 1 (max 0 (-1 - (S247.1 54 59)))).toNat < (2 * (3020 - v51_1) + min 1 (max 0 (-1 - (S51h.1 54 59)))).toNat by omega⟩
                      · refine ⟨by omega, ?_⟩
                        refine tX11_fail (by omega) (fun r232 S232 hS232 n232_0 => ?_)
                        unfold wX11_parse_297
                        have e389 : S232.1 54 43 = S51h.1 54 43 := hS232.1 43 (by decide)
                        exact ⟨⟨(Ch.wk (Ch.tr hS51h hS232) (by decide) (by decide)), by omega, by omega, by omega, by omega, by omega, (PA.mv3 i51_5 ((hS232).1 51 (by decide)) ((hS232).2 92 (by decide)) ((hS232).2 93 (by decide)) ((hS232).2 94 (by decide)) ((hS232).2 95 (by decide))), (PR.mv i51_6 ((hS232).1 43 (by decide)) ((hS232).1 51 (by decide)) ((hS232).2 86 (by decide)) ((hS232).2 87 (by decide)) ((hS232).2 88 (by decide)) ((hS232).2 90 (by decide)) ((hS232).2 91 (by decide))), (PO.mv i51_7 ((hS232).1 43 (by decide)) ((hS232).2 88 (by decide))), (PE.mv i51_8 ((hS232).1 43 (by decide)) ((hS232).2 88 (by decide))), (by
                              unfold PB
                              have e390 : S232.1 54 41 = S51h.1 54 41 := hS232.1 41 (by decide)
                              have e391 : S51h.1 54 41 = S18.1 54 41 := hS51h.1 41 (by decide)
                              have e392 : S18.1 54 41 = S12.1 54 41 := hS18.1 41 (by decide)
                              have e393 : S12.1 54 41 = S7.1 54 41 := hS12.1 41 (by decide)
                              have e394 : S7.1 54 41 = S2.1 54 41 := hS7.1 41 (by decide)
                              have e395 : S2.1 54 41 = S.1 54 41 := hS2.1 41 (by decide)
                              have e396 : S232.1 54 56 = S51h.1 54 56 := hS232.1 56 (by decide)
                              have e397 : S232.1 54 51 = S51h.1 54 51 := hS232.1 51 (by decide)
                              first
                              | exact Or.inl (by omega)
                              | exact (Classical.em (-1 ≤ S232.1 54 59)).elim (fun hb => Or.inl hb) (fun hb => Or.inr ⟨by omega, by omega, by omega⟩)), (by
                              unfold P1
                              have e398 : S232.1 54 43 = S51h.1 54 43 := hS232.1 43 (by decide)
                              first | exact Or.inr (Or.inl (by omega)) | exact Or.inl (by omega)), by omega⟩, show (2 * (3020 - v51_1) + min 1 (max 0 (-1 - (S232.1 54 59)))).toNat < (2 * (3020 - v51_1) + min 1 (max 0 (-1 - (S51h.1 54 59)))).toNat by omega⟩
                    · refine ⟨by omega, ?_⟩
                      refine ⟨fun h210 => ?_, fun h210 => ?_⟩
                      · unfold wX11_parse_225
                        refine ⟨by omega, ?_⟩
                        refine ⟨fun h227 => ?_, fun h227 => ?_⟩
                        · intro S240 hS240e
                          have hS240 : Ch [60] [] S51h S240 := Ch_I hS240e
                          have hS240v : S240.1 54 60 = 0 := pI_at hS240e
                          refine ⟨by omega, ?_⟩
                          refine ⟨by omega, ?_⟩
                          refine ⟨by omega, ?_⟩
                          have e399 : S240.1 54 41 = S51h.1 54 41 := hS240.1 41 (by decide)
                          have e400 : S51h.1 54 41 = S18.1 54 41 := hS51h.1 41 (by decide)
                          have e401 : S18.1 54 41 = S12.1 54 41 := hS18.1 41 (by decide)
                          have e402 : S12.1 54 41 = S7.1 54 41 := hS12.1 41 (by decide)
                          have e403 : S7.1 54 41 = S2.1 54 41 := hS7.1 41 (by decide)
                          have e404 : S2.1 54 41 = S.1 54 41 := hS2.1 41 (by decide)
                          have e405 : S240.1 54 41 = S51h.1 54 41 := hS240.1 41 (by decide)
                          have e406 : S51h.1 54 41 = S18.1 54 41 := hS51h.1 41 (by decide)
                          have e407 : S18.1 54 41 = S12.1 54 41 := hS18.1 41 (by decide)
                          have e408 : S12.1 54 41 = S7.1 54 41 := hS12.1 41 (by decide)
                          have e409 : S7.1 54 41 = S2.1 54 41 := hS7.1 41 (by decide)
                          have e410 : S2.1 54 41 = S.1 54 41 := hS2.1 41 (by decide)
                          have e411 : S240.1 54 56 = S51h.1 54 56 := hS240.1 56 (by decide)
                          have e412 : S240.1 54 51 = S51h.1 54 51 := hS240.1 51 (by decide)
                          have e413 : S240.1 54 43 = S51h.1 54 43 := hS240.1 43 (by decide)
                          have e414 : S240.1 54 43 = S51h.1 54 43 := hS240.1 43 (by decide)
                          refine tX11_beginTag (by omega) (by omega) (by omega) (by omega) (by omega) (by omega) (PA.mv2 i51_5 ((hS240).1 51 (by decide)) ((hS240).1 56 (by decide)) ((hS240).2 92 (by decide)) ((hS240).2 93 (by decide)) ((hS240).2 94 (by decide)) ((hS240).2 95 (by decide))) (PR.mv i51_6 ((hS240).1 43 (by decide)) ((hS240).1 51 (by decide)) ((hS240).2 86 (by decide)) ((hS240).2 87 (by decide)) ((hS240).2 88 (by decide)) ((hS240).2 90 (by decide)) ((hS240).2 91 (by decide))) (PO.mv i51_7 ((hS240).1 43 (by decide)) ((hS240).2 88 (by decide))) (PE.mv i51_8 ((hS240).1 43 (by decide)) ((hS240).2 88 (by decide))) (by omega) (fun r247 S247 hS247 n247_0 n247_1 n247_2 n247_3 n247_4 n247_5 n247_6 n247_7 => ?_)
                          have hbr : (S247.1 54 43 = S240.1 54 43 + 1 ∧ S247.2 88 (S240.1 54 43) = v51_2) ∨ S247.1 54 43 = S240.1 54 43 := by
                            rcases n247_5 with h | h
                            · exact Or.inl h
                            · exact Or.inr h.1
                          intro q415
                          refine ⟨fun h255 => ?_, fun h255 => ?_⟩
                          · unfold wX11_parse_265
                            intro q416
                            refine ⟨fun h270 => ?_, fun h270 => ?_⟩
                            · unfold wX11_parse_283
                              refine ⟨by omega, ?_⟩
                              refine ⟨fun h287 => ?_, fun h287 => ?_⟩
                              · unfold wX11_parse_295
                                unfold wX11_parse_297
                                exact ⟨⟨(Ch.wk (Ch.tr (Ch.tr hS51h hS240) hS247) (by decide) (by decide)), by omega, by omega, by omega, by omega, by omega, n247_2, n247_3, n247_4, (PE_new (PE.mv i51_8 (hS240.1 43 (by decide)) (hS240.2 88 (by decide))) hbr n247_6), n247_7, (by
                                      unfold P1
                                      first | exact Or.inr (Or.inl (by omega)) | exact Or.inl (by omega)), by omega⟩, show (2 * (3020 - r247) + min 1 (max 0 (-1 - (S247.1 54 59)))).toNat < (2 * (3020 - v51_1) + min 1 (max 0 (-1 - (S51h.1 54 59)))).toNat by omega⟩
                              · unfold wX11_parse_295
                                unfold wX11_parse_297
                                exact ⟨⟨(Ch.wk (Ch.tr (Ch.tr hS51h hS240) hS247) (by decide) (by decide)), by omega, by omega, by omega, by omega, by omega, n247_2, n247_3, n247_4, (PE_new (PE.mv i51_8 (hS240.1 43 (by decide)) (hS240.2 88 (by decide))) hbr n247_6), n247_7, (by
                                      unfold P1
                                      first | exact Or.inr (Or.inl (by omega)) | exact Or.inl (by omega)), by omega⟩, show (2 * (3020 - r247) + min 1 (max 0 (-1 - (S247.1 54 59)))).toNat < (2 * (3020 - v51_1) + min 1 (max 0 (-1 - (S51h.1 54 59)))).toNat by omega⟩
                            · intro q417
                              unfold wX11_parse_283
                              refine ⟨by omega, ?_⟩
                              refine ⟨fun h287 => ?_, fun h287 => ?_⟩
                              · unfold wX11_parse_295
                                unfold wX11_parse_297
                                exact ⟨⟨(Ch.wk (Ch.tr (Ch.tr hS51h hS240) hS247) (by decide) (by decide)), by omega, by omega, by omega, by omega, by omega, n247_2, n247_3, n247_4, (PE_last (by omega)), n247_7, (by
                                      unfold P1
                                      first | exact Or.inr (Or.inl (by omega)) | exact Or.inl (by omega)), by omega⟩, show (2 * (3020 - r247) + min 1 (max 0 (-1 - (S247.1 54 59)))).toNat < (2 * (3020 - v51_1) + min 1 (max 0 (-1 - (S51h.1 54 59)))).toNat by omega⟩
                              · unfold wX11_parse_295
                                unfold wX11_parse_297
                                exact ⟨⟨(Ch.wk (Ch.tr (Ch.tr hS51h hS240) hS247) (by decide) (by decide)), by omega, by omega, by omega, by omega, by omega, n247_2, n247_3, n247_4, (PE_last (by omega)), n247_7, (by
                                      unfold P1
                                      first | exact Or.inr (Or.inl (by omega)) | exact Or.inl (by omega)), by omega⟩, show (2 * (3020 - r247) + min 1 (max 0 (-1 - (S247.1 54 59)))).toNat < (2 * (3020 - v51_1) + min 1 (max 0 (-1 - (S51h.1 54 59)))).toNat by omega⟩
                          · unfold wX11_parse_265
                            intro q418
                            refine ⟨fun h270 => ?_, fun h270 => ?_⟩
                            · unfold wX11_parse_283
                              refine ⟨by omega, ?_⟩
                              refine ⟨fun h287 => ?_, fun h287 => ?_⟩
                              · unfold wX11_parse_295
                                unfold wX11_parse_297
                                exact ⟨⟨(Ch.wk (Ch.tr (Ch.tr hS51h hS240) hS247) (by decide) (by decide)), by omega, by omega, by omega, by omega, by omega, n247_2, n247_3, n247_4, (PE_new (PE.mv i51_8 (hS240.1 43 (by decide)) (hS240.2 88 (by decide))) hbr n247_6), n247_7, (by
                                      unfold P1
                                      first | exact Or.inr (Or.inl (by omega)) | exact Or.inl (by omega)), by omega⟩, show (2 * (3020 - r247) + min 1 (max 0 (-1 - (S247.1 54 59)))).toNat < (2 * (3020 - v51_1) + min 1 (max 0 (-1 - (S51h.1 54 59)))).toNat by omega⟩
                              · unfold wX11_parse_295
                                unfold wX11_parse_297
                                exact ⟨⟨(Ch.wk (Ch.tr (Ch.tr hS51h hS240) hS247) (by decide) (by decide)), by omega, by omega, by omega, by omega, by omega, n247_2, n247_3, n247_4, (PE_new (PE.mv i51_8 (hS240.1 43 (by decide)) (hS240.2 88 (by decide))) hbr n247_6), n247_7, (by
                                      unfold P1
                                      first | exact Or.inr (Or.inl (by omega)) | exact Or.inl (by omega)), by omega⟩, show (2 * (3020 - r247) + min 1 (max 0 (-1 - (S247.1 54 59)))).toNat < (2 * (3020 - v51_1) + min 1 (max 0 (-1 - (S51h.1 54 59)))).toNat by omega⟩
                            · intro q419
                              unfold wX11_parse_283
                              refine ⟨by omega, ?_⟩
                              refine ⟨fun h287 => ?_, fun h287 => ?_⟩
                              · unfold wX11_parse_295
                                unfold wX11_parse_297
                                exact ⟨⟨(Ch.wk (Ch.tr (Ch.tr hS51h hS240) hS247) (by decide) (by decide)), by omega, by omega, by omega, by omega, by omega, n247_2, n247_3, n247_4, (PE_last (by omega)), n247_7, (by
                                      unfold P1
                                      first | exact Or.inr (Or.inl (by omega)) | exact Or.inl (by omega)), by omega⟩, show (2 * (3020 - r247) + min 1 (max 0 (-1 - (S247.1 54 59)))).toNat < (2 * (3020 - v51_1) + min 1 (max 0 (-1 - (S51h.1 54 59)))).toNat by omega⟩
                              · unfold wX11_parse_295
                                unfold wX11_parse_297
                                exact ⟨⟨(Ch.wk (Ch.tr (Ch.tr hS51h hS240) hS247) (by decide) (by decide)), by omega, by omega, by omega, by omega, by omega, n247_2, n247_3, n247_4, (PE_last (by omega)), n247_7, (by
                                      unfold P1
                                      first | exact Or.inr (Or.inl (by omega)) | exact Or.inl (by omega)), by omega⟩, show (2 * (3020 - r247) + min 1 (max 0 (-1 - (S247.1 54 59)))).toNat < (2 * (3020 - v51_1) + min 1 (max 0 (-1 - (S51h.1 54 59)))).toNat by omega⟩
                        · refine ⟨by omega, ?_⟩
                          refine tX11_fail (by omega) (fun r232 S232 hS232 n232_0 => ?_)
                          unfold wX11_parse_297
                          have e420 : S232.1 54 43 = S51h.1 54 43 := hS232.1 43 (by decide)
                          exact ⟨⟨(Ch.wk (Ch.tr hS51h hS232) (by decide) (by decide)), by omega, by omega, by omega, by omega, by omega, (PA.mv3 i51_5 ((hS232).1 51 (by decide)) ((hS232).2 92 (by decide)) ((hS232).2 93 (by decide)) ((hS232).2 94 (by decide)) ((hS232).2 95 (by decide))), (PR.mv i51_6 ((hS232).1 43 (by decide)) ((hS232).1 51 (by decide)) ((hS232).2 86 (by decide)) ((hS232).2 87 (by decide)) ((hS232).2 88 (by decide)) ((hS232).2 90 (by decide)) ((hS232).2 91 (by decide))), (PO.mv i51_7 ((hS232).1 43 (by decide)) ((hS232).2 88 (by decide))), (PE.mv i51_8 ((hS232).1 43 (by decide)) ((hS232).2 88 (by decide))), (by
                                unfold PB
                                have e421 : S232.1 54 41 = S51h.1 54 41 := hS232.1 41 (by decide)
                                have e422 : S51h.1 54 41 = S18.1 54 41 := hS51h.1 41 (by decide)
                                have e423 : S18.1 54 41 = S12.1 54 41 := hS18.1 41 (by decide)
                                have e424 : S12.1 54 41 = S7.1 54 41 := hS12.1 41 (by decide)
                                have e425 : S7.1 54 41 = S2.1 54 41 := hS7.1 41 (by decide)
                                have e426 : S2.1 54 41 = S.1 54 41 := hS2.1 41 (by decide)
                                have e427 : S232.1 54 56 = S51h.1 54 56 := hS232.1 56 (by decide)
                                have e428 : S232.1 54 51 = S51h.1 54 51 := hS232.1 51 (by decide)
                                first
                                | exact Or.inl (by omega)
                                | exact (Classical.em (-1 ≤ S232.1 54 59)).elim (fun hb => Or.inl hb) (fun hb => Or.inr ⟨by omega, by omega, by omega⟩)), (by
                                unfold P1
                                have e429 : S232.1 54 43 = S51h.1 54 43 := hS232.1 43 (by decide)
                                first | exact Or.inr (Or.inl (by omega)) | exact Or.inl (by omega)), by omega⟩, show (2 * (3020 - v51_1) + min 1 (max 0 (-1 - (S232.1 54 59)))).toNat < (2 * (3020 - v51_1) + min 1 (max 0 (-1 - (S51h.1 54 59)))).toNat by omega⟩
                      · refine ⟨by omega, ?_⟩
                        refine ⟨by omega, ?_⟩
                        have e430 : S51h.1 54 41 = S18.1 54 41 := hS51h.1 41 (by decide)
                        have e431 : S18.1 54 41 = S12.1 54 41 := hS18.1 41 (by decide)
                        have e432 : S12.1 54 41 = S7.1 54 41 := hS12.1 41 (by decide)
                        have e433 : S7.1 54 41 = S2.1 54 41 := hS7.1 41 (by decide)
                        have e434 : S2.1 54 41 = S.1 54 41 := hS2.1 41 (by decide)
                        have e435 : S51h.1 54 41 = S18.1 54 41 := hS51h.1 41 (by decide)
                        have e436 : S18.1 54 41 = S12.1 54 41 := hS18.1 41 (by decide)
                        have e437 : S12.1 54 41 = S7.1 54 41 := hS12.1 41 (by decide)
                        have e438 : S7.1 54 41 = S2.1 54 41 := hS7.1 41 (by decide)
                        have e439 : S2.1 54 41 = S.1 54 41 := hS2.1 41 (by decide)
                        have e440 : S51h.1 54 41 = S18.1 54 41 := hS51h.1 41 (by decide)
                        have e441 : S18.1 54 41 = S12.1 54 41 := hS18.1 41 (by decide)
                        have e442 : S12.1 54 41 = S7.1 54 41 := hS12.1 41 (by decide)
                        have e443 : S7.1 54 41 = S2.1 54 41 := hS7.1 41 (by decide)
                        have e444 : S2.1 54 41 = S.1 54 41 := hS2.1 41 (by decide)
                        refine tX11_section (by omega) (by omega) (by omega) (by omega) (by omega) (by omega) (fun r218 S218 hS218 n218_0 n218_1 n218_2 n218_3 => ?_)
                        unfold wX11_parse_297
                        have e445 : S218.1 54 43 = S51h.1 54 43 := hS218.1 43 (by decide)
                        exact ⟨⟨(Ch.wk (Ch.tr hS51h hS218) (by decide) (by decide)), by omega, by omega, by omega, by omega, by omega, (PA.mv3 i51_5 ((hS218).1 51 (by decide)) ((hS218).2 92 (by decide)) ((hS218).2 93 (by decide)) ((hS218).2 94 (by decide)) ((hS218).2 95 (by decide))), (PR.mv i51_6 ((hS218).1 43 (by decide)) ((hS218).1 51 (by decide)) ((hS218).2 86 (by decide)) ((hS218).2 87 (by decide)) ((hS218).2 88 (by decide)) ((hS218).2 90 (by decide)) ((hS218).2 91 (by decide))), (PO.mv i51_7 ((hS218).1 43 (by decide)) ((hS218).2 88 (by decide))), (PE.mv i51_8 ((hS218).1 43 (by decide)) ((hS218).2 88 (by decide))), (by
                              unfold PB
                              have e446 : S218.1 54 41 = S51h.1 54 41 := hS218.1 41 (by decide)
                              have e447 : S51h.1 54 41 = S18.1 54 41 := hS51h.1 41 (by decide)
                              have e448 : S18.1 54 41 = S12.1 54 41 := hS18.1 41 (by decide)
                              have e449 : S12.1 54 41 = S7.1 54 41 := hS12.1 41 (by decide)
                              have e450 : S7.1 54 41 = S2.1 54 41 := hS7.1 41 (by decide)
                              have e451 : S2.1 54 41 = S.1 54 41 := hS2.1 41 (by decide)
                              have e452 : S218.1 54 51 = S51h.1 54 51 := hS218.1 51 (by decide)
                              first
                              | exact Or.inl (by omega)
                              | exact (Classical.em (-1 ≤ S218.1 54 59)).elim (fun hb => Or.inl hb) (fun hb => Or.inr ⟨by omega, by omega, by omega⟩)), (by
                              unfold P1
                              have e453 : S218.1 54 43 = S51h.1 54 43 := hS218.1 43 (by decide)
                              first | exact Or.inr (Or.inl (by omega)) | exact Or.inl (by omega)), by omega⟩, show (2 * (3020 - r218) + min 1 (max 0 (-1 - (S218.1 54 59)))).toNat < (2 * (3020 - v51_1) + min 1 (max 0 (-1 - (S51h.1 54 59)))).toNat by omega⟩
                  · refine ⟨by omega, ?_⟩
                    refine ⟨fun h164 => ?_, fun h164 => ?_⟩
                    · unfold wX11_parse_200
                      refine ⟨by omega, ?_⟩
                      refine ⟨fun h204 => ?_, fun h204 => ?_⟩
                      · unfold wX11_parse_225
                        refine ⟨by omega, ?_⟩
                        refine ⟨fun h227 => ?_, fun h227 => ?_⟩
                        · intro S240 hS240e
                          have hS240 : Ch [60] [] S51h S240 := Ch_I hS240e
                          have hS240v : S240.1 54 60 = 0 := pI_at hS240e
                          refine ⟨by omega, ?_⟩
                          refine ⟨by omega, ?_⟩
                          refine ⟨by omega, ?_⟩
                          have e454 : S240.1 54 41 = S51h.1 54 41 := hS240.1 41 (by decide)
                          have e455 : S51h.1 54 41 = S18.1 54 41 := hS51h.1 41 (by decide)
                          have e456 : S18.1 54 41 = S12.1 54 41 := hS18.1 41 (by decide)
                          have e457 : S12.1 54 41 = S7.1 54 41 := hS12.1 41 (by decide)
                          have e458 : S7.1 54 41 = S2.1 54 41 := hS7.1 41 (by decide)
                          have e459 : S2.1 54 41 = S.1 54 41 := hS2.1 41 (by decide)
                          have e460 : S240.1 54 41 = S51h.1 54 41 := hS240.1 41 (by decide)
                          have e461 : S51h.1 54 41 = S18.1 54 41 := hS51h.1 41 (by decide)
                          have e462 : S18.1 54 41 = S12.1 54 41 := hS18.1 41 (by decide)
                          have e463 : S12.1 54 41 = S7.1 54 41 := hS12.1 41 (by decide)
                          have e464 : S7.1 54 41 = S2.1 54 41 := hS7.1 41 (by decide)
                          have e465 : S2.1 54 41 = S.1 54 41 := hS2.1 41 (by decide)
                          have e466 : S240.1 54 56 = S51h.1 54 56 := hS240.1 56 (by decide)
                          have e467 : S240.1 54 51 = S51h.1 54 51 := hS240.1 51 (by decide)
                          have e468 : S240.1 54 43 = S51h.1 54 43 := hS240.1 43 (by decide)
                          have e469 : S240.1 54 43 = S51h.1 54 43 := hS240.1 43 (by decide)
                          refine tX11_beginTag (by omega) (by omega) (by omega) (by omega) (by omega) (by omega) (PA.mv2 i51_5 ((hS240).1 51 (by decide)) ((hS240).1 56 (by decide)) ((hS240).2 92 (by decide)) ((hS240).2 93 (by decide)) ((hS240).2 94 (by decide)) ((hS240).2 95 (by decide))) (PR.mv i51_6 ((hS240).1 43 (by decide)) ((hS240).1 51 (by decide)) ((hS240).2 86 (by decide)) ((hS240).2 87 (by decide)) ((hS240).2 88 (by decide)) ((hS240).2 90 (by decide)) ((hS240).2 91 (by decide))) (PO.mv i51_7 ((hS240).1 43 (by decide)) ((hS240).2 88 (by decide))) (PE.mv i51_8 ((hS240).1 43 (by decide)) ((hS240).2 88 (by decide))) (by omega) (fun r247 S247 hS247 n247_0 n247_1 n247_2 n247_3 n247_4 n247_5 n247_6 n247_7 => ?_)
                          have hbr : (S247.1 54 43 = S240.1 54 43 + 1 ∧ S247.2 88 (S240.1 54 43) = v51_2) ∨ S247.1 54 43 = S240.1 54 43 := by
                            rcases n247_5 with h | h
                            · exact Or.inl h
                            · exact Or.inr h.1
                          intro q470
                          refine ⟨fun h255 => ?_, fun h255 => ?_⟩
                          · unfold wX11_parse_265
                            intro q471
                            refine ⟨fun h270 => ?_, fun h270 => ?_⟩
                            · unfold wX11_parse_283
                              refine ⟨by omega, ?_⟩
                              refine ⟨fun h287 => ?_, fun h287 => ?_⟩
                              · unfold wX11_parse_295
                                unfold wX11_parse_297
                                exact ⟨⟨(Ch.wk (Ch.tr (Ch.tr hS51h hS240) hS247) (by decide) (by decide)), by omega, by omega, by omega, by omega, by omega, n247_2, n247_3, n247_4, (PE_new (PE.mv i51_8 (hS240.1 43 (by decide)) (hS240.2 88 (by decide))) hbr n247_6), n247_7, (by
                                      unfold P1
                                      first | exact Or.inr (Or.inl (by omega)) | exact Or.inl (by omega)), by omega⟩, show (2 * (3020 - r247) + min 1 (max 0 (-1 - (S247.1 54 59)))).toNat < (2 * (3020 - v51_1) + min 1 (max 0 (-1 - (S51h.1 54 59)))).toNat by omega⟩
                              · unfold wX11_parse_295
                                unfold wX11_parse_297
                                exact ⟨⟨(Ch.wk (Ch.tr (Ch.tr hS51h hS240) hS247) (by decide) (by decide)), by omega, by omega, by omega, by omega, by omega, n247_2, n247_3, n247_4, (PE_new (PE.mv i51_8 (hS240.1 43 (by decide)) (hS240.2 88 (by decide))) hbr n247_6), n247_7, (by
                                      unfold P1
                                      first | exact Or.inr (Or.inl (by omega)) | exact Or.inl (by omega)), by omega⟩, show (2 * (3020 - r247) + min 1 (max 0 (-1 - (S247.1 54 59)))).toNat < (2 * (3020 - v51_1) + min 1 (max 0 (-1 - (S51h.1 54 59)))).toNat by omega⟩
                            · intro q472
                              unfold wX11_parse_283
                              refine ⟨by omega, ?_⟩
                              refine ⟨fun h287 => ?_, fun h287 => ?_⟩
                              · unfold wX11_parse_295
                                unfold wX11_parse_297
                                exact ⟨⟨(Ch.wk (Ch.tr (Ch.tr hS51h hS240) hS247) (by decide) (by decide)), by omega, by omega, by omega, by omega, by omega, n247_2, n247_3, n247_4, (PE_last (by omega)), n247_7, (by
                                      unfold P1
                                      first | exact Or.inr (Or.inl (by omega)) | exact Or.inl (by omega)), by omega⟩, show (2 * (3020 - r247) + min 1 (max 0 (-1 - (S247.1 54 59)))).toNat < (2 * (3020 - v51_1) + min 1 (max 0 (-1 - (S51h.1 54 59)))).toNat by omega⟩
                              · unfold wX11_parse_295
                                unfold wX11_parse_297
                                exact ⟨⟨(Ch.wk (Ch.tr (Ch.tr hS51h hS240) hS247) (by decide) (by decide)), by omega, by omega, by omega, by omega, by omega, n247_2, n247_3, n247_4, (PE_last (by omega)), n247_7, (by
                                      unfold P1
                                      first | exact Or.inr (Or.inl (by omega)) | exact Or.inl (by omega)), by omega⟩, show (2 * (3020 - r247) + min 1 (max 0 (-1 - (S247.1 54 59)))).toNat < (2 * (3020 - v51_1) + min 1 (max 0 (-1 - (S51h.1 54 59)))).toNat by omega⟩
                          · unfold wX11_parse_265
                            intro q473
                            refine ⟨fun h270 => ?_, fun h270 => ?_⟩
                            · unfold wX11_parse_283
                              refine ⟨by omega, ?_⟩
                              refine ⟨fun h287 => ?_, fun h287 => ?_⟩
                              · unfold wX11_parse_295
                                unfold wX11_parse_297
                                exact ⟨⟨(Ch.wk (Ch.tr (Ch.tr hS51h hS240) hS247) (by decide) (by decide)), by omega, by omega, by omega, by omega, by omega, n247_2, n247_3, n247_4, (PE_new (PE.mv i51_8 (hS240.1 43 (by decide)) (hS240.2 88 (by decide))) hbr n247_6), n247_7, (by
                                      unfold P1
                                      first | exact Or.inr (Or.inl (by omega)) | exact Or.inl (by omega)), by omega⟩, show (2 * (3020 - r247) + min 1 (max 0 (-1 - (S247.1 54 59)))).toNat < (2 * (3020 - v51_1) + min 1 (max 0 (-1 - (S51h.1 54 59)))).toNat by omega⟩
                              · unfold wX11_parse_295
                                unfold wX11_parse_297
                                exact ⟨⟨(Ch.wk (Ch.tr (Ch.tr hS51h hS240) hS247) (by decide) (by decide)), by omega, by omega, by omega, by omega, by omega, n247_2, n247_3, n247_4, (PE_new (PE.mv i51_8 (hS240.1 43 (by decide)) (hS240.2 88 (by decide))) hbr n247_6), n247_7, (by
                                      unfold P1
                                      first | exact Or.inr (Or.inl (by omega)) | exact Or.inl (by omega)), by omega⟩, show (2 * (3020 - r247) + min 1 (max 0 (-1 - (S247.1 54 59)))).toNat < (2 * (3020 - v51_1) + min 1 (max 0 (-1 - (S51h.1 54 59)))).toNat by omega⟩
                            · intro q474
                              unfold wX11_parse_283
                              refine ⟨by omega, ?_⟩
                              refine ⟨fun h287 => ?_, fun h287 => ?_⟩
                              · unfold wX11_parse_295
                                unfold wX11_parse_297
                                exact ⟨⟨(Ch.wk (Ch.tr (Ch.tr hS51h hS240) hS247) (by decide) (by decide)), by omega, by omega, by omega, by omega, by omega, n247_2, n247_3, n247_4, (PE_last (by omega)), n247_7, (by
                                      unfold P1
                                      first | exact Or.inr (Or.inl (by omega)) | exact Or.inl (by omega)), by omega⟩, show (2 * (3020 - r247) + min 1 (max 0 (-1 - (S247.1 54 59)))).toNat < (2 * (3020 - v51_1) + min 1 (max 0 (-1 - (S51h.1 54 59)))).toNat by omega⟩
                              · unfold wX11_parse_295
                                unfold wX11_parse_297
                                exact ⟨⟨(Ch.wk (Ch.tr (Ch.tr hS51h hS240) hS247) (by decide) (by decide)), by omega, by omega, by omega, by omega, by omega, n247_2, n247_3, n247_4, (PE_last (by omega)), n247_7, (by
                                      unfold P1
                                      first | exact Or.inr (Or.inl (by omega)) | exact Or.inl (by omega)), by omega⟩, show (2 * (3020 - r247) + min 1 (max 0 (-1 - (S247.1 54 59)))).toNat < (2 * (3020 - v51_1) + min 1 (max 0 (-1 - (S51h.1 54 59)))).toNat by omega⟩
                        · refine ⟨by omega, ?_⟩
                          refine tX11_fail (by omega) (fun r232 S232 hS232 n232_0 => ?_)
                          unfold wX11_parse_297
                          have e475 : S232.1 54 43 = S51h.1 54 43 := hS232.1 43 (by decide)
                          exact ⟨⟨(Ch.wk (Ch.tr hS51h hS232) (by decide) (by decide)), by omega, by omega, by omega, by omega, by omega, (PA.mv3 i51_5 ((hS232).1 51 (by decide)) ((hS232).2 92 (by decide)) ((hS232).2 93 (by decide)) ((hS232).2 94 (by decide)) ((hS232).2 95 (by decide))), (PR.mv i51_6 ((hS232).1 43 (by decide)) ((hS232).1 51 (by decide)) ((hS232).2 86 (by decide)) ((hS232).2 87 (by decide)) ((hS232).2 88 (by decide)) ((hS232).2 90 (by decide)) ((hS232).2 91 (by decide))), (PO.mv i51_7 ((hS232).1 43 (by decide)) ((hS232).2 88 (by decide))), (PE.mv i51_8 ((hS232).1 43 (by decide)) ((hS232).2 88 (by decide))), (by
                                unfold PB
                                have e476 : S232.1 54 41 = S51h.1 54 41 := hS232.1 41 (by decide)
                                have e477 : S51h.1 54 41 = S18.1 54 41 := hS51h.1 41 (by decide)
                                have e478 : S18.1 54 41 = S12.1 54 41 := hS18.1 41 (by decide)
                                have e479 : S12.1 54 41 = S7.1 54 41 := hS12.1 41 (by decide)
                                have e480 : S7.1 54 41 = S2.1 54 41 := hS7.1 41 (by decide)
                                have e481 : S2.1 54 41 = S.1 54 41 := hS2.1 41 (by decide)
                                have e482 : S232.1 54 56 = S51h.1 54 56 := hS232.1 56 (by decide)
                                have e483 : S232.1 54 51 = S51h.1 54 51 := hS232.1 51 (by decide)
                                first
                                | exact Or.inl (by omega)
                                | exact (Classical.em (-1 ≤ S232.1 54 59)).elim (fun hb => Or.inl hb) (fun hb => Or.inr ⟨by omega, by omega, by omega⟩)), (by
                                unfold P1
                                have e484 : S232.1 54 43 = S51h.1 54 43 := hS232.1 43 (by decide)
                                first | exact Or.inr (Or.inl (by omega)) | exact Or.inl (by omega)), by omega⟩, show (2 * (3020 - v51_1) + min 1 (max 0 (-1 - (S232.1 54 59)))).toNat < (2 * (3020 - v51_1) + min 1 (max 0 (-1 - (S51h.1 54 59)))).toNat by omega⟩
                      · refine ⟨by omega, ?_⟩
                        refine ⟨fun h210 => ?_, fun h210 => ?_⟩
                        · unfold wX11_parse_225
                          refine ⟨by omega, ?_⟩
                          refine ⟨fun h227 => ?_, fun h227 => ?_⟩
                          · intro S240 hS240e
                            have hS240 : Ch [60] [] S51h S240 := Ch_I hS240e
                            have hS240v : S240.1 54 60 = 0 := pI_at hS240e
                            refine ⟨by omega, ?_⟩
                            refine ⟨by omega, ?_⟩
                            refine ⟨by omega, ?_⟩
                            have e485 : S240.1 54 41 = S51h.1 54 41 := hS240.1 41 (by decide)
                            have e486 : S51h.1 54 41 = S18.1 54 41 := hS51h.1 41 (by decide)
                            have e487 : S18.1 54 41 = S12.1 54 41 := hS18.1 41 (by decide)
                            have e488 : S12.1 54 41 = S7.1 54 41 := hS12.1 41 (by decide)
                            have e489 : S7.1 54 41 = S2.1 54 41 := hS7.1 41 (by decide)
                            have e490 : S2.1 54 41 = S.1 54 41 := hS2.1 41 (by decide)
                            have e491 : S240.1 54 41 = S51h.1 54 41 := hS240.1 41 (by decide)
                            have e492 : S51h.1 54 41 = S18.1 54 41 := hS51h.1 41 (by decide)
                            have e493 : S18.1 54 41 = S12.1 54 41 := hS18.1 41 (by decide)
                            have e494 : S12.1 54 41 = S7.1 54 41 := hS12.1 41 (by decide)
                            have e495 : S7.1 54 41 = S2.1 54 41 := hS7.1 41 (by decide)
                            have e496 : S2.1 54 41 = S.1 54 41 := hS2.1 41 (by decide)
                            have e497 : S240.1 54 56 = S51h.1 54 56 := hS240.1 56 (by decide)
                            have e498 : S240.1 54 51 = S51h.1 54 51 := hS240.1 51 (by decide)
                            have e499 : S240.1 54 43 = S51h.1 54 43 := hS240.1 43 (by decide)
                            have e500 : S240.1 54 43 = S51h.1 54 43 := hS240.1 43 (by decide)
                            refine tX11_beginTag (by omega) (by omega) (by omega) (by omega) (by omega) (by omega) (PA.mv2 i51_5 ((hS240).1 51 (by decide)) ((hS240).1 56 (by decide)) ((hS240).2 92 (by decide)) ((hS240).2 93 (by decide)) ((hS240).2 94 (by decide)) ((hS240).2 95 (by decide))) (PR.mv i51_6 ((hS240).1 43 (by decide)) ((hS240).1 51 (by decide)) ((hS240).2 86 (by decide)) ((hS240).2 87 (by decide)) ((hS240).2 88 (by decide)) ((hS240).2 90 (by decide)) ((hS240).2 91 (by decide))) (PO.mv i51_7 ((hS240).1 43 (by decide)) ((hS240).2 88 (by decide))) (PE.mv i51_8 ((hS240).1 43 (by decide)) ((hS240).2 88 (by decide))) (by omega) (fun r247 S247 hS247 n247_0 n247_1 n247_2 n247_3 n247_4 n247_5 n247_6 n247_7 => ?_)
                            have hbr : (S247.1 54 43 = S240.1 54 43 + 1 ∧ S247.2 88 (S240.1 54 43) = v51_2) ∨ S247.1 54 43 = S240.1 54 43 := by
                              rcases n247_5 with h | h
                              · exact Or.inl h
                              · exact Or.inr h.1
                            intro q501
                            refine ⟨fun h255 => ?_, fun h255 => ?_⟩
                            · unfold wX11_parse_265
                              intro q502
                              refine ⟨fun h270 => ?_, fun h270 => ?_⟩
                              · unfold wX11_parse_283
                                refine ⟨by omega, ?_⟩
                                refine ⟨fun h287 => ?_, fun h287 => ?_⟩
                                · unfold wX11_parse_295
                                  unfold wX11_parse_297
                                  exact ⟨⟨(Ch.wk (Ch.tr (Ch.tr hS51h hS240) hS247) (by decide) (by decide)), by omega, by omega, by omega, by omega, by omega, n247_2, n247_3, n247_4, (PE_new (PE.mv i51_8 (hS240.1 43 (by decide)) (hS240.2 88 (by decide))) hbr n247_6), n247_7, (by
                                        unfold P1
                                        first | exact Or.inr (Or.inl (by omega)) | exact Or.inl (by omega)), by omega⟩, show (2 * (3020 - r247) + min 1 (max 0 (-1 - (S247.1 54 59)))).toNat < (2 * (3020 - v51_1) + min 1 (max 0 (-1 - (S51h.1 54 59)))).toNat by omega⟩
                                · unfold wX11_parse_295
                                  unfold wX11_parse_297
                                  exact ⟨⟨(Ch.wk (Ch.tr (Ch.tr hS51h hS240) hS247) (by decide) (by decide)), by omega, by omega, by omega, by omega, by omega, n247_2, n247_3, n247_4, (PE_new (PE.mv i51_8 (hS240.1 43 (by decide)) (hS240.2 88 (by decide))) hbr n247_6), n247_7, (by
                                        unfold P1
                                        first | exact Or.inr (Or.inl (by omega)) | exact Or.inl (by omega)), by omega⟩, show (2 * (3020 - r247) + min 1 (max 0 (-1 - (S247.1 54 59)))).toNat < (2 * (3020 - v51_1) + min 1 (max 0 (-1 - (S51h.1 54 59)))).toNat by omega⟩
                              · intro q503
                                unfold wX11_parse_283
                                refine ⟨by omega, ?_⟩
                                refine ⟨fun h287 => ?_, fun h287 => ?_⟩
                                · unfold wX11_parse_295
                                  unfold wX11_parse_297
                                  exact ⟨⟨(Ch.wk (Ch.tr (Ch.tr hS51h hS240) hS247) (by decide) (by decide)), by omega, by omega, by omega, by omega, by omega, n247_2, n247_3, n247_4, (PE_last (by omega)), n247_7, (by
                                        unfold P1
                                        first | exact Or.inr (Or.inl (by omega)) | exact Or.inl (by omega)), by omega⟩, show (2 * (3020 - r247) + min 1 (max 0 (-1 - (S247.1 54 59)))).toNat < (2 * (3020 - v51_1) + min 1 (max 0 (-1 - (S51h.1 54 59)))).toNat by omega⟩
                                · unfold wX11_parse_295
                                  unfold wX11_parse_297
                                  exact ⟨⟨(Ch.wk (Ch.tr (Ch.tr hS51h hS240) hS247) (by decide) (by decide)), by omega, by omega, by omega, by omega, by omega, n247_2, n247_3, n247_4, (PE_last (by omega)), n247_7, (by
                                        unfold P1
                                        first | exact Or.inr (Or.inl (by omega)) | exact Or.inl (by omega)), by omega⟩, show (2 * (3020 - r247) + min 1 (max 0 (-1 - (S247.1 54 59)))).toNat < (2 * (3020 - v51_1) + min 1 (max 0 (-1 - (S51h.1 54 59)))).toNat by omega⟩
                            · unfold wX11_parse_265
                              intro q504
                              refine ⟨fun h270 => ?_, fun h270 => ?_⟩
                              · unfold wX11_parse_283
                                refine ⟨by omega, ?_⟩
                                refine ⟨fun h287 => ?_, fun h287 => ?_⟩
                                · unfold wX11_parse_295
                                  unfold wX11_parse_297
                                  exact ⟨⟨(Ch.wk (Ch.tr (Ch.tr hS51h hS240) hS247) (by decide) (by decide)), by omega, by omega, by omega, by omega, by omega, n247_2, n247_3, n247_4, (PE_new (PE.mv i51_8 (hS240.1 43 (by decide)) (hS240.2 88 (by decide))) hbr n247_6), n247_7, (by
                                        unfold P1
                                        first | exact Or.inr (Or.inl (by omega)) | exact Or.inl (by omega)), by omega⟩, show (2 * (3020 - r247) + min 1 (max 0 (-1 - (S247.1 54 59)))).toNat < (2 * (3020 - v51_1) + min 1 (max 0 (-1 - (S51h.1 54 59)))).toNat by omega⟩
                                · unfold wX11_parse_295
                                  unfold wX11_parse_297
                                  exact ⟨⟨(Ch.wk (Ch.tr (Ch.tr hS51h hS240) hS247) (by decide) (by decide)), by omega, by omega, by omega, by omega, by omega, n247_2, n247_3, n247_4, (PE_new (PE.mv i51_8 (hS240.1 43 (by decide)) (hS240.2 88 (by decide))) hbr n247_6), n247_7, (by
                                        unfold P1
                                        first | exact Or.inr (Or.inl (by omega)) | exact Or.inl (by omega)), by omega⟩, show (2 * (3020 - r247) + min 1 (max 0 (-1 - (S247.1 54 59)))).toNat < (2 * (3020 - v51_1) + min 1 (max 0 (-1 - (S51h.1 54 59)))).toNat by omega⟩
                              · intro q505
                                unfold wX11_parse_283
                                refine ⟨by omega, ?_⟩
                                refine ⟨fun h287 => ?_, fun h287 => ?_⟩
                                · unfold wX11_parse_295
                                  unfold wX11_parse_297
                                  exact ⟨⟨(Ch.wk (Ch.tr (Ch.tr hS51h hS240) hS247) (by decide) (by decide)), by omega, by omega, by omega, by omega, by omega, n247_2, n247_3, n247_4, (PE_last (by omega)), n247_7, (by
                                        unfold P1
                                        first | exact Or.inr (Or.inl (by omega)) | exact Or.inl (by omega)), by omega⟩, show (2 * (3020 - r247) + min 1 (max 0 (-1 - (S247.1 54 59)))).toNat < (2 * (3020 - v51_1) + min 1 (max 0 (-1 - (S51h.1 54 59)))).toNat by omega⟩
                                · unfold wX11_parse_295
                                  unfold wX11_parse_297
                                  exact ⟨⟨(Ch.wk (Ch.tr (Ch.tr hS51h hS240) hS247) (by decide) (by decide)), by omega, by omega, by omega, by omega, by omega, n247_2, n247_3, n247_4, (PE_last (by omega)), n247_7, (by
                                        unfold P1
                                        first | exact Or.inr (Or.inl (by omega)) | exact Or.inl (by omega)), by omega⟩, show (2 * (3020 - r247) + min 1 (max 0 (-1 - (S247.1 54 59)))).toNat < (2 * (3020 - v51_1) + min 1 (max 0 (-1 - (S51h.1 54 59)))).toNat by omega⟩
                          · refine ⟨by omega, ?_⟩
                            refine tX11_fail (by omega) (fun r232 S232 hS232 n232_0 => ?_)
                            unfold wX11_parse_297
                            have e506 : S232.1 54 43 = S51h.1 54 43 := hS232.1 43 (by decide)
                            exact ⟨⟨(Ch.wk (Ch.tr hS51h hS232) (by decide) (by decide)), by omega, by omega, by omega, by omega, by omega, (PA.mv3 i51_5 ((hS232).1 51 (by decide)) ((hS232).2 92 (by decide)) ((hS232).2 93 (by decide)) ((hS232).2 94 (by decide)) ((hS232).2 95 (by decide))), (PR.mv i51_6 ((hS232).1 43 (by decide)) ((hS232).1 51 (by decide)) ((hS232).2 86 (by decide)) ((hS232).2 87 (by decide)) ((hS232).2 88 (by decide)) ((hS232).2 90 (by decide)) ((hS232).2 91 (by decide))), (PO.mv i51_7 ((hS232).1 43 (by decide)) ((hS232).2 88 (by decide))), (PE.mv i51_8 ((hS232).1 43 (by decide)) ((hS232).2 88 (by decide))), (by
                                  unfold PB
                                  have e507 : S232.1 54 41 = S51h.1 54 41 := hS232.1 41 (by decide)
                                  have e508 : S51h.1 54 41 = S18.1 54 41 := hS51h.1 41 (by decide)
                                  have e509 : S18.1 54 41 = S12.1 54 41 := hS18.1 41 (by decide)
                                  have e510 : S12.1 54 41 = S7.1 54 41 := hS12.1 41 (by decide)
                                  have e511 : S7.1 54 41 = S2.1 54 41 := hS7.1 41 (by decide)
                                  have e512 : S2.1 54 41 = S.1 54 41 := hS2.1 41 (by decide)
                                  have e513 : S232.1 54 56 = S51h.1 54 56 := hS232.1 56 (by decide)
                                  have e514 : S232.1 54 51 = S51h.1 54 51 := hS232.1 51 (by decide)
                                  first
                                  | exact Or.inl (by omega)
                                  | exact (Classical.em (-1 ≤ S232.1 54 59)).elim (fun hb => Or.inl hb) (fun hb => Or.inr ⟨by omega, by omega, by omega⟩)), (by
                                  unfold P1
                                  have e515 : S232.1 54 43 = S51h.1 54 43 := hS232.1 43 (by decide)
                                  first | exact Or.inr (Or.inl (by omega)) | exact Or.inl (by omega)), by omega⟩, show (2 * (3020 - v51_1) + min 1 (max 0 (-1 - (S232.1 54 59)))).toNat < (2 * (3020 - v51_1) + min 1 (max 0 (-1 - (S51h.1 54 59)))).toNat by omega⟩
                        · refine ⟨by omega, ?_⟩
                          refine ⟨by omega, ?_⟩
                          have e516 : S51h.1 54 41 = S18.1 54 41 := hS51h.1 41 (by decide)
                          have e517 : S18.1 54 41 = S12.1 54 41 := hS18.1 41 (by decide)
                          have e518 : S12.1 54 41 = S7.1 54 41 := hS12.1 41 (by decide)
                          have e519 : S7.1 54 41 = S2.1 54 41 := hS7.1 41 (by decide)
                          have e520 : S2.1 54 41 = S.1 54 41 := hS2.1 41 (by decide)
                          have e521 : S51h.1 54 41 = S18.1 54 41 := hS51h.1 41 (by decide)
                          have e522 : S18.1 54 41 = S12.1 54 41 := hS18.1 41 (by decide)
                          have e523 : S12.1 54 41 = S7.1 54 41 := hS12.1 41 (by decide)
                          have e524 : S7.1 54 41 = S2.1 54 41 := hS7.1 41 (by decide)
                          have e525 : S2.1 54 41 = S.1 54 41 := hS2.1 41 (by decide)
                          have e526 : S51h.1 54 41 = S18.1 54 41 := hS51h.1 41 (by decide)
                          have e527 : S18.1 54 41 = S12.1 54 41 := hS18.1 41 (by decide)
                          have e528 : S12.1 54 41 = S7.1 54 41 := hS12.1 41 (by decide)
                          have e529 : S7.1 54 41 = S2.1 54 41 := hS7.1 41 (by decide)
                          have e530 : S2.1 54 41 = S.1 54 41 := hS2.1 41 (by decide)
                          refine tX11_section (by omega) (by omega) (by omega) (by omega) (by omega) (by omega) (fun r218 S218 hS218 n218_0 n218_1 n218_2 n218_3 => ?_)
                          unfold wX11_parse_297
                          have e531 : S218.1 54 43 = S51h.1 54 43 := hS218.1 43 (by decide)
                          exact ⟨⟨(Ch.wk (Ch.tr hS51h hS218) (by decide) (by decide)), by omega, by omega, by omega, by omega, by omega, (PA.mv3 i51_5 ((hS218).1 51 (by decide)) ((hS218).2 92 (by decide)) ((hS218).2 93 (by decide)) ((hS218).2 94 (by decide)) ((hS218).2 95 (by decide))), (PR.mv i51_6 ((hS218).1 43 (by decide)) ((hS218).1 51 (by decide)) ((hS218).2 86 (by decide)) ((hS218).2 87 (by decide)) ((hS218).2 88 (by decide)) ((hS218).2 90 (by decide)) ((hS218).2 91 (by decide))), (PO.mv i51_7 ((hS218).1 43 (by decide)) ((hS218).2 88 (by decide))), (PE.mv i51_8 ((hS218).1 43 (by decide)) ((hS218).2 88 (by decide))), (by
                                unfold PB
                                have e532 : S218.1 54 41 = S51h.1 54 41 := hS218.1 41 (by decide)
                                have e533 : S51h.1 54 41 = S18.1 54 41 := hS51h.1 41 (by decide)
                                have e534 : S18.1 54 41 = S12.1 54 41 := hS18.1 41 (by decide)
                                have e535 : S12.1 54 41 = S7.1 54 41 := hS12.1 41 (by decide)
                                have e536 : S7.1 54 41 = S2.1 54 41 := hS7.1 41 (by decide)
                                have e537 : S2.1 54 41 = S.1 54 41 := hS2.1 41 (by decide)
                                have e538 : S218.1 54 51 = S51h.1 54 51 := hS218.1 51 (by decide)
                                first
                                | exact Or.inl (by omega)
                                | exact (Classical.em (-1 ≤ S218.1 54 59)).elim (fun hb => Or.inl hb) (fun hb => Or.inr ⟨by omega, by omega, by omega⟩)), (by
                                unfold P1
                                have e539 : S218.1 54 43 = S51h.1 54 43 := hS218.1 43 (by decide)
                                first | exact Or.inr (Or.inl (by omega)) | exact Or.inl (by omega)), by omega⟩, show (2 * (3020 - r218) + min 1 (max 0 (-1 - (S218.1 54 59)))).toNat < (2 * (3020 - v51_1) + min 1 (max 0 (-1 - (S51h.1 54 59)))).toNat by omega⟩
                    · have hE2 := hE.2.resolve_left (by omega)
                      have hpr := i51_6.at (x := v51_2) (by omega) (by omega)
                      refine ⟨by omega, ?_⟩
                      have e540 : S51h.1 54 41 = S18.1 54 41 := hS51h.1 41 (by decide)
                      have e541 : S18.1 54 41 = S12.1 54 41 := hS18.1 41 (by decide)
                      have e542 : S12.1 54 41 = S7.1 54 41 := hS12.1 41 (by decide)
                      have e543 : S7.1 54 41 = S2.1 54 41 := hS7.1 41 (by decide)
                      have e544 : S2.1 54 41 = S.1 54 41 := hS2.1 41 (by decide)
                      have e545 : S51h.1 54 41 = S18.1 54 41 := hS51h.1 41 (by decide)
                      have e546 : S18.1 54 41 = S12.1 54 41 := hS18.1 41 (by decide)
                      have e547 : S12.1 54 41 = S7.1 54 41 := hS12.1 41 (by decide)
                      have e548 : S7.1 54 41 = S2.1 54 41 := hS7.1 41 (by decide)
                      have e549 : S2.1 54 41 = S.1 54 41 := hS2.1 41 (by decide)
                      have e550 : S51h.1 54 41 = S18.1 54 41 := hS51h.1 41 (by decide)
                      have e551 : S18.1 54 41 = S12.1 54 41 := hS18.1 41 (by decide)
                      have e552 : S12.1 54 41 = S7.1 54 41 := hS12.1 41 (by decide)
                      have e553 : S7.1 54 41 = S2.1 54 41 := hS7.1 41 (by decide)
                      have e554 : S2.1 54 41 = S.1 54 41 := hS2.1 41 (by decide)
                      refine tX11_endTag (by omega) (by omega) (by omega) (by omega) (by omega) (fun r170 S170 hS170 n170_0 n170_1 n170_2 => ?_)
                      refine ⟨by omega, by omega, ?_⟩
                      intro q555
                      have e556 : S170.2 88 (v51_2) = S51h.2 88 (v51_2) := congrFun (hS170.2 88 (by decide)) _
                      intro x180 hx180
                      subst hx180
                      refine ⟨fun h187 => ?_, fun h187 => ?_⟩
                      · unfold wX11_parse_195
                        unfold wX11_parse_297
                        have e557 : S170.1 54 43 = S51h.1 54 43 := hS170.1 43 (by decide)
                        exact ⟨⟨(Ch.wk (Ch.tr hS51h hS170) (by decide) (by decide)), by omega, by omega, by omega, by omega, by omega, (PA.mv3 i51_5 ((hS170).1 51 (by decide)) ((hS170).2 92 (by decide)) ((hS170).2 93 (by decide)) ((hS170).2 94 (by decide)) ((hS170).2 95 (by decide))), (PR.mv i51_6 ((hS170).1 43 (by decide)) ((hS170).1 51 (by decide)) ((hS170).2 86 (by decide)) ((hS170).2 87 (by decide)) ((hS170).2 88 (by decide)) ((hS170).2 90 (by decide)) ((hS170).2 91 (by decide))), (PO.mv i51_7 ((hS170).1 43 (by decide)) ((hS170).2 88 (by decide))), (PE_up i51_6 i51_7 (by omega) (by omega)).mv (hS170.1 43 (by decide)) (hS170.2 88 (by decide)), (by
                              unfold PB
                              have e558 : S170.1 54 41 = S51h.1 54 41 := hS170.1 41 (by decide)
                              have e559 : S51h.1 54 41 = S18.1 54 41 := hS51h.1 41 (by decide)
                              have e560 : S18.1 54 41 = S12.1 54 41 := hS18.1 41 (by decide)
                              have e561 : S12.1 54 41 = S7.1 54 41 := hS12.1 41 (by decide)
                              have e562 : S7.1 54 41 = S2.1 54 41 := hS7.1 41 (by decide)
                              have e563 : S2.1 54 41 = S.1 54 41 := hS2.1 41 (by decide)
                              have e564 : S170.1 54 56 = S51h.1 54 56 := hS170.1 56 (by decide)
                              have e565 : S170.1 54 51 = S51h.1 54 51 := hS170.1 51 (by decide)
                              first
                              | exact Or.inl (by omega)
                              | exact (Classical.em (-1 ≤ S170.1 54 59)).elim (fun hb => Or.inl hb) (fun hb => Or.inr ⟨by omega, by omega, by omega⟩)), (by
                              unfold P1
                              have e566 : S170.1 54 43 = S51h.1 54 43 := hS170.1 43 (by decide)
                              first | exact Or.inr (Or.inl (by omega)) | exact Or.inl (by omega)), by omega⟩, show (2 * (3020 - r170) + min 1 (max 0 (-1 - (S170.1 54 59)))).toNat < (2 * (3020 - v51_1) + min 1 (max 0 (-1 - (S51h.1 54 59)))).toNat by omega⟩
                      · unfold wX11_parse_195
                        unfold wX11_parse_297
                        have e567 : S170.1 54 43 = S51h.1 54 43 := hS170.1 43 (by decide)
                        exact ⟨⟨(Ch.wk (Ch.tr hS51h hS170) (by decide) (by decide)), by omega, by omega, by omega, by omega, by omega, (PA.mv3 i51_5 ((hS170).1 51 (by decide)) ((hS170).2 92 (by decide)) ((hS170).2 93 (by decide)) ((hS170).2 94 (by decide)) ((hS170).2 95 (by decide))), (PR.mv i51_6 ((hS170).1 43 (by decide)) ((hS170).1 51 (by decide)) ((hS170).2 86 (by decide)) ((hS170).2 87 (by decide)) ((hS170).2 88 (by decide)) ((hS170).2 90 (by decide)) ((hS170).2 91 (by decide))), (PO.mv i51_7 ((hS170).1 43 (by decide)) ((hS170).2 88 (by decide))), (PE_up i51_6 i51_7 (by omega) (by omega)).mv (hS170.1 43 (by decide)) (hS170.2 88 (by decide)), (by
                              unfold PB
                              have e568 : S170.1 54 41 = S51h.1 54 41 := hS170.1 41 (by decide)
                              have e569 : S51h.1 54 41 = S18.1 54 41 := hS51h.1 41 (by decide)
                              have e570 : S18.1 54 41 = S12.1 54 41 := hS18.1 41 (by decide)
                              have e571 : S12.1 54 41 = S7.1 54 41 := hS12.1 41 (by decide)
                              have e572 : S7.1 54 41 = S2.1 54 41 := hS7.1 41 (by decide)
                              have e573 : S2.1 54 41 = S.1 54 41 := hS2.1 41 (by decide)
                              have e574 : S170.1 54 56 = S51h.1 54 56 := hS170.1 56 (by decide)
                              have e575 : S170.1 54 51 = S51h.1 54 51 := hS170.1 51 (by decide)
                              first
                              | exact Or.inl (by omega)
                              | exact (Classical.em (-1 ≤ S170.1 54 59)).elim (fun hb => Or.inl hb) (fun hb => Or.inr ⟨by omega, by omega, by omega⟩)), (by
                              unfold P1
                              have e576 : S170.1 54 43 = S51h.1 54 43 := hS170.1 43 (by decide)
                              first | exact Or.inr (Or.inl (by omega)) | exact Or.inl (by omega)), by omega⟩, show (2 * (3020 - r170) + min 1 (max 0 (-1 - (S170.1 54 59)))).toNat < (2 * (3020 - v51_1) + min 1 (max 0 (-1 - (S51h.1 54 59)))).toNat by omega⟩
                · refine ⟨by omega, ?_⟩
                  refine tX11_keep (by omega) (by omega) (fun r145 S145 hS145 n145_0 => ?_)
                  unfold wX11_parse_297
                  have e577 : S145.1 54 43 = S51h.1 54 43 := hS145.1 43 (by decide)
                  have e578 : S145.1 54 59 = S51h.1 54 59 := hS145.1 59 (by decide)
                  exact ⟨⟨(Ch.wk (Ch.tr hS51h hS145) (by decide) (by decide)), by omega, by omega, by omega, by omega, by omega, (PA.mv3 i51_5 ((hS145).1 51 (by decide)) ((hS145).2 92 (by decide)) ((hS145).2 93 (by decide)) ((hS145).2 94 (by decide)) ((hS145).2 95 (by decide))), (PR.mv i51_6 ((hS145).1 43 (by decide)) ((hS145).1 51 (by decide)) ((hS145).2 86 (by decide)) ((hS145).2 87 (by decide)) ((hS145).2 88 (by decide)) ((hS145).2 90 (by decide)) ((hS145).2 91 (by decide))), (PO.mv i51_7 ((hS145).1 43 (by decide)) ((hS145).2 88 (by decide))), (PE.mv i51_8 ((hS145).1 43 (by decide)) ((hS145).2 88 (by decide))), (by
                        unfold PB
                        have e579 : S145.1 54 59 = S51h.1 54 59 := hS145.1 59 (by decide)
                        have e580 : S145.1 54 41 = S51h.1 54 41 := hS145.1 41 (by decide)
                        have e581 : S51h.1 54 41 = S18.1 54 41 := hS51h.1 41 (by decide)
                        have e582 : S18.1 54 41 = S12.1 54 41 := hS18.1 41 (by decide)
                        have e583 : S12.1 54 41 = S7.1 54 41 := hS12.1 41 (by decide)
                        have e584 : S7.1 54 41 = S2.1 54 41 := hS7.1 41 (by decide)
                        have e585 : S2.1 54 41 = S.1 54 41 := hS2.1 41 (by decide)
                        have e586 : S145.1 54 51 = S51h.1 54 51 := hS145.1 51 (by decide)
                        first
                        | exact Or.inl (by omega)
                        | exact (Classical.em (-1 ≤ S145.1 54 59)).elim (fun hb => Or.inl hb) (fun hb => Or.inr ⟨by omega, by omega, by omega⟩)), (by
                        unfold P1
                        have e587 : S145.1 54 43 = S51h.1 54 43 := hS145.1 43 (by decide)
                        have e588 : S145.1 54 59 = S51h.1 54 59 := hS145.1 59 (by decide)
                        first | exact Or.inr (Or.inl (by omega)) | exact Or.inl (by omega)), by omega⟩, show (2 * (3020 - ((v51_1 + 1))) + min 1 (max 0 (-1 - (S145.1 54 59)))).toNat < (2 * (3020 - v51_1) + min 1 (max 0 (-1 - (S51h.1 54 59)))).toNat by omega⟩
              · refine ⟨by omega, ?_⟩
                refine ⟨by omega, ?_⟩
                have e589 : S51h.1 54 41 = S18.1 54 41 := hS51h.1 41 (by decide)
                have e590 : S18.1 54 41 = S12.1 54 41 := hS18.1 41 (by decide)
                have e591 : S12.1 54 41 = S7.1 54 41 := hS12.1 41 (by decide)
                have e592 : S7.1 54 41 = S2.1 54 41 := hS7.1 41 (by decide)
                have e593 : S2.1 54 41 = S.1 54 41 := hS2.1 41 (by decide)
                have e594 : S51h.1 54 41 = S18.1 54 41 := hS51h.1 41 (by decide)
                have e595 : S18.1 54 41 = S12.1 54 41 := hS18.1 41 (by decide)
                have e596 : S12.1 54 41 = S7.1 54 41 := hS12.1 41 (by decide)
                have e597 : S7.1 54 41 = S2.1 54 41 := hS7.1 41 (by decide)
                have e598 : S2.1 54 41 = S.1 54 41 := hS2.1 41 (by decide)
                have e599 : S51h.1 54 41 = S18.1 54 41 := hS51h.1 41 (by decide)
                have e600 : S18.1 54 41 = S12.1 54 41 := hS18.1 41 (by decide)
                have e601 : S12.1 54 41 = S7.1 54 41 := hS12.1 41 (by decide)
                have e602 : S7.1 54 41 = S2.1 54 41 := hS7.1 41 (by decide)
                have e603 : S2.1 54 41 = S.1 54 41 := hS2.1 41 (by decide)
                refine tX11_reference (by omega) (by omega) (by omega) (by omega) (by omega) (fun r127 S127 hS127 n127_0 n127_1 n127_2 n127_3 => ?_)
                unfold wX11_parse_297
                have e604 : S127.1 54 43 = S51h.1 54 43 := hS127.1 43 (by decide)
                exact ⟨⟨(Ch.wk (Ch.tr hS51h hS127) (by decide) (by decide)), by omega, by omega, by omega, by omega, by omega, (PA.mv3 i51_5 ((hS127).1 51 (by decide)) ((hS127).2 92 (by decide)) ((hS127).2 93 (by decide)) ((hS127).2 94 (by decide)) ((hS127).2 95 (by decide))), (PR.mv i51_6 ((hS127).1 43 (by decide)) ((hS127).1 51 (by decide)) ((hS127).2 86 (by decide)) ((hS127).2 87 (by decide)) ((hS127).2 88 (by decide)) ((hS127).2 90 (by decide)) ((hS127).2 91 (by decide))), (PO.mv i51_7 ((hS127).1 43 (by decide)) ((hS127).2 88 (by decide))), (PE.mv i51_8 ((hS127).1 43 (by decide)) ((hS127).2 88 (by decide))), (by
                      unfold PB
                      have e605 : S127.1 54 41 = S51h.1 54 41 := hS127.1 41 (by decide)
                      have e606 : S51h.1 54 41 = S18.1 54 41 := hS51h.1 41 (by decide)
                      have e607 : S18.1 54 41 = S12.1 54 41 := hS18.1 41 (by decide)
                      have e608 : S12.1 54 41 = S7.1 54 41 := hS12.1 41 (by decide)
                      have e609 : S7.1 54 41 = S2.1 54 41 := hS7.1 41 (by decide)
                      have e610 : S2.1 54 41 = S.1 54 41 := hS2.1 41 (by decide)
                      have e611 : S127.1 54 51 = S51h.1 54 51 := hS127.1 51 (by decide)
                      first
                      | exact Or.inl (by omega)
                      | exact (Classical.em (-1 ≤ S127.1 54 59)).elim (fun hb => Or.inl hb) (fun hb => Or.inr ⟨by omega, by omega, by omega⟩)), (by
                      unfold P1
                      have e612 : S127.1 54 43 = S51h.1 54 43 := hS127.1 43 (by decide)
                      first | exact Or.inr (Or.inl (by omega)) | exact Or.inl (by omega)), by omega⟩, show (2 * (3020 - r127) + min 1 (max 0 (-1 - (S127.1 54 59)))).toNat < (2 * (3020 - v51_1) + min 1 (max 0 (-1 - (S51h.1 54 59)))).toNat by omega⟩
            · refine ⟨by omega, ?_⟩
              refine tX11_fail (by omega) (fun r111 S111 hS111 n111_0 => ?_)
              unfold wX11_parse_297
              have e613 : S111.1 54 43 = S51h.1 54 43 := hS111.1 43 (by decide)
              exact ⟨⟨(Ch.wk (Ch.tr hS51h hS111) (by decide) (by decide)), by omega, by omega, by omega, by omega, by omega, (PA.mv3 i51_5 ((hS111).1 51 (by decide)) ((hS111).2 92 (by decide)) ((hS111).2 93 (by decide)) ((hS111).2 94 (by decide)) ((hS111).2 95 (by decide))), (PR.mv i51_6 ((hS111).1 43 (by decide)) ((hS111).1 51 (by decide)) ((hS111).2 86 (by decide)) ((hS111).2 87 (by decide)) ((hS111).2 88 (by decide)) ((hS111).2 90 (by decide)) ((hS111).2 91 (by decide))), (PO.mv i51_7 ((hS111).1 43 (by decide)) ((hS111).2 88 (by decide))), (PE.mv i51_8 ((hS111).1 43 (by decide)) ((hS111).2 88 (by decide))), (by
                    unfold PB
                    have e614 : S111.1 54 41 = S51h.1 54 41 := hS111.1 41 (by decide)
                    have e615 : S51h.1 54 41 = S18.1 54 41 := hS51h.1 41 (by decide)
                    have e616 : S18.1 54 41 = S12.1 54 41 := hS18.1 41 (by decide)
                    have e617 : S12.1 54 41 = S7.1 54 41 := hS12.1 41 (by decide)
                    have e618 : S7.1 54 41 = S2.1 54 41 := hS7.1 41 (by decide)
                    have e619 : S2.1 54 41 = S.1 54 41 := hS2.1 41 (by decide)
                    have e620 : S111.1 54 56 = S51h.1 54 56 := hS111.1 56 (by decide)
                    have e621 : S111.1 54 51 = S51h.1 54 51 := hS111.1 51 (by decide)
                    first
                    | exact Or.inl (by omega)
                    | exact (Classical.em (-1 ≤ S111.1 54 59)).elim (fun hb => Or.inl hb) (fun hb => Or.inr ⟨by omega, by omega, by omega⟩)), (by
                    unfold P1
                    have e622 : S111.1 54 43 = S51h.1 54 43 := hS111.1 43 (by decide)
                    first | exact Or.inr (Or.inl (by omega)) | exact Or.inl (by omega)), by omega⟩, show (2 * (3020 - v51_1) + min 1 (max 0 (-1 - (S111.1 54 59)))).toNat < (2 * (3020 - v51_1) + min 1 (max 0 (-1 - (S51h.1 54 59)))).toNat by omega⟩
          · unfold wX11_parse_97
            unfold wX11_parse_102
            refine ⟨by omega, ?_⟩
            refine ⟨fun h106 => ?_, fun h106 => ?_⟩
            · refine ⟨fun h121 => ?_, fun h121 => ?_⟩
              · refine ⟨fun h138 => ?_, fun h138 => ?_⟩
                · refine ⟨by omega, ?_⟩
                  refine ⟨fun h158 => ?_, fun h158 => ?_⟩
                  · unfold wX11_parse_200
                    refine ⟨by omega, ?_⟩
                    refine ⟨fun h204 => ?_, fun h204 => ?_⟩
                    · unfold wX11_parse_225
                      refine ⟨by omega, ?_⟩
                      refine ⟨fun h227 => ?_, fun h227 => ?_⟩
                      · intro S240 hS240e
                        have hS240 : Ch [60] [] S51h S240 := Ch_I hS240e
                        have hS240v : S240.1 54 60 = 0 := pI_at hS240e
                        refine ⟨by omega, ?_⟩
                        refine ⟨by omega, ?_⟩
                        refine ⟨by omega, ?_⟩
                        have e623 : S240.1 54 41 = S51h.1 54 41 := hS240.1 41 (by decide)
                        have e624 : S51h.1 54 41 = S18.1 54 41 := hS51h.1 41 (by decide)
                        have e625 : S18.1 54 41 = S12.1 54 41 := hS18.1 41 (by decide)
                        have e626 : S12.1 54 41 = S7.1 54 41 := hS12.1 41 (by decide)
                        have e627 : S7.1 54 41 = S2.1 54 41 := hS7.1 41 (by decide)
                        have e628 : S2.1 54 41 = S.1 54 41 := hS2.1 41 (by decide)
                        have e629 : S240.1 54 41 = S51h.1 54 41 := hS240.1 41 (by decide)
                        have e630 : S51h.1 54 41 = S18.1 54 41 := hS51h.1 41 (by decide)
                        have e631 : S18.1 54 41 = S12.1 54 41 := hS18.1 41 (by decide)
                        have e632 : S12.1 54 41 = S7.1 54 41 := hS12.1 41 (by decide)
                        have e633 : S7.1 54 41 = S2.1 54 41 := hS7.1 41 (by decide)
                        have e634 : S2.1 54 41 = S.1 54 41 := hS2.1 41 (by decide)
                        have e635 : S240.1 54 56 = S51h.1 54 56 := hS240.1 56 (by decide)
                        have e636 : S240.1 54 51 = S51h.1 54 51 := hS240.1 51 (by decide)
                        have e637 : S240.1 54 43 = S51h.1 54 43 := hS240.1 43 (by decide)
                        have e638 : S240.1 54 43 = S51h.1 54 43 := hS240.1 43 (by decide)
                        refine tX11_beginTag (by omega) (by omega) (by omega) (by omega) (by omega) (by omega) (PA.mv2 i51_5 ((hS240).1 51 (by decide)) ((hS240).1 56 (by decide)) ((hS240).2 92 (by decide)) ((hS240).2 93 (by decide)) ((hS240).2 94 (by decide)) ((hS240).2 95 (by decide))) (PR.mv i51_6 ((hS240).1 43 (by decide)) ((hS240).1 51 (by decide)) ((hS240).2 86 (by decide)) ((hS240).2 87 (by decide)) ((hS240).2 88 (by decide)) ((hS240).2 90 (by decide)) ((hS240).2 91 (by decide))) (PO.mv i51_7 ((hS240).1 43 (by decide)) ((hS240).2 88 (by decide))) (PE.mv i51_8 ((hS240).1 43 (by decide)) ((hS240).2 88 (by decide))) (by omega) (fun r247 S247 hS247 n247_0 n247_1 n247_2 n247_3 n247_4 n247_5 n247_6 n247_7 => ?_)
                        have hbr : (S247.1 54 43 = S240.1 54 43 + 1 ∧ S247.2 88 (S240.1 54 43) = v51_2) ∨ S247.1 54 43 = S240.1 54 43 := by
                          rcases n247_5 with h | h
                          · exact Or.inl h
                          · exact Or.inr h.1
                        intro q639
                        refine ⟨fun h255 => ?_, fun h255 => ?_⟩
                        · unfold wX11_parse_265
                          intro q640
                          refine ⟨fun h270 => ?_, fun h270 => ?_⟩
                          · unfold wX11_parse_283
                            refine ⟨by omega, ?_⟩
                            refine ⟨fun h287 => ?_, fun h287 => ?_⟩
                            · unfold wX11_parse_295
                              unfold wX11_parse_297
                              exact ⟨⟨(Ch.wk (Ch.tr (Ch.tr hS51h hS240) hS247) (by decide) (by decide)), by omega, by omega, by omega, by omega, by omega, n247_2, n247_3, n247_4, (PE_new (PE.mv i51_8 (hS240.1 43 (by decide)) (hS240.2 88 (by decide))) hbr n247_6), n247_7, (by
                                    unfold P1
                                    first | exact Or.inr (Or.inl (by omega)) | exact Or.inl (by omega)), by omega⟩, show (2 * (3020 - r247) + min 1 (max 0 (-1 - (S247.1 54 59)))).toNat < (2 * (3020 - v51_1) + min 1 (max 0 (-1 - (S51h.1 54 59)))).toNat by omega⟩
                            · unfold wX11_parse_295
                              unfold wX11_parse_297
                              exact ⟨⟨(Ch.wk (Ch.tr (Ch.tr hS51h hS240) hS247) (by decide) (by decide)), by omega, by omega, by omega, by omega, by omega, n247_2, n247_3, n247_4, (PE_new (PE.mv i51_8 (hS240.1 43 (by decide)) (hS240.2 88 (by decide))) hbr n247_6), n247_7, (by
                                    unfold P1
                                    first | exact Or.inr (Or.inl (by omega)) | exact Or.inl (by omega)), by omega⟩, show (2 * (3020 - r247) + min 1 (max 0 (-1 - (S247.1 54 59)))).toNat < (2 * (3020 - v51_1) + min 1 (max 0 (-1 - (S51h.1 54 59)))).toNat by omega⟩
                          · intro q641
                            unfold wX11_parse_283
                            refine ⟨by omega, ?_⟩
                            refine ⟨fun h287 => ?_, fun h287 => ?_⟩
                            · unfold wX11_parse_295
                              unfold wX11_parse_297
                              exact ⟨⟨(Ch.wk (Ch.tr (Ch.tr hS51h hS240) hS247) (by decide) (by decide)), by omega, by omega, by omega, by omega, by omega, n247_2, n247_3, n247_4, (PE_last (by omega)), n247_7, (by
                                    unfold P1
                                    first | exact Or.inr (Or.inl (by omega)) | exact Or.inl (by omega)), by omega⟩, show (2 * (3020 - r247) + min 1 (max 0 (-1 - (S247.1 54 59)))).toNat < (2 * (3020 - v51_1) + min 1 (max 0 (-1 - (S51h.1 54 59)))).toNat by omega⟩
                            · unfold wX11_parse_295
                              unfold wX11_parse_297
                              exact ⟨⟨(Ch.wk (Ch.tr (Ch.tr hS51h hS240) hS247) (by decide) (by decide)), by omega, by omega, by omega, by omega, by omega, n247_2, n247_3, n247_4, (PE_last (by omega)), n247_7, (by
                                    unfold P1
                                    first | exact Or.inr (Or.inl (by omega)) | exact Or.inl (by omega)), by omega⟩, show (2 * (3020 - r247) + min 1 (max 0 (-1 - (S247.1 54 59)))).toNat < (2 * (3020 - v51_1) + min 1 (max 0 (-1 - (S51h.1 54 59)))).toNat by omega⟩
                        · unfold wX11_parse_265
                          intro q642
                          refine ⟨fun h270 => ?_, fun h270 => ?_⟩
                          · unfold wX11_parse_283
                            refine ⟨by omega, ?_⟩
                            refine ⟨fun h287 => ?_, fun h287 => ?_⟩
                            · unfold wX11_parse_295
                              unfold wX11_parse_297
                              exact ⟨⟨(Ch.wk (Ch.tr (Ch.tr hS51h hS240) hS247) (by decide) (by decide)), by omega, by omega, by omega, by omega, by omega, n247_2, n247_3, n247_4, (PE_new (PE.mv i51_8 (hS240.1 43 (by decide)) (hS240.2 88 (by decide))) hbr n247_6), n247_7, (by
                                    unfold P1
                                    first | exact Or.inr (Or.inl (by omega)) | exact Or.inl (by omega)), by omega⟩, show (2 * (3020 - r247) + min 1 (max 0 (-1 - (S247.1 54 59)))).toNat < (2 * (3020 - v51_1) + min 1 (max 0 (-1 - (S51h.1 54 59)))).toNat by omega⟩
                            · unfold wX11_parse_295
                              unfold wX11_parse_297
                              exact ⟨⟨(Ch.wk (Ch.tr (Ch.tr hS51h hS240) hS247) (by decide) (by decide)), by omega, by omega, by omega, by omega, by omega, n247_2, n247_3, n247_4, (PE_new (PE.mv i51_8 (hS240.1 43 (by decide)) (hS240.2 88 (by decide))) hbr n247_6), n247_7, (by
                                    unfold P1
                                    first | exact Or.inr (Or.inl (by omega)) | exact Or.inl (by omega)), by omega⟩, show (2 * (3020 - r247) + min 1 (max 0 (-1 - (S247.1 54 59)))).toNat < (2 * (3020 - v51_1) + min 1 (max 0 (-1 - (S51h.1 54 59)))).toNat by omega⟩
                          · intro q643
                            unfold wX11_parse_283
                            refine ⟨by omega, ?_⟩
                            refine ⟨fun h287 => ?_, fun h287 => ?_⟩
                            · unfold wX11_parse_295
                              unfold wX11_parse_297
                              exact ⟨⟨(Ch.wk (Ch.tr (Ch.tr hS51h hS240) hS247) (by decide) (by decide)), by omega, by omega, by omega, by omega, by omega, n247_2, n247_3, n247_4, (PE_last (by omega)), n247_7, (by
                                    unfold P1
                                    first | exact Or.inr (Or.inl (by omega)) | exact Or.inl (by omega)), by omega⟩, show (2 * (3020 - r247) + min 1 (max 0 (-1 - (S247.1 54 59)))).toNat < (2 * (3020 - v51_1) + min 1 (max 0 (-1 - (S51h.1 54 59)))).toNat by omega⟩
                            · unfold wX11_parse_295
                              unfold wX11_parse_297
                              exact ⟨⟨(Ch.wk (Ch.tr (Ch.tr hS51h hS240) hS247) (by decide) (by decide)), by omega, by omega, by omega, by omega, by omega, n247_2, n247_3, n247_4, (PE_last (by omega)), n247_7, (by
                                    unfold P1
                                    first | exact Or.inr (Or.inl (by omega)) | exact Or.inl (by omega)), by omega⟩, show (2 * (3020 - r247) + min 1 (max 0 (-1 - (S247.1 54 59)))).toNat < (2 * (3020 - v51_1) + min 1 (max 0 (-1 - (S51h.1 54 59)))).toNat by omega⟩
                      · refine ⟨by omega, ?_⟩
                        refine tX11_fail (by omega) (fun r232 S232 hS232 n232_0 => ?_)
                        unfold wX11_parse_297
                        have e644 : S232.1 54 43 = S51h.1 54 43 := hS232.1 43 (by decide)
                        exact ⟨⟨(Ch.wk (Ch.tr hS51h hS232) (by decide) (by decide)), by omega, by omega, by omega, by omega, by omega, (PA.mv3 i51_5 ((hS232).1 51 (by decide)) ((hS232).2 92 (by decide)) ((hS232).2 93 (by decide)) ((hS232).2 94 (by decide)) ((hS232).2 95 (by decide))), (PR.mv i51_6 ((hS232).1 43 (by decide)) ((hS232).1 51 (by decide)) ((hS232).2 86 (by decide)) ((hS232).2 87 (by decide)) ((hS232).2 88 (by decide)) ((hS232).2 90 (by decide)) ((hS232).2 91 (by decide))), (PO.mv i51_7 ((hS232).1 43 (by decide)) ((hS232).2 88 (by decide))), (PE.mv i51_8 ((hS232).1 43 (by decide)) ((hS232).2 88 (by decide))), (by
                              unfold PB
                              have e645 : S232.1 54 41 = S51h.1 54 41 := hS232.1 41 (by decide)
                              have e646 : S51h.1 54 41 = S18.1 54 41 := hS51h.1 41 (by decide)
                              have e647 : S18.1 54 41 = S12.1 54 41 := hS18.1 41 (by decide)
                              have e648 : S12.1 54 41 = S7.1 54 41 := hS12.1 41 (by decide)
                              have e649 : S7.1 54 41 = S2.1 54 41 := hS7.1 41 (by decide)
                              have e650 : S2.1 54 41 = S.1 54 41 := hS2.1 41 (by decide)
                              have e651 : S232.1 54 56 = S51h.1 54 56 := hS232.1 56 (by decide)
                              have e652 : S232.1 54 51 = S51h.1 54 51 := hS232.1 51 (by decide)
                              first
                              | exact Or.inl (by omega)
                              | exact (Classical.em (-1 ≤ S232.1 54 59)).elim (fun hb => Or.inl hb) (fun hb => Or.inr ⟨by omega, by omega, by omega⟩)), (by
                              unfold P1
                              have e653 : S232.1 54 43 = S51h.1 54 43 := hS232.1 43 (by decide)
                              first | exact Or.inr (Or.inl (by omega)) | exact Or.inl (by omega)), by omega⟩, show (2 * (3020 - v51_1) + min 1 (max 0 (-1 - (S232.1 54 59)))).toNat < (2 * (3020 - v51_1) + min 1 (max 0 (-1 - (S51h.1 54 59)))).toNat by omega⟩
                    · refine ⟨by omega, ?_⟩
                      refine ⟨fun h210 => ?_, fun h210 => ?_⟩
                      · unfold wX11_parse_225
                        refine ⟨by omega, ?_⟩
                        refine ⟨fun h227 => ?_, fun h227 => ?_⟩
                        · intro S240 hS240e
                          have hS240 : Ch [60] [] S51h S240 := Ch_I hS240e
                          have hS240v : S240.1 54 60 = 0 := pI_at hS240e
                          refine ⟨by omega, ?_⟩
                          refine ⟨by omega, ?_⟩
                          refine ⟨by omega, ?_⟩
                          have e654 : S240.1 54 41 = S51h.1 54 41 := hS240.1 41 (by decide)
                          have e655 : S51h.1 54 41 = S18.1 54 41 := hS51h.1 41 (by decide)
                          have e656 : S18.1 54 41 = S12.1 54 41 := hS18.1 41 (by decide)
                          have e657 : S12.1 54 41 = S7.1 54 41 := hS12.1 41 (by decide)
                          have e658 : S7.1 54 41 = S2.1 54 41 := hS7.1 41 (by decide)
                          have e659 : S2.1 54 41 = S.1 54 41 := hS2.1 41 (by decide)
                          have e660 : S240.1 54 41 = S51h.1 54 41 := hS240.1 41 (by decide)
                          have e661 : S51h.1 54 41 = S18.1 54 41 := hS51h.1 41 (by decide)
                          have e662 : S18.1 54 41 = S12.1 54 41 := hS18.1 41 (by decide)
                          have e663 : S12.1 54 41 = S7.1 54 41 := hS12.1 41 (by decide)
                          have e664 : S7.1 54 41 = S2.1 54 41 := hS7.1 41 (by decide)
                          have e665 : S2.1 54 41 = S.1 54 41 := hS2.1 41 (by decide)
                          have e666 : S240.1 54 56 = S51h.1 54 56 := hS240.1 56 (by decide)
                          have e667 : S240.1 54 51 = S51h.1 54 51 := hS240.1 51 (by decide)
                          have e668 : S240.1 54 43 = S51h.1 54 43 := hS240.1 43 (by decide)
                          have e669 : S240.1 54 43 = S51h.1 54 43 := hS240.1 43 (by decide)
                          refine tX11_beginTag (by omega) (by omega) (by omega) (by omega) (by omega) (by omega) (PA.mv2 i51_5 ((hS240).1 51 (by decide)) ((hS240).1 56 (by decide)) ((hS240).2 92 (by decide)) ((hS240).2 93 (by decide)) ((hS240).2 94 (by decide)) ((hS240).2 95 (by decide))) (PR.mv i51_6 ((hS240).1 43 (by decide)) ((hS240).1 51 (by decide)) ((hS240).2 86 (by decide)) ((hS240).2 87 (by decide)) ((hS240).2 88 (by decide)) ((hS240).2 90 (by decide)) ((hS240).2 91 (by decide))) (PO.mv i51_7 ((hS240).1 43 (by decide)) ((hS240).2 88 (by decide))) (PE.mv i51_8 ((hS240).1 43 (by decide)) ((hS240).2 88 (by decide))) (by omega) (fun r247 S247 hS247 n247_0 n247_1 n247_2 n247_3 n247_4 n247_5 n247_6 n247_7 => ?_)
                          have hbr : (S247.1 54 43 = S240.1 54 43 + 1 ∧ S247.2 88 (S240.1 54 43) = v51_2) ∨ S247.1 54 43 = S240.1 54 43 := by
                            rcases n247_5 with h | h
                            · exact Or.inl h
                            · exact Or.inr h.1
                          intro q670
                          refine ⟨fun h255 => ?_, fun h255 => ?_⟩
                          · unfold wX11_parse_265
                            intro q671
                            refine ⟨fun h270 => ?_, fun h270 => ?_⟩
                            · unfold wX11_parse_283
                              refine ⟨by omega, ?_⟩
                              refine ⟨fun h287 => ?_, fun h287 => ?_⟩
                              · unfold wX11_parse_295
                                unfold wX11_parse_297
                                exact ⟨⟨(Ch.wk (Ch.tr (Ch.tr hS51h hS240) hS247) (by decide) (by decide)), by omega, by omega, by omega, by omega, by omega, n247_2, n247_3, n247_4, (PE_new (PE.mv i51_8 (hS240.1 43 (by decide)) (hS240.2 88 (by decide))) hbr n247_6), n247_7, (by
                                      unfold P1
                                      first | exact Or.inr (Or.inl (by omega)) | exact Or.inl (by omega)), by omega⟩, show (2 * (3020 - r247) + min 1 (max 0 (-1 - (S247.1 54 59)))).toNat < (2 * (3020 - v51_1) + min 1 (max 0 (-1 - (S51h.1 54 59)))).toNat by omega⟩
                              · unfold wX11_parse_295
                                unfold wX11_parse_297
                                exact ⟨⟨(Ch.wk (Ch.tr (Ch.tr hS51h hS240) hS247) (by decide) (by decide)), by omega, by omega, by omega, by omega, by omega, n247_2, n247_3, n247_4, (PE_new (PE.mv i51_8 (hS240.1 43 (by decide)) (hS240.2 88 (by decide))) hbr n247_6), n247_7, (by
                                      unfold P1
                                      first | exact Or.inr (Or.inl (by omega)) | exact Or.inl (by omega)), by omega⟩, show (2 * (3020 - r247) + min 1 (max 0 (-1 - (S247.1 54 59)))).toNat < (2 * (3020 - v51_1) + min 1 (max 0 (-1 - (S51h.1 54 59)))).toNat by omega⟩
                            · intro q672
                              unfold wX11_parse_283
                              refine ⟨by omega, ?_⟩
                              refine ⟨fun h287 => ?_, fun h287 => ?_⟩
                              · unfold wX11_parse_295
                                unfold wX11_parse_297
                                exact ⟨⟨(Ch.wk (Ch.tr (Ch.tr hS51h hS240) hS247) (by decide) (by decide)), by omega, by omega, by omega, by omega, by omega, n247_2, n247_3, n247_4, (PE_last (by omega)), n247_7, (by
                                      unfold P1
                                      first | exact Or.inr (Or.inl (by omega)) | exact Or.inl (by omega)), by omega⟩, show (2 * (3020 - r247) + min 1 (max 0 (-1 - (S247.1 54 59)))).toNat < (2 * (3020 - v51_1) + min 1 (max 0 (-1 - (S51h.1 54 59)))).toNat by omega⟩
                              · unfold wX11_parse_295
                                unfold wX11_parse_297
                                exact ⟨⟨(Ch.wk (Ch.tr (Ch.tr hS51h hS240) hS247) (by decide) (by decide)), by omega, by omega, by omega, by omega, by omega, n247_2, n247_3, n247_4, (PE_last (by omega)), n247_7, (by
                                      unfold P1
                                      first | exact Or.inr (Or.inl (by omega)) | exact Or.inl (by omega)), by omega⟩, show (2 * (3020 - r247) + min 1 (max 0 (-1 - (S247.1 54 59)))).toNat < (2 * (3020 - v51_1) + min 1 (max 0 (-1 - (S51h.1 54 59)))).toNat by omega⟩
                          · unfold wX11_parse_265
                            intro q673
                            refine ⟨fun h270 => ?_, fun h270 => ?_⟩
                            · unfold wX11_parse_283
                              refine ⟨by omega, ?_⟩
                              refine ⟨fun h287 => ?_, fun h287 => ?_⟩
                              · unfold wX11_parse_295
                                unfold wX11_parse_297
                                exact ⟨⟨(Ch.wk (Ch.tr (Ch.tr hS51h hS240) hS247) (by decide) (by decide)), by omega, by omega, by omega, by omega, by omega, n247_2, n247_3, n247_4, (PE_new (PE.mv i51_8 (hS240.1 43 (by decide)) (hS240.2 88 (by decide))) hbr n247_6), n247_7, (by
                                      unfold P1
                                      first | exact Or.inr (Or.inl (by omega)) | exact Or.inl (by omega)), by omega⟩, show (2 * (3020 - r247) + min 1 (max 0 (-1 - (S247.1 54 59)))).toNat < (2 * (3020 - v51_1) + min 1 (max 0 (-1 - (S51h.1 54 59)))).toNat by omega⟩
                              · unfold wX11_parse_295
                                unfold wX11_parse_297
                                exact ⟨⟨(Ch.wk (Ch.tr (Ch.tr hS51h hS240) hS247) (by decide) (by decide)), by omega, by omega, by omega, by omega, by omega, n247_2, n247_3, n247_4, (PE_new (PE.mv i51_8 (hS240.1 43 (by decide)) (hS240.2 88 (by decide))) hbr n247_6), n247_7, (by
                                      unfold P1
                                      first | exact Or.inr (Or.inl (by omega)) | exact Or.inl (by omega)), by omega⟩, show (2 * (3020 - r247) + min 1 (max 0 (-1 - (S247.1 54 59)))).toNat < (2 * (3020 - v51_1) + min 1 (max 0 (-1 - (S51h.1 54 59)))).toNat by omega⟩
                            · intro q674
                              unfold wX11_parse_283
                              refine ⟨by omega, ?_⟩
                              refine ⟨fun h287 => ?_, fun h287 => ?_⟩
                              · unfold wX11_parse_295
                                unfold wX11_parse_297
                                exact ⟨⟨(Ch.wk (Ch.tr (Ch.tr hS51h hS240) hS247) (by decide) (by decide)), by omega, by omega, by omega, by omega, by omega, n247_2, n247_3, n247_4, (PE_last (by omega)), n247_7, (by
                                      unfold P1
                                      first | exact Or.inr (Or.inl (by omega)) | exact Or.inl (by omega)), by omega⟩, show (2 * (3020 - r247) + min 1 (max 0 (-1 - (S247.1 54 59)))).toNat < (2 * (3020 - v51_1) + min 1 (max 0 (-1 - (S51h.1 54 59)))).toNat by omega⟩
                              · unfold wX11_parse_295
                                unfold wX11_parse_297
                                exact ⟨⟨(Ch.wk (Ch.tr (Ch.tr hS51h hS240) hS247) (by decide) (by decide)), by omega, by omega, by omega, by omega, by omega, n247_2, n247_3, n247_4, (PE_last (by omega)), n247_7, (by
                                      unfold P1
                                      first | exact Or.inr (Or.inl (by omega)) | exact Or.inl (by omega)), by omega⟩, show (2 * (3020 - r247) + min 1 (max 0 (-1 - (S247.1 54 59)))).toNat < (2 * (3020 - v51_1) + min 1 (max 0 (-1 - (S51h.1 54 59)))).toNat by omega⟩
                        · refine ⟨by omega, ?_⟩
                          refine tX11_fail (by omega) (fun r232 S232 hS232 n232_0 => ?_)
                          unfold wX11_parse_297
                          have e675 : S232.1 54 43 = S51h.1 54 43 := hS232.1 43 (by decide)
                          exact ⟨⟨(Ch.wk (Ch.tr hS51h hS232) (by decide) (by decide)), by omega, by omega, by omega, by omega, by omega, (PA.mv3 i51_5 ((hS232).1 51 (by decide)) ((hS232).2 92 (by decide)) ((hS232).2 93 (by decide)) ((hS232).2 94 (by decide)) ((hS232).2 95 (by decide))), (PR.mv i51_6 ((hS232).1 43 (by decide)) ((hS232).1 51 (by decide)) ((hS232).2 86 (by decide)) ((hS232).2 87 (by decide)) ((hS232).2 88 (by decide)) ((hS232).2 90 (by decide)) ((hS232).2 91 (by decide))), (PO.mv i51_7 ((hS232).1 43 (by decide)) ((hS232).2 88 (by decide))), (PE.mv i51_8 ((hS232).1 43 (by decide)) ((hS232).2 88 (by decide))), (by
                                unfold PB
                                have e676 : S232.1 54 41 = S51h.1 54 41 := hS232.1 41 (by decide)
                                have e677 : S51h.1 54 41 = S18.1 54 41 := hS51h.1 41 (by decide)
                                have e678 : S18.1 54 41 = S12.1 54 41 := hS18.1 41 (by decide)
                                have e679 : S12.1 54 41 = S7.1 54 41 := hS12.1 41 (by decide)
                                have e680 : S7.1 54 41 = S2.1 54 41 := hS7.1 41 (by decide)
                                have e681 : S2.1 54 41 = S.1 54 41 := hS2.1 41 (by decide)
                                have e682 : S232.1 54 56 = S51h.1 54 56 := hS232.1 56 (by decide)
                                have e683 : S232.1 54 51 = S51h.1 54 51 := hS232.1 51 (by decide)
                                first
                                | exact Or.inl (by omega)
                                | exact (Classical.em (-1 ≤ S232.1 54 59)).elim (fun hb => Or.inl hb) (fun hb => Or.inr ⟨by omega, by omega, by omega⟩)), (by
                                unfold P1
                                have e684 : S232.1 54 43 = S51h.1 54 43 := hS232.1 43 (by decide)
                                first | exact Or.inr (Or.inl (by omega)) | exact Or.inl (by omega)), by omega⟩, show (2 * (3020 - v51_1) + min 1 (max 0 (-1 - (S232.1 54 59)))).toNat < (2 * (3020 - v51_1) + min 1 (max 0 (-1 - (S51h.1 54 59)))).toNat by omega⟩
                      · refine ⟨by omega, ?_⟩
                        refine ⟨by omega, ?_⟩
                        have e685 : S51h.1 54 41 = S18.1 54 41 := hS51h.1 41 (by decide)
                        have e686 : S18.1 54 41 = S12.1 54 41 := hS18.1 41 (by decide)
                        have e687 : S12.1 54 41 = S7.1 54 41 := hS12.1 41 (by decide)
                        have e688 : S7.1 54 41 = S2.1 54 41 := hS7.1 41 (by decide)
                        have e689 : S2.1 54 41 = S.1 54 41 := hS2.1 41 (by decide)
                        have e690 : S51h.1 54 41 = S18.1 54 41 := hS51h.1 41 (by decide)
                        have e691 : S18.1 54 41 = S12.1 54 41 := hS18.1 41 (by decide)
                        have e692 : S12.1 54 41 = S7.1 54 41 := hS12.1 41 (by decide)
                        have e693 : S7.1 54 41 = S2.1 54 41 := hS7.1 41 (by decide)
                        have e694 : S2.1 54 41 = S.1 54 41 := hS2.1 41 (by decide)
                        have e695 : S51h.1 54 41 = S18.1 54 41 := hS51h.1 41 (by decide)
                        have e696 : S18.1 54 41 = S12.1 54 41 := hS18.1 41 (by decide)
                        have e697 : S12.1 54 41 = S7.1 54 41 := hS12.1 41 (by decide)
                        have e698 : S7.1 54 41 = S2.1 54 41 := hS7.1 41 (by decide)
                        have e699 : S2.1 54 41 = S.1 54 41 := hS2.1 41 (by decide)
                        refine tX11_section (by omega) (by omega) (by omega) (by omega) (by omega) (by omega) (fun r218 S218 hS218 n218_0 n218_1 n218_2 n218_3 => ?_)
                        unfold wX11_parse_297
                        have e700 : S218.1 54 43 = S51h.1 54 43 := hS218.1 43 (by decide)
                        exact ⟨⟨(Ch.wk (Ch.tr hS51h hS218) (by decide) (by decide)), by omega, by omega, by omega, by omega, by omega, (PA.mv3 i51_5 ((hS218).1 51 (by decide)) ((hS218).2 92 (by decide)) ((hS218).2 93 (by decide)) ((hS218).2 94 (by decide)) ((hS218).2 95 (by decide))), (PR.mv i51_6 ((hS218).1 43 (by decide)) ((hS218).1 51 (by decide)) ((hS218).2 86 (by decide)) ((hS218).2 87 (by decide)) ((hS218).2 88 (by decide)) ((hS218).2 90 (by decide)) ((hS218).2 91 (by decide))), (PO.mv i51_7 ((hS218).1 43 (by decide)) ((hS218).2 88 (by decide))), (PE.mv i51_8 ((hS218).1 43 (by decide)) ((hS218).2 88 (by decide))), (by
                              unfold PB
                              have e701 : S218.1 54 41 = S51h.1 54 41 := hS218.1 41 (by decide)
                              have e702 : S51h.1 54 41 = S18.1 54 41 := hS51h.1 41 (by decide)
                              have e703 : S18.1 54 41 = S12.1 54 41 := hS18.1 41 (by decide)
                              have e704 : S12.1 54 41 = S7.1 54 41 := hS12.1 41 (by decide)
                              have e705 : S7.1 54 41 = S2.1 54 41 := hS7.1 41 (by decide)
                              have e706 : S2.1 54 41 = S.1 54 41 := hS2.1 41 (by decide)
                              have e707 : S218.1 54 51 = S51h.1 54 51 := hS218.1 51 (by decide)
                              first
                              | exact Or.inl (by omega)
                              | exact (Classical.em (-1 ≤ S218.1 54 59)).elim (fun hb => Or.inl hb) (fun hb => Or.inr ⟨by omega, by omega, by omega⟩)), (by
                              unfold P1
                              have e708 : S218.1 54 43 = S51h.1 54 43 := hS218.1 43 (by decide)
                              first | exact Or.inr (Or.inl (by omega)) | exact Or.inl (by omega)), by omega⟩, show (2 * (3020 - r218) + min 1 (max 0 (-1 - (S218.1 54 59)))).toNat < (2 * (3020 - v51_1) + min 1 (max 0 (-1 - (S51h.1 54 59)))).toNat by omega⟩
                  · refine ⟨by omega, ?_⟩
                    refine ⟨fun h164 => ?_, fun h164 => ?_⟩
                    · unfold wX11_parse_200
                      refine ⟨by omega, ?_⟩
                      refine ⟨fun h204 => ?_, fun h204 => ?_⟩
                      · unfold wX11_parse_225
                        refine ⟨by omega, ?_⟩
                        refine ⟨fun h227 => ?_, fun h227 => ?_⟩
                        · intro S240 hS240e
                          have hS240 : Ch [60] [] S51h S240 := Ch_I hS240e
                          have hS240v : S240.1 54 60 = 0 := pI_at hS240e
                          refine ⟨by omega, ?_⟩
                          refine ⟨by omega, ?_⟩
                          refine ⟨by omega, ?_⟩
                          have e709 : S240.1 54 41 = S51h.1 54 41 := hS240.1 41 (by decide)
                          have e710 : S51h.1 54 41 = S18.1 54 41 := hS51h.1 41 (by decide)
                          have e711 : S18.1 54 41 = S12.1 54 41 := hS18.1 41 (by decide)
                          have e712 : S12.1 54 41 = S7.1 54 41 := hS12.1 41 (by decide)
                          have e713 : S7.1 54 41 = S2.1 54 41 := hS7.1 41 (by decide)
                          have e714 : S2.1 54 41 = S.1 54 41 := hS2.1 41 (by decide)
                          have e715 : S240.1 54 41 = S51h.1 54 41 := hS240.1 41 (by decide)
                          have e716 : S51h.1 54 41 = S18.1 54 41 := hS51h.1 41 (by decide)
                          have e717 : S18.1 54 41 = S12.1 54 41 := hS18.1 41 (by decide)
                          have e718 : S12.1 54 41 = S7.1 54 41 := hS12.1 41 (by decide)
                          have e719 : S7.1 54 41 = S2.1 54 41 := hS7.1 41 (by decide)
                          have e720 : S2.1 54 41 = S.1 54 41 := hS2.1 41 (by decide)
                          have e721 : S240.1 54 56 = S51h.1 54 56 := hS240.1 56 (by decide)
                          have e722 : S240.1 54 51 = S51h.1 54 51 := hS240.1 51 (by decide)
                          have e723 : S240.1 54 43 = S51h.1 54 43 := hS240.1 43 (by decide)
                          have e724 : S240.1 54 43 = S51h.1 54 43 := hS240.1 43 (by decide)
                          refine tX11_beginTag (by omega) (by omega) (by omega) (by omega) (by omega) (by omega) (PA.mv2 i51_5 ((hS240).1 51 (by decide)) ((hS240).1 56 (by decide)) ((hS240).2 92 (by decide)) ((hS240).2 93 (by decide)) ((hS240).2 94 (by decide)) ((hS240).2 95 (by decide))) (PR.mv i51_6 ((hS240).1 43 (by decide)) ((hS240).1 51 (by decide)) ((hS240).2 86 (by decide)) ((hS240).2 87 (by decide)) ((hS240).2 88 (by decide)) ((hS240).2 90 (by decide)) ((hS240).2 91 (by decide))) (PO.mv i51_7 ((hS240).1 43 (by decide)) ((hS240).2 88 (by decide))) (PE.mv i51_8 ((hS240).1 43 (by decide)) ((hS240).2 88 (by decide))) (by omega) (fun r247 S247 hS247 n247_0 n247_1 n247_2 n247_3 n247_4 n247_5 n247_6 n247_7 => ?_)
                          have hbr : (S247.1 54 43 = S240.1 54 43 + 1 ∧ S247.2 88 (S240.1 54 43) = v51_2) ∨ S247.1 54 43 = S240.1 54 43 := by
                            rcases n247_5 with h | h
                            · exact Or.inl h
                            · exact Or.inr h.1
                          intro q725
                          refine ⟨fun h255 => ?_, fun h255 => ?_⟩
                          · unfold wX11_parse_265
                            intro q726
                            refine ⟨fun h270 => ?_, fun h270 => ?_⟩
                            · unfold wX11_parse_283
                              refine ⟨by omega, ?_⟩
                              refine ⟨fun h287 => ?_, fun h287 => ?_⟩
                              · unfold wX11_parse_295
                                unfold wX11_parse_297
                                exact ⟨⟨(Ch.wk (Ch.tr (Ch.tr hS51h hS240) hS247) (by decide) (by decide)), by omega, by omega, by omega, by omega, by omega, n247_2, n247_3, n247_4, (PE_new (PE.mv i51_8 (hS240.1 43 (by decide)) (hS240.2 88 (by decide))) hbr n247_6), n247_7, (by
                                      unfold P1
                                      first | exact Or.inr (Or.inl (by omega)) | exact Or.inl (by omega)), by omega⟩, show (2 * (3020 - r247) + min 1 (max 0 (-1 - (S247.1 54 59)))).toNat < (2 * (3020 - v51_1) + min 1 (max 0 (-1 - (S51h.1 54 59)))).toNat by omega⟩
                              · unfold wX11_parse_295
                                unfold wX11_parse_297
                                exact ⟨⟨(Ch.wk (Ch.tr (Ch.tr hS51h hS240) hS247) (by decide) (by decide)), by omega, by omega, by omega, by omega, by omega, n247_2, n247_3, n247_4, (PE_new (PE.mv i51_8 (hS240.1 43 (by decide)) (hS240.2 88 (by decide))) hbr n247_6), n247_7, (by
                                      unfold P1
                                      first | exact Or.inr (Or.inl (by omega)) | exact Or.inl (by omega)), by omega⟩, show (2 * (3020 - r247) + min 1 (max 0 (-1 - (S247.1 54 59)))).toNat < (2 * (3020 - v51_1) + min 1 (max 0 (-1 - (S51h.1 54 59)))).toNat by omega⟩
                            · intro q727
                              unfold wX11_parse_283
                              refine ⟨by omega, ?_⟩
                              refine ⟨fun h287 => ?_, fun h287 => ?_⟩
                              · unfold wX11_parse_295
                                unfold wX11_parse_297
                                exact ⟨⟨(Ch.wk (Ch.tr (Ch.tr hS51h hS240) hS247) (by decide) (by decide)), by omega, by omega, by omega, by omega, by omega, n247_2, n247_3, n247_4, (PE_last (by omega)), n247_7, (by
                                      unfold P1
                                      first | exact Or.inr (Or.inl (by omega)) | exact Or.inl (by omega)), by omega⟩, show (2 * (3020 - r247) + min 1 (max 0 (-1 - (S247.1 54 59)))).toNat < (2 * (3020 - v51_1) + min 1 (max 0 (-1 - (S51h.1 54 59)))).toNat by omega⟩
                              · unfold wX11_parse_295
                                unfold wX11_parse_297
                                exact ⟨⟨(Ch.wk (Ch.tr (Ch.tr hS51h hS240) hS247) (by decide) (by decide)), by omega, by omega, by omega, by omega, by omega, n247_2, n247_3, n247_4, (PE_last (by omega)), n247_7, (by
                                      unfold P1
                                      first | exact Or.inr (Or.inl (by omega)) | exact Or.inl (by omega)), by omega⟩, show (2 * (3020 - r247) + min 1 (max 0 (-1 - (S247.1 54 59)))).toNat < (2 * (3020 - v51_1) + min 1 (max 0 (-1 - (S51h.1 54 59)))).toNat by omega⟩
                          · unfold wX11_parse_265
                            intro q728
                            refine ⟨fun h270 => ?_, fun h270 => ?_⟩
                            · unfold wX11_parse_283
                              refine ⟨by omega, ?_⟩
                              refine ⟨fun h287 => ?_, fun h287 => ?_⟩
                              · unfold wX11_parse_295
                                unfold wX11_parse_297
                                exact ⟨⟨(Ch.wk (Ch.tr (Ch.tr hS51h hS240) hS247) (by decide) (by decide)), by omega, by omega, by omega, by omega, by omega, n247_2, n247_3, n247_4, (PE_new (PE.mv i51_8 (hS240.1 43 (by decide)) (hS240.2 88 (by decide))) hbr n247_6), n247_7, (by
                                      unfold P1
                                      first | exact Or.inr (Or.inl (by omega)) | exact Or.inl (by omega)), by omega⟩, show (2 * (3020 - r247) + min 1 (max 0 (-1 - (S247.1 54 59)))).toNat < (2 * (3020 - v51_1) + min 1 (max 0 (-1 - (S51h.1 54 59)))).toNat by omega⟩
                              · unfold wX11_parse_295
                                unfold wX11_parse_297
                                exact ⟨⟨(Ch.wk (Ch.tr (Ch.tr hS51h hS240) hS247) (by decide) (by decide)), by omega, by omega, by omega, by omega, by omega, n247_2, n247_3, n247_4, (PE_new (PE.mv i51_8 (hS240.1 43 (by decide)) (hS240.2 88 (by decide))) hbr n247_6), n247_7, (by
                                      unfold P1
                                      first | exact Or.inr (Or.inl (by omega)) | exact Or.inl (by omega)), by omega⟩, show (2 * (3020 - r247) + min 1 (max 0 (-1 - (S247.1 54 59)))).toNat < (2 * (3020 - v51_1) + min 1 (max 0 (-1 - (S51h.1 54 59)))).toNat by omega⟩
                            · intro q729
                              unfold wX11_parse_283
                              refine ⟨by omega, ?_⟩
                              refine ⟨fun h287 => ?_, fun h287 => ?_⟩
                              · unfold wX11_parse_295
                                unfold wX11_parse_297
                                exact ⟨⟨(Ch.wk (Ch.tr (Ch.tr hS51h hS240) hS247) (by decide) (by decide)), by omega, by omega, by omega, by omega, by omega, n247_2, n247_3, n247_4, (PE_last (by omega)), n247_7, (by
                                      unfold P1
                                      first | exact Or.inr (Or.inl (by omega)) | exact Or.inl (by omega)), by omega⟩, show (2 * (3020 - r247) + min 1 (max 0 (-1 - (S247.1 54 59)))).toNat < (2 * (3020 - v51_1) + min 1 (max 0 (-1 - (S51h.1 54 59)))).toNat by omega⟩
                              · unfold wX11_parse_295
                                unfold wX11_parse_297
                                exact ⟨⟨(Ch.wk (Ch.tr (Ch.tr hS51h hS240) hS247) (by decide) (by decide)), by omega, by omega, by omega, by omega, by omega, n247_2, n247_3, n247_4, (PE_last (by omega)), n247_7, (by
                                      unfold P1
                                      first | exact Or.inr (Or.inl (by omega)) | exact Or.inl (by omega)), by omega⟩, show (2 * (3020 - r247) + min 1 (max 0 (-1 - (S247.1 54 59)))).toNat < (2 * (3020 - v51_1) + min 1 (max 0 (-1 - (S51h.1 54 59)))).toNat by omega⟩
                        · refine ⟨by omega, ?_⟩
                          refine tX11_fail (by omega) (fun r232 S232 hS232 n232_0 => ?_)
                          unfold wX11_parse_297
                          have e730 : S232.1 54 43 = S51h.1 54 43 := hS232.1 43 (by decide)
                          exact ⟨⟨(Ch.wk (Ch.tr hS51h hS232) (by decide) (by decide)), by omega, by omega, by omega, by omega, by omega, (PA.mv3 i51_5 ((hS232).1 51 (by decide)) ((hS232).2 92 (by decide)) ((hS232).2 93 (by decide)) ((hS232).2 94 (by decide)) ((hS232).2 95 (by decide))), (PR.mv i51_6 ((hS232).1 43 (by decide)) ((hS232).1 51 (by decide)) ((hS232).2 86 (by decide)) ((hS232).2 87 (by decide)) ((hS232).2 88 (by decide)) ((hS232).2 90 (by decide)) ((hS232).2 91 (by decide))), (PO.mv i51_7 ((hS232).1 43 (by decide)) ((hS232).2 88 (by decide))), (PE.mv i51_8 ((hS232).1 43 (by decide)) ((hS232).2 88 (by decide))), (by
                                unfold PB
                                have e731 : S232.1 54 41 = S51h.1 54 41 := hS232.1 41 (by decide)
                                have e732 : S51h.1 54 41 = S18.1 54 41 := hS51h.1 41 (by decide)
                                have e733 : S18.1 54 41 = S12.1 54 41 := hS18.1 41 (by decide)
                                have e734 : S12.1 54 41 = S7.1 54 41 := hS12.1 41 (by decide)
                                have e735 : S7.1 54 41 = S2.1 54 41 := hS7.1 41 (by decide)
                                have e736 : S2.1 54 41 = S.1 54 41 := hS2.1 41 (by decide)
                                have e737 : S232.1 54 56 = S51h.1 54 56 := hS232.1 56 (by decide)
                                have e738 : S232.1 54 51 = S51h.1 54 51 := hS232.1 51 (by decide)
                                first
                                | exact Or.inl (by omega)
                                | exact (Classical.em (-1 ≤ S232.1 54 59)).elim (fun hb => Or.inl hb) (fun hb => Or.inr ⟨by omega, by omega, by omega⟩)), (by
                                unfold P1
                                have e739 : S232.1 54 43 = S51h.1 54 43 := hS232.1 43 (by decide)
                                first | exact Or.inr (Or.inl (by omega)) | exact Or.inl (by omega)), by omega⟩, show (2 * (3020 - v51_1) + min 1 (max 0 (-1 - (S232.1 54 59)))).toNat < (2 * (3020 - v51_1) + min 1 (max 0 (-1 - (S51h.1 54 59)))).toNat by omega⟩
                      · refine ⟨by omega, ?_⟩
                        refine ⟨fun h210 => ?_, fun h210 => ?_⟩
                        · unfold wX11_parse_225
                          refine ⟨by omega, ?_⟩
                          refine ⟨fun h227 => ?_, fun h227 => ?_⟩
                          · intro S240 hS240e
                            have hS240 : Ch [60] [] S51h S240 := Ch_I hS240e
                            have hS240v : S240.1 54 60 = 0 := pI_at hS240e
                            refine ⟨by omega, ?_⟩
                            refine ⟨by omega, ?_⟩
                            refine ⟨by omega, ?_⟩
                            have e740 : S240.1 54 41 = S51h.1 54 41 := hS240.1 41 (by decide)
                            have e741 : S51h.1 54 41 = S18.1 54 41 := hS51h.1 41 (by decide)
                            have e742 : S18.1 54 41 = S12.1 54 41 := hS18.1 41 (by decide)
                            have e743 : S12.1 54 41 = S7.1 54 41 := hS12.1 41 (by decide)
                            have e744 : S7.1 54 41 = S2.1 54 41 := hS7.1 41 (by decide)
                            have e745 : S2.1 54 41 = S.1 54 41 := hS2.1 41 (by decide)
                            have e746 : S240.1 54 41 = S51h.1 54 41 := hS240.1 41 (by decide)
                            have e747 : S51h.1 54 41 = S18.1 54 41 := hS51h.1 41 (by decide)
                            have e748 : S18.1 54 41 = S12.1 54 41 := hS18.1 41 (by decide)
                            have e749 : S12.1 54 41 = S7.1 54 41 := hS12.1 41 (by decide)
                            have e750 : S7.1 54 41 = S2.1 54 41 := hS7.1 41 (by decide)
                            have e751 : S2.1 54 41 = S.1 54 41 := hS2.1 41 (by decide)
                            have e752 : S240.1 54 56 = S51h.1 54 56 := hS240.1 56 (by decide)
                            have e753 : S240.1 54 51 = S51h.1 54 51 := hS240.1 51 (by decide)
                            have e754 : S240.1 54 43 = S51h.1 54 43 := hS240.1 43 (by decide)
                            have e755 : S240.1 54 43 = S51h.1 54 43 := hS240.1 43 (by decide)
                            refine tX11_beginTag (by omega) (by omega) (by omega) (by omega) (by omega) (by omega) (PA.mv2 i51_5 ((hS240).1 51 (by decide)) ((hS240).1 56 (by decide)) ((hS240).2 92 (by decide)) ((hS240).2 93 (by decide)) ((hS240).2 94 (by decide)) ((hS240).2 95 (by decide))) (PR.mv i51_6 ((hS240).1 43 (by decide)) ((hS240).1 51 (by decide)) ((hS240).2 86 (by decide)) ((hS240).2 87 (by decide)) ((hS240).2 88 (by decide)) ((hS240).2 90 (by decide)) ((hS240).2 91 (by decide))) (PO.mv i51_7 ((hS240).1 43 (by decide)) ((hS240).2 88 (by decide))) (PE.mv i51_8 ((hS240).1 43 (by decide)) ((hS240).2 88 (by decide))) (by omega) (fun r247 S247 hS247 n247_0 n247_1 n247_2 n247_3 n247_4 n247_5 n247_6 n247_7 => ?_)
                            have hbr : (S247.1 54 43 = S240.1 54 43 + 1 ∧ S247.2 88 (S240.1 54 43) = v51_2) ∨ S247.1 54 43 = S240.1 54 43 := by
                              rcases n247_5 with h | h
                              · exact Or.inl h
                              · exact Or.inr h.1
                            intro q756
                            refine ⟨fun h255 => ?_, fun h255 => ?_⟩
                            · unfold wX11_parse_265
                              intro q757
                              refine ⟨fun h270 => ?_, fun h270 => ?_⟩
                              · unfold wX11_parse_283
                                refine ⟨by omega, ?_⟩
                                refine ⟨fun h287 => ?_, fun h287 => ?_⟩
                                · unfold wX11_parse_295
                                  unfold wX11_parse_297
                                  exact ⟨⟨(Ch.wk (Ch.tr (Ch.tr hS51h hS240) hS247) (by decide) (by decide)), by omega, by omega, by omega, by omega, by omega, n247_2, n247_3, n247_4, (PE_new (PE.mv i51_8 (hS240.1 43 (by decide)) (hS240.2 88 (by decide))) hbr n247_6), n247_7, (by
                                        unfold P1
                                        first | exact Or.inr (Or.inl (by omega)) | exact Or.inl (by omega)), by omega⟩, show (2 * (3020 - r247) + min 1 (max 0 (-1 - (S247.1 54 59)))).toNat < (2 * (3020 - v51_1) + min 1 (max 0 (-1 - (S51h.1 54 59)))).toNat by omega⟩
                                · unfold wX11_parse_295
                                  unfold wX11_parse_297
                                  exact ⟨⟨(Ch.wk (Ch.tr (Ch.tr hS51h hS240) hS247) (by decide) (by decide)), by omega, by omega, by omega, by omega, by omega, n247_2, n247_3, n247_4, (PE_new (PE.mv i51_8 (hS240.1 43 (by decide)) (hS240.2 88 (by decide))) hbr n247_6), n247_7, (by
                                        unfold P1
                                        first | exact Or.inr (Or.inl (by omega)) | exact Or.inl (by omega)), by omega⟩, show (2 * (3020 - r247) + min 1 (max 0 (-1 - (S247.1 54 59)))).toNat < (2 * (3020 - v51_1) + min 1 (max 0 (-1 - (S51h.1 54 59)))).toNat by omega⟩
                              · intro q758
                                unfold wX11_parse_283
                                refine ⟨by omega, ?_⟩
                                refine ⟨fun h287 => ?_, fun h287 => ?_⟩
                                · unfold wX11_parse_295
                                  unfold wX11_parse_297
                                  exact ⟨⟨(Ch.wk (Ch.tr (Ch.tr hS51h hS240) hS247) (by decide) (by decide)), by omega, by omega, by omega, by omega, by omega, n247_2, n247_3, n247_4, (PE_last (by omega)), n247_7, (by
                                        unfold P1
                                        first | exact Or.inr (Or.inl (by omega)) | exact Or.inl (by omega)), by omega⟩, show (2 * (3020 - r247) + min 1 (max 0 (-1 - (S247.1 54 59)))).toNat < (2 * (3020 - v51_1) + min 1 (max 0 (-1 - (S51h.1 54 59)))).toNat by omega⟩
                                · unfold wX11_parse_295
                                  unfold wX11_parse_297
                                  exact ⟨⟨(Ch.wk (Ch.tr (Ch.tr hS51h hS240) hS247) (by decide) (by decide)), by omega, by omega, by omega, by omega, by omega, n247_2, n247_3, n247_4, (PE_last (by omega)), n247_7, (by
                                        unfold P1
                                        first | exact Or.inr (Or.inl (by omega)) | exact Or.inl (by omega)), by omega⟩, show (2 * (3020 - r247) + min 1 (max 0 (-1 - (S247.1 54 59)))).toNat < (2 * (3020 - v51_1) + min 1 (max 0 (-1 - (S51h.1 54 59)))).toNat by omega⟩
                            · unfold wX11_parse_265
                              intro q759
                              refine ⟨fun h270 => ?_, fun h270 => ?_⟩
                              · unfold wX11_parse_283
                                refine ⟨by omega, ?_⟩
                                refine ⟨fun h287 => ?_, fun h287 => ?_⟩
                                · unfold wX11_parse_295
                                  unfold wX11_parse_297
                                  exact ⟨⟨(Ch.wk (Ch.tr (Ch.tr hS51h hS240) hS247) (by decide) (by decide)), by omega, by omega, by omega, by omega, by omega, n247_2, n247_3, n247_4, (PE_new (PE.mv i51_8 (hS240.1 43 (by decide)) (hS240.2 88 (by decide))) hbr n247_6), n247_7, (by
                                        unfold P1
                                        first | exact Or.inr (Or.inl (by omega)) | exact Or.inl (by omega)), by omega⟩, show (2 * (3020 - r247) + min 1 (max 0 (-1 - (S247.1 54 59)))).toNat < (2 * (3020 - v51_1) + min 1 (max 0 (-1 - (S51h.1 54 59)))).toNat by omega⟩
                                · unfold wX11_parse_295
                                  unfold wX11_parse_297
                                  exact ⟨⟨(Ch.wk (Ch.tr (Ch.tr hS51h hS240) hS247) (by decide) (by decide)), by omega, by omega, by omega, by omega, by omega, n247_2, n247_3, n247_4, (PE_new (PE.mv i51_8 (hS240.1 43 (by decide)) (hS240.2 88 (by decide))) hbr n247_6), n247_7, (by
                                        unfold P1
                                        first | exact Or.inr (Or.inl (by omega)) | exact Or.inl (by omega)), by omega⟩, show (2 * (3020 - r247) + min 1 (max 0 (-1 - (S247.1 54 59)))).toNat < (2 * (3020 - v51_1) + min 1 (max 0 (-1 - (S51h.1 54 59)))).toNat by omega⟩
                              · intro q760
                                unfold wX11_parse_283
                                refine ⟨by omega, ?_⟩
                                refine ⟨fun h287 => ?_, fun h287 => ?_⟩
                                · unfold wX11_parse_295
                                  unfold wX11_parse_297
                                  exact ⟨⟨(Ch.wk (Ch.tr (Ch.tr hS51h hS240) hS247) (by decide) (by decide)), by omega, by omega, by omega, by omega, by omega, n247_2, n247_3, n247_4, (PE_last (by omega)), n247_7, (by
                                        unfold P1
                                        first | exact Or.inr (Or.inl (by omega)) | exact Or.inl (by omega)), by omega⟩, show (2 * (3020 - r247) + min 1 (max 0 (-1 - (S247.1 54 59)))).toNat < (2 * (3020 - v51_1) + min 1 (max 0 (-1 - (S51h.1 54 59)))).toNat by omega⟩
                                · unfold wX11_parse_295
                                  unfold wX11_parse_297
                                  exact ⟨⟨(Ch.wk (Ch.tr (Ch.tr hS51h hS240) hS247) (by decide) (by decide)), by omega, by omega, by omega, by omega, by omega, n247_2, n247_3, n247_4, (PE_last (by omega)), n247_7, (by
                                        unfold P1
                                        first | exact Or.inr (Or.inl (by omega)) | exact Or.inl (by omega)), by omega⟩, show (2 * (3020 - r247) + min 1 (max 0 (-1 - (S247.1 54 59)))).toNat < (2 * (3020 - v51_1) + min 1 (max 0 (-1 - (S51h.1 54 59)))).toNat by omega⟩
                          · refine ⟨by omega, ?_⟩
                            refine tX11_fail (by omega) (fun r232 S232 hS232 n232_0 => ?_)
                            unfold wX11_parse_297
                            have e761 : S232.1 54 43 = S51h.1 54 43 := hS232.1 43 (by decide)
                            exact ⟨⟨(Ch.wk (Ch.tr hS51h hS232) (by decide) (by decide)), by omega, by omega, by omega, by omega, by omega, (PA.mv3 i51_5 ((hS232).1 51 (by decide)) ((hS232).2 92 (by decide)) ((hS232).2 93 (by decide)) ((hS232).2 94 (by decide)) ((hS232).2 95 (by decide))), (PR.mv i51_6 ((hS232).1 43 (by decide)) ((hS232).1 51 (by decide)) ((hS232).2 86 (by decide)) ((hS232).2 87 (by decide)) ((hS232).2 88 (by decide)) ((hS232).2 90 (by decide)) ((hS232).2 91 (by decide))), (PO.mv i51_7 ((hS232).1 43 (by decide)) ((hS232).2 88 (by decide))), (PE.mv i51_8 ((hS232).1 43 (by decide)) ((hS232).2 88 (by decide))), (by
                                  unfold PB
                                  have e762 : S232.1 54 41 = S51h.1 54 41 := hS232.1 41 (by decide)
                                  have e763 : S51h.1 54 41 = S18.1 54 41 := hS51h.1 41 (by decide)
                                  have e764 : S18.1 54 41 = S12.1 54 41 := hS18.1 41 (by decide)
                                  have e765 : S12.1 54 41 = S7.1 54 41 := hS12.1 41 (by decide)
                                  have e766 : S7.1 54 41 = S2.1 54 41 := hS7.1 41 (by decide)
                                  have e767 : S2.1 54 41 = S.1 54 41 := hS2.1 41 (by decide)
                                  have e768 : S232.1 54 56 = S51h.1 54 56 := hS232.1 56 (by decide)
                                  have e769 : S232.1 54 51 = S51h.1 54 51 := hS232.1 51 (by decide)
                                  first
                                  | exact Or.inl (by omega)
                                  | exact (Classical.em (-1 ≤ S232.1 54 59)).elim (fun hb => Or.inl hb) (fun hb => Or.inr ⟨by omega, by omega, by omega⟩)), (by
                                  unfold P1
                                  have e770 : S232.1 54 43 = S51h.1 54 43 := hS232.1 43 (by decide)
                                  first | exact Or.inr (Or.inl (by omega)) | exact Or.inl (by omega)), by omega⟩, show (2 * (3020 - v51_1) + min 1 (max 0 (-1 - (S232.1 54 59)))).toNat < (2 * (3020 - v51_1) + min 1 (max 0 (-1 - (S51h.1 54 59)))).toNat by omega⟩
                        · refine ⟨by omega, ?_⟩
                          refine ⟨by omega, ?_⟩
                          have e771 : S51h.1 54 41 = S18.1 54 41 := hS51h.1 41 (by decide)
                          have e772 : S18.1 54 41 = S12.1 54 41 := hS18.1 41 (by decide)
                          have e773 : S12.1 54 41 = S7.1 54 41 := hS12.1 41 (by decide)
                          have e774 : S7.1 54 41 = S2.1 54 41 := hS7.1 41 (by decide)
                          have e775 : S2.1 54 41 = S.1 54 41 := hS2.1 41 (by decide)
                          have e776 : S51h.1 54 41 = S18.1 54 41 := hS51h.1 41 (by decide)
                          have e777 : S18.1 54 41 = S12.1 54 41 := hS18.1 41 (by decide)
                          have e778 : S12.1 54 41 = S7.1 54 41 := hS12.1 41 (by decide)
                          have e779 : S7.1 54 41 = S2.1 54 41 := hS7.1 41 (by decide)
                          have e780 : S2.1 54 41 = S.1 54 41 := hS2.1 41 (by decide)
                          have e781 : S51h.1 54 41 = S18.1 54 41 := hS51h.1 41 (by decide)
                          have e782 : S18.1 54 41 = S12.1 54 41 := hS18.1 41 (by decide)
                          have e783 : S12.1 54 41 = S7.1 54 41 := hS12.1 41 (by decide)
                          have e784 : S7.1 54 41 = S2.1 54 41 := hS7.1 41 (by decide)
                          have e785 : S2.1 54 41 = S.1 54 41 := hS2.1 41 (by decide)
                          refine tX11_section (by omega) (by omega) (by omega) (by omega) (by omega) (by omega) (fun r218 S218 hS218 n218_0 n218_1 n218_2 n218_3 => ?_)
                          unfold wX11_parse_297
                          have e786 : S218.1 54 43 = S51h.1 54 43 := hS218.1 43 (by decide)
                          exact ⟨⟨(Ch.wk (Ch.tr hS51h hS218) (by decide) (by decide)), by omega, by omega, by omega, by omega, by omega, (PA.mv3 i51_5 ((hS218).1 51 (by decide)) ((hS218).2 92 (by decide)) ((hS218).2 93 (by decide)) ((hS218).2 94 (by decide)) ((hS218).2 95 (by decide))), (PR.mv i51_6 ((hS218).1 43 (by decide)) ((hS218).1 51 (by decide)) ((hS218).2 86 (by decide)) ((hS218).2 87 (by decide)) ((hS218).2 88 (by decide)) ((hS218).2 90 (by decide)) ((hS218).2 91 (by decide))), (PO.mv i51_7 ((hS218).1 43 (by decide)) ((hS218).2 88 (by decide))), (PE.mv i51_8 ((hS218).1 43 (by decide)) ((hS218).2 88 (by decide))), (by
                                unfold PB
                                have e787 : S218.1 54 41 = S51h.1 54 41 := hS218.1 41 (by decide)
                                have e788 : S51h.1 54 41 = S18.1 54 41 := hS51h.1 41 (by decide)
                                have e789 : S18.1 54 41 = S12.1 54 41 := hS18.1 41 (by decide)
                                have e790 : S12.1 54 41 = S7.1 54 41 := hS12.1 41 (by decide)
                                have e791 : S7.1 54 41 = S2.1 54 41 := hS7.1 41 (by decide)
                                have e792 : S2.1 54 41 = S.1 54 41 := hS2.1 41 (by decide)
                                have e793 : S218.1 54 51 = S51h.1 54 51 := hS218.1 51 (by decide)
                                first
                                | exact Or.inl (by omega)
                                | exact (Classical.em (-1 ≤ S218.1 54 59)).elim (fun hb => Or.inl hb) (fun hb => Or.inr ⟨by omega, by omega, by omega⟩)), (by
                                unfold P1
                                have e794 : S218.1 54 43 = S51h.1 54 43 := hS218.1 43 (by decide)
                                first | exact Or.inr (Or.inl (by omega)) | exact Or.inl (by omega)), by omega⟩, show (2 * (3020 - r218) + min 1 (max 0 (-1 - (S218.1 54 59)))).toNat < (2 * (3020 - v51_1) + min 1 (max 0 (-1 - (S51h.1 54 59)))).toNat by omega⟩
                    · have hE2 := hE.2.resolve_left (by omega)
                      have hpr := i51_6.at (x := v51_2) (by omega) (by omega)
                      refine ⟨by omega, ?_⟩
                      have e795 : S51h.1 54 41 = S18.1 54 41 := hS51h.1 41 (by decide)
                      have e796 : S18.1 54 41 = S12.1 54 41 := hS18.1 41 (by decide)
                      have e797 : S12.1 54 41 = S7.1 54 41 := hS12.1 41 (by decide)
                      have e798 : S7.1 54 41 = S2.1 54 41 := hS7.1 41 (by decide)
                      have e799 : S2.1 54 41 = S.1 54 41 := hS2.1 41 (by decide)
                      have e800 : S51h.1 54 41 = S18.1 54 41 := hS51h.1 41 (by decide)
                      have e801 : S18.1 54 41 = S12.1 54 41 := hS18.1 41 (by decide)
                      have e802 : S12.1 54 41 = S7.1 54 41 := hS12.1 41 (by decide)
                      have e803 : S7.1 54 41 = S2.1 54 41 := hS7.1 41 (by decide)
                      have e804 : S2.1 54 41 = S.1 54 41 := hS2.1 41 (by decide)
                      have e805 : S51h.1 54 41 = S18.1 54 41 := hS51h.1 41 (by decide)
                      have e806 : S18.1 54 41 = S12.1 54 41 := hS18.1 41 (by decide)
                      have e807 : S12.1 54 41 = S7.1 54 41 := hS12.1 41 (by decide)
                      have e808 : S7.1 54 41 = S2.1 54 41 := hS7.1 41 (by decide)
                      have e809 : S2.1 54 41 = S.1 54 41 := hS2.1 41 (by decide)
                      refine tX11_endTag (by omega) (by omega) (by omega) (by omega) (by omega) (fun r170 S170 hS170 n170_0 n170_1 n170_2 => ?_)
                      refine ⟨by omega, by omega, ?_⟩
                      intro q810
                      have e811 : S170.2 88 (v51_2) = S51h.2 88 (v51_2) := congrFun (hS170.2 88 (by decide)) _
                      intro x180 hx180
                      subst hx180
                      refine ⟨fun h187 => ?_, fun h187 => ?_⟩
                      · unfold wX11_parse_195
                        unfold wX11_parse_297
                        have e812 : S170.1 54 43 = S51h.1 54 43 := hS170.1 43 (by decide)
                        exact ⟨⟨(Ch.wk (Ch.tr hS51h hS170) (by decide) (by decide)), by omega, by omega, by omega, by omega, by omega, (PA.mv3 i51_5 ((hS170).1 51 (by decide)) ((hS170).2 92 (by decide)) ((hS170).2 93 (by decide)) ((hS170).2 94 (by decide)) ((hS170).2 95 (by decide))), (PR.mv i51_6 ((hS170).1 43 (by decide)) ((hS170).1 51 (by decide)) ((hS170).2 86 (by decide)) ((hS170).2 87 (by decide)) ((hS170).2 88 (by decide)) ((hS170).2 90 (by decide)) ((hS170).2 91 (by decide))), (PO.mv i51_7 ((hS170).1 43 (by decide)) ((hS170).2 88 (by decide))), (PE_up i51_6 i51_7 (by omega) (by omega)).mv (hS170.1 43 (by decide)) (hS170.2 88 (by decide)), (by
                              unfold PB
                              have e813 : S170.1 54 41 = S51h.1 54 41 := hS170.1 41 (by decide)
                              have e814 : S51h.1 54 41 = S18.1 54 41 := hS51h.1 41 (by decide)
                              have e815 : S18.1 54 41 = S12.1 54 41 := hS18.1 41 (by decide)
                              have e816 : S12.1 54 41 = S7.1 54 41 := hS12.1 41 (by decide)
                              have e817 : S7.1 54 41 = S2.1 54 41 := hS7.1 41 (by decide)
                              have e818 : S2.1 54 41 = S.1 54 41 := hS2.1 41 (by decide)
                              have e819 : S170.1 54 56 = S51h.1 54 56 := hS170.1 56 (by decide)
                              have e820 : S170.1 54 51 = S51h.1 54 51 := hS170.1 51 (by decide)
                              first
                              | exact Or.inl (by omega)
                              | exact (Classical.em (-1 ≤ S170.1 54 59)).elim (fun hb => Or.inl hb) (fun hb => Or.inr ⟨by omega, by omega, by omega⟩)), (by
                              unfold P1
                              have e821 : S170.1 54 43 = S51h.1 54 43 := hS170.1 43 (by decide)
                              first | exact Or.inr (Or.inl (by omega)) | exact Or.inl (by omega)), by omega⟩, show (2 * (3020 - r170) + min 1 (max 0 (-1 - (S170.1 54 59)))).toNat < (2 * (3020 - v51_1) + min 1 (max 0 (-1 - (S51h.1 54 59)))).toNat by omega⟩
                      · unfold wX11_parse_195
                        unfold wX11_parse_297
                        have e822 : S170.1 54 43 = S51h.1 54 43 := hS170.1 43 (by decide)
                        exact ⟨⟨(Ch.wk (Ch.tr hS51h hS170) (by decide) (by decide)), by omega, by omega, by omega, by omega, by omega, (PA.mv3 i51_5 ((hS170).1 51 (by decide)) ((hS170).2 92 (by decide)) ((hS170).2 93 (by decide)) ((hS170).2 94 (by decide)) ((hS170).2 95 (by decide))), (PR.mv i51_6 ((hS170).1 43 (by decide)) ((hS170).1 51 (by decide)) ((hS170).2 86 (by decide)) ((hS170).2 87 (by decide)) ((hS170).2 88 (by decide)) ((hS170).2 90 (by decide)) ((hS170).2 91 (by decide))), (PO.mv i51_7 ((hS170).1 43 (by decide)) ((hS170).2 88 (by decide))), (PE_up i51_6 i51_7 (by omega) (by omega)).mv (hS170.1 43 (by decide)) (hS170.2 88 (by decide)), (by
                              unfold PB
                              have e823 : S170.1 54 41 = S51h.1 54 41 := hS170.1 41 (by decide)
                              have e824 : S51h.1 54 41 = S18.1 54 41 := hS51h.1 41 (by decide)
                              have e825 : S18.1 54 41 = S12.1 54 41 := hS18.1 41 (by decide)
                              have e826 : S12.1 54 41 = S7.1 54 41 := hS12.1 41 (by decide)
                              have e827 : S7.1 54 41 = S2.1 54 41 := hS7.1 41 (by decide)
                              have e828 : S2.1 54 41 = S.1 54 41 := hS2.1 41 (by decide)
                              have e829 : S170.1 54 56 = S51h.1 54 56 := hS170.1 56 (by decide)
                              have e830 : S170.1 54 51 = S51h.1 54 51 := hS170.1 51 (by decide)
                              first
                              | exact Or.inl (by omega)
                              | exact (Classical.em (-1 ≤ S170.1 54 59)).elim (fun hb => Or.inl hb) (fun hb => Or.inr ⟨by omega, by omega, by omega⟩)), (by
                              unfold P1
                              have e831 : S170.1 54 43 = S51h.1 54 43 := hS170.1 43 (by decide)
                              first | exact Or.inr (Or.inl (by omega)) | exact Or.inl (by omega)), by omega⟩, show (2 * (3020 - r170) + min 1 (max 0 (-1 - (S170.1 54 59)))).toNat < (2 * (3020 - v51_1) + min 1 (max 0 (-1 - (S51h.1 54 59)))).toNat by omega⟩
                · refine ⟨by omega, ?_⟩
                  refine tX11_keep (by omega) (by omega) (fun r145 S145 hS145 n145_0 => ?_)
                  unfold wX11_parse_297
                  have e832 : S145.1 54 43 = S51h.1 54 43 := hS145.1 43 (by decide)
                  have e833 : S145.1 54 59 = S51h.1 54 59 := hS145.1 59 (by decide)
                  exact ⟨⟨(Ch.wk (Ch.tr hS51h hS145) (by decide) (by decide)), by omega, by omega, by omega, by omega, by omega, (PA.mv3 i51_5 ((hS145).1 51 (by decide)) ((hS145).2 92 (by decide)) ((hS145).2 93 (by decide)) ((hS145).2 94 (by decide)) ((hS145).2 95 (by decide))), (PR.mv i51_6 ((hS145).1 43 (by decide)) ((hS145).1 51 (by decide)) ((hS145).2 86 (by decide)) ((hS145).2 87 (by decide)) ((hS145).2 88 (by decide)) ((hS145).2 90 (by decide)) ((hS145).2 91 (by decide))), (PO.mv i51_7 ((hS145).1 43 (by decide)) ((hS145).2 88 (by decide))), (PE.mv i51_8 ((hS145).1 43 (by decide)) ((hS145).2 88 (by decide))), (by
                        unfold PB
                        have e834 : S145.1 54 59 = S51h.1 54 59 := hS145.1 59 (by decide)
                        have e835 : S145.1 54 41 = S51h.1 54 41 := hS145.1 41 (by decide)
                        have e836 : S51h.1 54 41 = S18.1 54 41 := hS51h.1 41 (by decide)
                        have e837 : S18.1 54 41 = S12.1 54 41 := hS18.1 41 (by decide)
                        have e838 : S12.1 54 41 = S7.1 54 41 := hS12.1 41 (by decide)
                        have e839 : S7.1 54 41 = S2.1 54 41 := hS7.1 41 (by decide)
                        have e840 : S2.1 54 41 = S.1 54 41 := hS2.1 41 (by decide)
                        have e841 : S145.1 54 51 = S51h.1 54 51 := hS145.1 51 (by decide)
                        first
                        | exact Or.inl (by omega)
                        | exact (Classical.em (-1 ≤ S145.1 54 59)).elim (fun hb => Or.inl hb) (fun hb => Or.inr ⟨by omega, by omega, by omega⟩)), (by
                        unfold P1
                        have e842 : S145.1 54 43 = S51h.1 54 43 := hS145.1 43 (by decide)
                        have e843 : S145.1 54 59 = S51h.1 54 59 := hS145.1 59 (by decide)
                        first | exact Or.inr (Or.inl (by omega)) | exact Or.inl (by omega)), by omega⟩, show (2 * (3020 - ((v51_1 + 1))) + min 1 (max 0 (-1 - (S145.1 54 59)))).toNat < (2 * (3020 - v51_1) + min 1 (max 0 (-1 - (S51h.1 54 59)))).toNat by omega⟩
              · refine ⟨by omega, ?_⟩
                refine ⟨by omega, ?_⟩
                have e844 : S51h.1 54 41 = S18.1 54 41 := hS51h.1 41 (by decide)
                have e845 : S18.1 54 41 = S12.1 54 41 := hS18.1 41 (by decide)
                have e846 : S12.1 54 41 = S7.1 54 41 := hS12.1 41 (by decide)
                have e847 : S7.1 54 41 = S2.1 54 41 := hS7.1 41 (by decide)
                have e848 : S2.1 54 41 = S.1 54 41 := hS2.1 41 (by decide)
                have e849 : S51h.1 54 41 = S18.1 54 41 := hS51h.1 41 (by decide)
                have e850 : S18.1 54 41 = S12.1 54 41 := hS18.1 41 (by decide)
                have e851 : S12.1 54 41 = S7.1 54 41 := hS12.1 41 (by decide)
                have e852 : S7.1 54 41 = S2.1 54 41 := hS7.1 41 (by decide)
                have e853 : S2.1 54 41 = S.1 54 41 := hS2.1 41 (by decide)
                have e854 : S51h.1 54 41 = S18.1 54 41 := hS51h.1 41 (by decide)
                have e855 : S18.1 54 41 = S12.1 54 41 := hS18.1 41 (by decide)
                have e856 : S12.1 54 41 = S7.1 54 41 := hS12.1 41 (by decide)
                have e857 : S7.1 54 41 = S2.1 54 41 := hS7.1 41 (by decide)
                have e858 : S2.1 54 41 = S.1 54 41 := hS2.1 41 (by decide)
                refine tX11_reference (by omega) (by omega) (by omega) (by omega) (by omega) (fun r127 S127 hS127 n127_0 n127_1 n127_2 n127_3 => ?_)
                unfold wX11_parse_297
                have e859 : S127.1 54 43 = S51h.1 54 43 := hS127.1 43 (by decide)
                exact ⟨⟨(Ch.wk (Ch.tr hS51h hS127) (by decide) (by decide)), by omega, by omega, by omega, by omega, by omega, (PA.mv3 i51_5 ((hS127).1 51 (by decide)) ((hS127).2 92 (by decide)) ((hS127).2 93 (by decide)) ((hS127).2 94 (by decide)) ((hS127).2 95 (by decide))), (PR.mv i51_6 ((hS127).1 43 (by decide)) ((hS127).1 51 (by decide)) ((hS127).2 86 (by decide)) ((hS127).2 87 (by decide)) ((hS127).2 88 (by decide)) ((hS127).2 90 (by decide)) ((hS127).2 91 (by decide))), (PO.mv i51_7 ((hS127).1 43 (by decide)) ((hS127).2 88 (by decide))), (PE.mv i51_8 ((hS127).1 43 (by decide)) ((hS127).2 88 (by decide))), (by
                      unfold PB
                      have e860 : S127.1 54 41 = S51h.1 54 41 := hS127.1 41 (by decide)
                      have e861 : S51h.1 54 41 = S18.1 54 41 := hS51h.1 41 (by decide)
                      have e862 : S18.1 54 41 = S12.1 54 41 := hS18.1 41 (by decide)
                      have e863 : S12.1 54 41 = S7.1 54 41 := hS12.1 41 (by decide)
                      have e864 : S7.1 54 41 = S2.1 54 41 := hS7.1 41 (by decide)
                      have e865 : S2.1 54 41 = S.1 54 41 := hS2.1 41 (by decide)
                      have e866 : S127.1 54 51 = S51h.1 54 51 := hS127.1 51 (by decide)
                      first
                      | exact Or.inl (by omega)
                      | exact (Classical.em (-1 ≤ S127.1 54 59)).elim (fun hb => Or.inl hb) (fun hb => Or.inr ⟨by omega, by omega, by omega⟩)), (by
                      unfold P1
                      have e867 : S127.1 54 43 = S51h.1 54 43 := hS127.1 43 (by decide)
                      first | exact Or.inr (Or.inl (by omega)) | exact Or.inl (by omega)), by omega⟩, show (2 * (3020 - r127) + min 1 (max 0 (-1 - (S127.1 54 59)))).toNat < (2 * (3020 - v51_1) + min 1 (max 0 (-1 - (S51h.1 54 59)))).toNat by omega⟩
            · refine ⟨by omega, ?_⟩
              refine tX11_fail (by omega) (fun r111 S111 hS111 n111_0 => ?_)
              unfold wX11_parse_297
              have e868 : S111.1 54 43 = S51h.1 54 43 := hS111.1 43 (by decide)
              exact ⟨⟨(Ch.wk (Ch.tr hS51h hS111) (by decide) (by decide)), by omega, by omega, by omega, by omega, by omega, (PA.mv3 i51_5 ((hS111).1 51 (by decide)) ((hS111).2 92 (by decide)) ((hS111).2 93 (by decide)) ((hS111).2 94 (by decide)) ((hS111).2 95 (by decide))), (PR.mv i51_6 ((hS111).1 43 (by decide)) ((hS111).1 51 (by decide)) ((hS111).2 86 (by decide)) ((hS111).2 87 (by decide)) ((hS111).2 88 (by decide)) ((hS111).2 90 (by decide)) ((hS111).2 91 (by decide))), (PO.mv i51_7 ((hS111).1 43 (by decide)) ((hS111).2 88 (by decide))), (PE.mv i51_8 ((hS111).1 43 (by decide)) ((hS111).2 88 (by decide))), (by
                    unfold PB
                    have e869 : S111.1 54 41 = S51h.1 54 41 := hS111.1 41 (by decide)
                    have e870 : S51h.1 54 41 = S18.1 54 41 := hS51h.1 41 (by decide)
                    have e871 : S18.1 54 41 = S12.1 54 41 := hS18.1 41 (by decide)
                    have e872 : S12.1 54 41 = S7.1 54 41 := hS12.1 41 (by decide)
                    have e873 : S7.1 54 41 = S2.1 54 41 := hS7.1 41 (by decide)
                    have e874 : S2.1 54 41 = S.1 54 41 := hS2.1 41 (by decide)
                    have e875 : S111.1 54 56 = S51h.1 54 56 := hS111.1 56 (by decide)
                    have e876 : S111.1 54 51 = S51h.1 54 51 := hS111.1 51 (by decide)
                    first
                    | exact Or.inl (by omega)
                    | exact (Classical.em (-1 ≤ S111.1 54 59)).elim (fun hb => Or.inl hb) (fun hb => Or.inr ⟨by omega, by omega, by omega⟩)), (by
                    unfold P1
                    have e877 : S111.1 54 43 = S51h.1 54 43 := hS111.1 43 (by decide)
                    first | exact Or.inr (Or.inl (by omega)) | exact Or.inl (by omega)), by omega⟩, show (2 * (3020 - v51_1) + min 1 (max 0 (-1 - (S111.1 54 59)))).toNat < (2 * (3020 - v51_1) + min 1 (max 0 (-1 - (S51h.1 54 59)))).toNat by omega⟩
  · refine tX11_fail (by omega) (fun r39 S39 hS39 n39_0 => ?_)
    have e878 : S39.1 54 43 = S18.1 54 43 := hS39.1 43 (by decide)
    have e879 : S18.1 54 43 = S12.1 54 43 := hS18.1 43 (by decide)
    have e880 : S12.1 54 43 = S7.1 54 43 := hS12.1 43 (by decide)
    have e881 : S7.1 54 43 = S2.1 54 43 := hS7.1 43 (by decide)
    exact hK (0) S39 (Ch.wk (Ch.tr (Ch.tr (Ch.tr (Ch.tr hS2 hS7) hS12) hS18) hS39) (by decide) (by decide)) (by unfold PA; intro x; omega) (by unfold PR; intro x; omega) (by unfold PO; intro x; omega) (by omega)
