set_option maxRecDepth 100000 in
set_option maxHeartbeats 4000000 in
theorem tX11_parse {S : St} {K : Int → St → Prop} (p1 : iv 0 3000 ((S.1 54 41))) (hK : ∀ (r : Int) (S' : St), Ch [43, 51, 56, 59, 60] [85, 86, 87, 88, 89, 90, 91, 92, 93, 94, 95, 96, 97] S S' → (PA S') → (PR S') → (PO S') → (-1 ≤ (S'.1 54 59) ∨ 1 ≤ (S'.1 54 43)) → K r S') : wX11_parse  S K := by
  unfold wX11_parse
  intro S2 hS2e
  have hS2 : Ch [43] [] S S2 := Ch_I hS2e
  have hS2v : S2.1 54 43 = 0 := pI_at hS2e
  intro S7 hS7e
  have hS7 : Ch [51] [] S2 S7 := Ch_I hS7e
  have hS7v : S7.1 54 51 = 0 := pI_at hS7e
  intro S12 hS12e
  have hS12 : Ch [56] [] S7 S12 := Ch_I hS12e
  have hS12v : S12.1 54 56 = 0 := pI_at hS12e
  intro S18 hS18e
  have hS18 : Ch [59] [] S12 S18 := Ch_I hS18e
  have hS18v : S18.1 54 59 = (-2) := pI_at hS18e
  have e1 : S18.1 54 41 = S12.1 54 41 := hS18.1 41 (by decide)
  have e2 : S12.1 54 41 = S7.1 54 41 := hS12.1 41 (by decide)
  have e3 : S7.1 54 41 = S2.1 54 41 := hS7.1 41 (by decide)
  have e4 : S2.1 54 41 = S.1 54 41 := hS2.1 41 (by decide)
  have e5 : S18.1 54 41 = S12.1 54 41 := hS18.1 41 (by decide)
  have e6 : S12.1 54 41 = S7.1 54 41 := hS12.1 41 (by decide)
  have e7 : S7.1 54 41 = S2.1 54 41 := hS7.1 41 (by decide)
  have e8 : S2.1 54 41 = S.1 54 41 := hS2.1 41 (by decide)
  have e9 : S18.1 54 41 = S12.1 54 41 := hS18.1 41 (by decide)
  have e10 : S12.1 54 41 = S7.1 54 41 := hS12.1 41 (by decide)
  have e11 : S7.1 54 41 = S2.1 54 41 := hS7.1 41 (by decide)
  have e12 : S2.1 54 41 = S.1 54 41 := hS2.1 41 (by decide)
  refine tX11_blanksFrom (by omega) (by omega) (by omega) (fun r23 n23_0 n23_1 => ?_)
  refine ⟨by omega, ?_⟩
  have e13 : S18.1 54 41 = S12.1 54 41 := hS18.1 41 (by decide)
  have e14 : S12.1 54 41 = S7.1 54 41 := hS12.1 41 (by decide)
  have e15 : S7.1 54 41 = S2.1 54 41 := hS7.1 41 (by decide)
  have e16 : S2.1 54 41 = S.1 54 41 := hS2.1 41 (by decide)
  have e17 : S18.2 84 (r23) = S12.2 84 (r23) := congrFun (hS18.2 84 (by decide)) _
  have e18 : S12.2 84 (r23) = S7.2 84 (r23) := congrFun (hS12.2 84 (by decide)) _
  have e19 : S7.2 84 (r23) = S2.2 84 (r23) := congrFun (hS7.2 84 (by decide)) _
  have e20 : S2.2 84 (r23) = S.2 84 (r23) := congrFun (hS2.2 84 (by decide)) _
  have e21 : S18.1 54 41 = S12.1 54 41 := hS18.1 41 (by decide)
  have e22 : S12.1 54 41 = S7.1 54 41 := hS12.1 41 (by decide)
  have e23 : S7.1 54 41 = S2.1 54 41 := hS7.1 41 (by decide)
  have e24 : S2.1 54 41 = S.1 54 41 := hS2.1 41 (by decide)
  refine tX11_docAt (by omega) (fun r29 n29_0 n29_1 n29_2 => ?_)
  refine ⟨by omega, ?_⟩
  refine ⟨fun h34 => ?_, fun h34 => ?_⟩
  · unfold wX11_parse_51
    have e25 : S18.1 54 43 = S12.1 54 43 := hS18.1 43 (by decide)
    have e26 : S12.1 54 43 = S7.1 54 43 := hS12.1 43 (by decide)
    have e27 : S7.1 54 43 = S2.1 54 43 := hS7.1 43 (by decide)
    have e28 : S18.1 54 43 = S12.1 54 43 := hS18.1 43 (by decide)
    have e29 : S12.1 54 43 = S7.1 54 43 := hS12.1 43 (by decide)
    have e30 : S7.1 54 43 = S2.1 54 43 := hS7.1 43 (by decide)
    refine ⟨fun u1 u2 u3 u4 Sx => Ch [43, 51, 56, 59, 60] [85, 86, 87, 88, 89, 90, 91, 92, 93, 94, 95, 96, 97] S18 Sx ∧ (iv 0 3010 u1) ∧ (iv (-2) 199 u2) ∧ (u3 ≤ u1) ∧ (-u3 ≤ u1) ∧ (iv 0 1 u4) ∧ (PA Sx) ∧ (PR Sx) ∧ (PO Sx) ∧ (PE Sx u2) ∧ (PB Sx u1) ∧ (P1 Sx u1 u2) ∧ ((Sx.1 54 43) ≤ 200) ∧ (u4 = 1 ∨ 1 ≤ (Sx.1 54 43) ∨ -1 ≤ (Sx.1 54 59)), fun u1 u2 u3 u4 Sx => (2 * (3020 - u1) + min 1 (max 0 (-1 - (Sx.1 54 59)))).toNat, ?_, fun v51_1 v51_2 v51_3 v51_4 S51h hI => ?_⟩
    · exact ⟨Ch.re, by omega, by omega, by omega, by omega, by omega, (by
          unfold PA
          intro x
          have e31 : S18.1 54 51 = S12.1 54 51 := hS18.1 51 (by decide)
          have e32 : S12.1 54 51 = S7.1 54 51 := hS12.1 51 (by decide)
          omega), (by
          unfold PR
          intro x
          have e33 : S18.1 54 43 = S12.1 54 43 := hS18.1 43 (by decide)
          have e34 : S12.1 54 43 = S7.1 54 43 := hS12.1 43 (by decide)
          have e35 : S7.1 54 43 = S2.1 54 43 := hS7.1 43 (by decide)
          omega), (by
          unfold PO
          intro x
          have e36 : S18.1 54 43 = S12.1 54 43 := hS18.1 43 (by decide)
          have e37 : S12.1 54 43 = S7.1 54 43 := hS12.1 43 (by decide)
          have e38 : S7.1 54 43 = S2.1 54 43 := hS7.1 43 (by decide)
          omega), ⟨by omega, Or.inl rfl⟩, (by
          unfold PB
          have e39 : S18.1 54 41 = S12.1 54 41 := hS18.1 41 (by decide)
          have e40 : S12.1 54 41 = S7.1 54 41 := hS12.1 41 (by decide)
          have e41 : S7.1 54 41 = S2.1 54 41 := hS7.1 41 (by decide)
          have e42 : S2.1 54 41 = S.1 54 41 := hS2.1 41 (by decide)
          have e43 : S18.1 54 56 = S12.1 54 56 := hS18.1 56 (by decide)
          have e44 : S18.1 54 51 = S12.1 54 51 := hS18.1 51 (by decide)
          have e45 : S12.1 54 51 = S7.1 54 51 := hS12.1 51 (by decide)
          exact Or.inr ⟨by omega, by omega, by omega⟩), (by
          unfold P1
          refine Or.inr (Or.inr ⟨rfl, by omega, ?_⟩)
          have e84 : S18.2 84 = S.2 84 := ((Ch.tr (Ch.tr (Ch.tr hS2 hS7) hS12) hS18)).2 84 (by decide)
          omega), by omega, by omega⟩
    obtain ⟨hS51h, i51_0, i51_1, i51_2, i51_3, i51_4, i51_5, i51_6, i51_7, i51_8, i51_9, i51_10, i51_11, i51_12⟩ := hI
    unfold wX11_parse_51'
    refine ⟨by omega, ?_⟩
    refine ⟨fun h53 => ?_, fun h53 => ?_⟩
    · unfold wX11_parse_300
      intro q46
      refine ⟨fun h306 => ?_, fun h306 => ?_⟩
      · have hib : PB S51h (v51_1) := i51_9
        unfold PB at hib
        have hib := hib.resolve_left (by omega)
        refine ⟨by omega, ?_⟩
        have e47 : S51h.1 54 41 = S18.1 54 41 := hS51h.1 41 (by decide)
        have e48 : S18.1 54 41 = S12.1 54 41 := hS18.1 41 (by decide)
        have e49 : S12.1 54 41 = S7.1 54 41 := hS12.1 41 (by decide)
        have e50 : S7.1 54 41 = S2.1 54 41 := hS7.1 41 (by decide)
        have e51 : S2.1 54 41 = S.1 54 41 := hS2.1 41 (by decide)
        have e52 : S51h.1 54 41 = S18.1 54 41 := hS51h.1 41 (by decide)
        have e53 : S18.1 54 41 = S12.1 54 41 := hS18.1 41 (by decide)
        have e54 : S12.1 54 41 = S7.1 54 41 := hS12.1 41 (by decide)
        have e55 : S7.1 54 41 = S2.1 54 41 := hS7.1 41 (by decide)
        have e56 : S2.1 54 41 = S.1 54 41 := hS2.1 41 (by decide)
        have e57 : S51h.1 54 41 = S18.1 54 41 := hS51h.1 41 (by decide)
        have e58 : S18.1 54 41 = S12.1 54 41 := hS18.1 41 (by decide)
        have e59 : S12.1 54 41 = S7.1 54 41 := hS12.1 41 (by decide)
        have e60 : S7.1 54 41 = S2.1 54 41 := hS7.1 41 (by decide)
        have e61 : S2.1 54 41 = S.1 54 41 := hS2.1 41 (by decide)
        refine tX11_blanksFrom (by omega) (by omega) (by omega) (fun r312 n312_0 n312_1 => ?_)
        intro q62
        have e63 : S51h.1 54 41 = S18.1 54 41 := hS51h.1 41 (by decide)
        have e64 : S18.1 54 41 = S12.1 54 41 := hS18.1 41 (by decide)
        have e65 : S12.1 54 41 = S7.1 54 41 := hS12.1 41 (by decide)
        have e66 : S7.1 54 41 = S2.1 54 41 := hS7.1 41 (by decide)
        have e67 : S2.1 54 41 = S.1 54 41 := hS2.1 41 (by decide)
        refine ⟨by omega, ?_⟩
        refine ⟨fun h321 => ?_, fun h321 => ?_⟩
        · exact hK (0) S51h (Ch.wk (Ch.tr (Ch.tr (Ch.tr (Ch.tr hS2 hS7) hS12) hS18) hS51h) (by decide) (by decide)) i51_5 i51_6 i51_7 (by omega)
        · refine tX11_fail (by omega) (fun r326 S326 hS326 n326_0 => ?_)
          have e68 : S326.1 54 43 = S51h.1 54 43 := hS326.1 43 (by decide)
          exact hK (0) S326 (Ch.wk (Ch.tr (Ch.tr (Ch.tr (Ch.tr (Ch.tr hS2 hS7) hS12) hS18) hS51h) hS326) (by decide) (by decide)) (PA.mv2 i51_5 ((hS326).1 51 (by decide)) ((hS326).1 56 (by decide)) ((hS326).2 92 (by decide)) ((hS326).2 93 (by decide)) ((hS326).2 94 (by decide)) ((hS326).2 95 (by decide))) (PR.mv i51_6 ((hS326).1 43 (by decide)) ((hS326).1 51 (by decide)) ((hS326).2 86 (by decide)) ((hS326).2 87 (by decide)) ((hS326).2 88 (by decide)) ((hS326).2 90 (by decide)) ((hS326).2 91 (by decide))) (PO.mv i51_7 ((hS326).1 43 (by decide)) ((hS326).2 88 (by decide))) (by omega)
      · exact hK (0) S51h (Ch.wk (Ch.tr (Ch.tr (Ch.tr (Ch.tr hS2 hS7) hS12) hS18) hS51h) (by decide) (by decide)) i51_5 i51_6 i51_7 (by omega)
    · intro q69
      refine ⟨fun h62 => ?_, fun h62 => ?_⟩
      · unfold wX11_parse_300
        intro q70
        refine ⟨fun h306 => ?_, fun h306 => ?_⟩
        · have hib : PB S51h (v51_1) := i51_9
          unfold PB at hib
          have hib := hib.resolve_left (by omega)
          refine ⟨by omega, ?_⟩
          have e71 : S51h.1 54 41 = S18.1 54 41 := hS51h.1 41 (by decide)
          have e72 : S18.1 54 41 = S12.1 54 41 := hS18.1 41 (by decide)
          have e73 : S12.1 54 41 = S7.1 54 41 := hS12.1 41 (by decide)
          have e74 : S7.1 54 41 = S2.1 54 41 := hS7.1 41 (by decide)
          have e75 : S2.1 54 41 = S.1 54 41 := hS2.1 41 (by decide)
          have e76 : S51h.1 54 41 = S18.1 54 41 := hS51h.1 41 (by decide)
          have e77 : S18.1 54 41 = S12.1 54 41 := hS18.1 41 (by decide)
          have e78 : S12.1 54 41 = S7.1 54 41 := hS12.1 41 (by decide)
          have e79 : S7.1 54 41 = S2.1 54 41 := hS7.1 41 (by decide)
          have e80 : S2.1 54 41 = S.1 54 41 := hS2.1 41 (by decide)
          have e81 : S51h.1 54 41 = S18.1 54 41 := hS51h.1 41 (by decide)
          have e82 : S18.1 54 41 = S12.1 54 41 := hS18.1 41 (by decide)
          have e83 : S12.1 54 41 = S7.1 54 41 := hS12.1 41 (by decide)
          have e84 : S7.1 54 41 = S2.1 54 41 := hS7.1 41 (by decide)
          have e85 : S2.1 54 41 = S.1 54 41 := hS2.1 41 (by decide)
          refine tX11_blanksFrom (by omega) (by omega) (by omega) (fun r312 n312_0 n312_1 => ?_)
          intro q86
          have e87 : S51h.1 54 41 = S18.1 54 41 := hS51h.1 41 (by decide)
          have e88 : S18.1 54 41 = S12.1 54 41 := hS18.1 41 (by decide)
          have e89 : S12.1 54 41 = S7.1 54 41 := hS12.1 41 (by decide)
          have e90 : S7.1 54 41 = S2.1 54 41 := hS7.1 41 (by decide)
          have e91 : S2.1 54 41 = S.1 54 41 := hS2.1 41 (by decide)
          refine ⟨by omega, ?_⟩
          refine ⟨fun h321 => ?_, fun h321 => ?_⟩
          · exact hK (0) S51h (Ch.wk (Ch.tr (Ch.tr (Ch.tr (Ch.tr hS2 hS7) hS12) hS18) hS51h) (by decide) (by decide)) i51_5 i51_6 i51_7 (by omega)
          · refine tX11_fail (by omega) (fun r326 S326 hS326 n326_0 => ?_)
            have e92 : S326.1 54 43 = S51h.1 54 43 := hS326.1 43 (by decide)
            exact hK (0) S326 (Ch.wk (Ch.tr (Ch.tr (Ch.tr (Ch.tr (Ch.tr hS2 hS7) hS12) hS18) hS51h) hS326) (by decide) (by decide)) (PA.mv2 i51_5 ((hS326).1 51 (by decide)) ((hS326).1 56 (by decide)) ((hS326).2 92 (by decide)) ((hS326).2 93 (by decide)) ((hS326).2 94 (by decide)) ((hS326).2 95 (by decide))) (PR.mv i51_6 ((hS326).1 43 (by decide)) ((hS326).1 51 (by decide)) ((hS326).2 86 (by decide)) ((hS326).2 87 (by decide)) ((hS326).2 88 (by decide)) ((hS326).2 90 (by decide)) ((hS326).2 91 (by decide))) (PO.mv i51_7 ((hS326).1 43 (by decide)) ((hS326).2 88 (by decide))) (by omega)
        · exact hK (0) S51h (Ch.wk (Ch.tr (Ch.tr (Ch.tr (Ch.tr hS2 hS7) hS12) hS18) hS51h) (by decide) (by decide)) i51_5 i51_6 i51_7 (by omega)
      · have hib : PB S51h (v51_1) := i51_9
        unfold PB at hib
        have hib := hib.resolve_left (by omega)
        have hE : PE S51h (v51_2) := i51_8
        have hE1 := hE.1
        have h1 : P1 S51h (v51_1) (v51_2) := i51_10
        unfold P1 at h1
        refine ⟨by omega, ?_⟩
        have e93 : S51h.1 54 41 = S18.1 54 41 := hS51h.1 41 (by decide)
        have e94 : S18.1 54 41 = S12.1 54 41 := hS18.1 41 (by decide)
        have e95 : S12.1 54 41 = S7.1 54 41 := hS12.1 41 (by decide)
        have e96 : S7.1 54 41 = S2.1 54 41 := hS7.1 41 (by decide)
        have e97 : S2.1 54 41 = S.1 54 41 := hS2.1 41 (by decide)
        have e98 : S51h.2 84 (v51_1) = S18.2 84 (v51_1) := congrFun (hS51h.2 84 (by decide)) _
        have e99 : S18.2 84 (v51_1) = S12.2 84 (v51_1) := congrFun (hS18.2 84 (by decide)) _
        have e100 : S12.2 84 (v51_1) = S7.2 84 (v51_1) := congrFun (hS12.2 84 (by decide)) _
        have e101 : S7.2 84 (v51_1) = S2.2 84 (v51_1) := congrFun (hS7.2 84 (by decide)) _
        have e102 : S2.2 84 (v51_1) = S.2 84 (v51_1) := congrFun (hS2.2 84 (by decide)) _
        have e103 : S51h.1 54 41 = S18.1 54 41 := hS51h.1 41 (by decide)
        have e104 : S18.1 54 41 = S12.1 54 41 := hS18.1 41 (by decide)
        have e105 : S12.1 54 41 = S7.1 54 41 := hS12.1 41 (by decide)
        have e106 : S7.1 54 41 = S2.1 54 41 := hS7.1 41 (by decide)
        have e107 : S2.1 54 41 = S.1 54 41 := hS2.1 41 (by decide)
        refine tX11_docAt (by omega) (fun r67 n67_0 n67_1 n67_2 => ?_)
        refine ⟨by omega, ?_⟩
        have e108 : S51h.1 54 41 = S18.1 54 41 := hS51h.1 41 (by decide)
        have e109 : S18.1 54 41 = S12.1 54 41 := hS18.1 41 (by decide)
        have e110 : S12.1 54 41 = S7.1 54 41 := hS12.1 41 (by decide)
        have e111 : S7.1 54 41 = S2.1 54 41 := hS7.1 41 (by decide)
        have e112 : S2.1 54 41 = S.1 54 41 := hS2.1 41 (by decide)
        have e113 : S51h.2 84 ((v51_1 + 1)) = S18.2 84 ((v51_1 + 1)) := congrFun (hS51h.2 84 (by decide)) _
        have e114 : S18.2 84 ((v51_1 + 1)) = S12.2 84 ((v51_1 + 1)) := congrFun (hS18.2 84 (by decide)) _
        have e115 : S12.2 84 ((v51_1 + 1)) = S7.2 84 ((v51_1 + 1)) := congrFun (hS12.2 84 (by decide)) _
        have e116 : S7.2 84 ((v51_1 + 1)) = S2.2 84 ((v51_1 + 1)) := congrFun (hS7.2 84 (by decide)) _
        have e117 : S2.2 84 ((v51_1 + 1)) = S.2 84 ((v51_1 + 1)) := congrFun (hS2.2 84 (by decide)) _
        have e118 : S51h.1 54 41 = S18.1 54 41 := hS51h.1 41 (by decide)
        have e119 : S18.1 54 41 = S12.1 54 41 := hS18.1 41 (by decide)
        have e120 : S12.1 54 41 = S7.1 54 41 := hS12.1 41 (by decide)
        have e121 : S7.1 54 41 = S2.1 54 41 := hS7.1 41 (by decide)
        have e122 : S2.1 54 41 = S.1 54 41 := hS2.1 41 (by decide)
        refine tX11_docAt (by omega) (fun r76 n76_0 n76_1 n76_2 => ?_)
        refine ⟨by omega, ?_⟩
        refine ⟨fun h84 => ?_, fun h84 => ?_⟩
        · unfold wX11_parse_97
          unfold wX11_parse_102
          refine ⟨by omega, ?_⟩
          refine ⟨fun h106 => ?_, fun h106 => ?_⟩
          · refine ⟨fun h121 => ?_, fun h121 => ?_⟩
            · refine ⟨fun h138 => ?_, fun h138 => ?_⟩
              · refine ⟨by omega, ?_⟩
                refine ⟨fun h158 => ?_, fun h158 => ?_⟩
                · unfold wX11_parse_200
                  refine ⟨by omega, ?_⟩
                  refine ⟨fun h204 => ?_, fun h204 => ?_⟩
                  · unfold wX11_parse_225
                    refine ⟨by omega, ?_⟩
                    refine ⟨fun h227 => ?_, fun h227 => ?_⟩
                    · intro S240 hS240e
                      have hS240 : Ch [60] [] S51h S240 := Ch_I hS240e
                      have hS240v : S240.1 54 60 = 0 := pI_at hS240e
                      refine ⟨by omega, ?_⟩
                      refine ⟨by omega, ?_⟩
                      refine ⟨by omega, ?_⟩
                      have e123 : S240.1 54 41 = S51h.1 54 41 := hS240.1 41 (by decide)
                      have e124 : S51h.1 54 41 = S18.1 54 41 := hS51h.1 41 (by decide)
                      have e125 : S18.1 54 41 = S12.1 54 41 := hS18.1 41 (by decide)
                      have e126 : S12.1 54 41 = S7.1 54 41 := hS12.1 41 (by decide)
                      have e127 : S7.1 54 41 = S2.1 54 41 := hS7.1 41 (by decide)
                      have e128 : S2.1 54 41 = S.1 54 41 := hS2.1 41 (by decide)
                      have e129 : S240.1 54 41 = S51h.1 54 41 := hS240.1 41 (by decide)
                      have e130 : S51h.1 54 41 = S18.1 54 41 := hS51h.1 41 (by decide)
                      have e131 : S18.1 54 41 = S12.1 54 41 := hS18.1 41 (by decide)
                      have e132 : S12.1 54 41 = S7.1 54 41 := hS12.1 41 (by decide)
                      have e133 : S7.1 54 41 = S2.1 54 41 := hS7.1 41 (by decide)
                      have e134 : S2.1 54 41 = S.1 54 41 := hS2.1 41 (by decide)
                      have e135 : S240.1 54 56 = S51h.1 54 56 := hS240.1 56 (by decide)
                      have e136 : S240.1 54 51 = S51h.1 54 51 := hS240.1 51 (by decide)
                      have e137 : S240.1 54 43 = S51h.1 54 43 := hS240.1 43 (by decide)
                      have e138 : S240.1 54 43 = S51h.1 54 43 := hS240.1 43 (by decide)
                      refine tX11_beginTag (by omega) (by omega) (by omega) (by omega) (by omega) (by omega) (PA.mv2 i51_5 ((hS240).1 51 (by decide)) ((hS240).1 56 (by decide)) ((hS240).2 92 (by decide)) ((hS240).2 93 (by decide)) ((hS240).2 94 (by decide)) ((hS240).2 95 (by decide))) (PR.mv i51_6 ((hS240).1 43 (by decide)) ((hS240).1 51 (by decide)) ((hS240).2 86 (by decide)) ((hS240).2 87 (by decide)) ((hS240).2 88 (by decide)) ((hS240).2 90 (by decide)) ((hS240).2 91 (by decide))) (PO.mv i51_7 ((hS240).1 43 (by decide)) ((hS240).2 88 (by decide))) (PE.mv i51_8 ((hS240).1 43 (by decide)) ((hS240).2 88 (by decide))) (by omega) (fun r247 S247 hS247 n247_0 n247_1 n247_2 n247_3 n247_4 n247_5 n247_6 n247_7 => ?_)
                      have hbr : (S247.1 54 43 = S240.1 54 43 + 1 ∧ S247.2 88 (S240.1 54 43) = v51_2) ∨ S247.1 54 43 = S240.1 54 43 := by
                        rcases n247_5 with h | h
                        · exact Or.inl h
                        · exact Or.inr h.1
                      intro q139
                      refine ⟨fun h255 => ?_, fun h255 => ?_⟩
                      · unfold wX11_parse_265
                        intro q140
                        refine ⟨fun h270 => ?_, fun h270 => ?_⟩
                        · unfold wX11_parse_283
                          refine ⟨by omega, ?_⟩
                          refine ⟨fun h287 => ?_, fun h287 => ?_⟩
                          · unfold wX11_parse_295
                            unfold wX11_parse_297
                            exact ⟨⟨(Ch.wk (Ch.tr (Ch.tr hS51h hS240) hS247) (by decide) (by decide)), by omega, by omega, by omega, by omega, by omega, n247_2, n247_3, n247_4, (PE_new (PE.mv i51_8 (hS240.1 43 (by decide)) (hS240.2 88 (by decide))) hbr n247_6), n247_7, (n247_5.elim (fun h => Or.inl (by omega)) (fun h => Or.inr (Or.inl (by omega)))), by omega, by omega⟩, show (2 * (3020 - r247) + min 1 (max 0 (-1 - (S247.1 54 59)))).toNat < (2 * (3020 - v51_1) + min 1 (max 0 (-1 - (S51h.1 54 59)))).toNat by omega⟩
                          · unfold wX11_parse_295
                            unfold wX11_parse_297
                            exact ⟨⟨(Ch.wk (Ch.tr (Ch.tr hS51h hS240) hS247) (by decide) (by decide)), by omega, by omega, by omega, by omega, by omega, n247_2, n247_3, n247_4, (PE_new (PE.mv i51_8 (hS240.1 43 (by decide)) (hS240.2 88 (by decide))) hbr n247_6), n247_7, (n247_5.elim (fun h => Or.inl (by omega)) (fun h => Or.inr (Or.inl (by omega)))), by omega, by omega⟩, show (2 * (3020 - r247) + min 1 (max 0 (-1 - (S247.1 54 59)))).toNat < (2 * (3020 - v51_1) + min 1 (max 0 (-1 - (S51h.1 54 59)))).toNat by omega⟩
                        · intro q141
                          unfold wX11_parse_283
                          refine ⟨by omega, ?_⟩
                          refine ⟨fun h287 => ?_, fun h287 => ?_⟩
                          · unfold wX11_parse_295
                            unfold wX11_parse_297
                            exact ⟨⟨(Ch.wk (Ch.tr (Ch.tr hS51h hS240) hS247) (by decide) (by decide)), by omega, by omega, by omega, by omega, by omega, n247_2, n247_3, n247_4, (PE_last (by omega)), n247_7, (n247_5.elim (fun h => Or.inl (by omega)) (fun h => Or.inr (Or.inl (by omega)))), by omega, by omega⟩, show (2 * (3020 - r247) + min 1 (max 0 (-1 - (S247.1 54 59)))).toNat < (2 * (3020 - v51_1) + min 1 (max 0 (-1 - (S51h.1 54 59)))).toNat by omega⟩
                          · unfold wX11_parse_295
                            unfold wX11_parse_297
                            exact ⟨⟨(Ch.wk (Ch.tr (Ch.tr hS51h hS240) hS247) (by decide) (by decide)), by omega, by omega, by omega, by omega, by omega, n247_2, n247_3, n247_4, (PE_last (by omega)), n247_7, (n247_5.elim (fun h => Or.inl (by omega)) (fun h => Or.inr (Or.inl (by omega)))), by omega, by omega⟩, show (2 * (3020 - r247) + min 1 (max 0 (-1 - (S247.1 54 59)))).toNat < (2 * (3020 - v51_1) + min 1 (max 0 (-1 - (S51h.1 54 59)))).toNat by omega⟩
                      · unfold wX11_parse_265
                        intro q142
                        refine ⟨fun h270 => ?_, fun h270 => ?_⟩
                        · unfold wX11_parse_283
                          refine ⟨by omega, ?_⟩
                          refine ⟨fun h287 => ?_, fun h287 => ?_⟩
                          · unfold wX11_parse_295
                            unfold wX11_parse_297
                            exact ⟨⟨(Ch.wk (Ch.tr (Ch.tr hS51h hS240) hS247) (by decide) (by decide)), by omega, by omega, by omega, by omega, by omega, n247_2, n247_3, n247_4, (PE_new (PE.mv i51_8 (hS240.1 43 (by decide)) (hS240.2 88 (by decide))) hbr n247_6), n247_7, (n247_5.elim (fun h => Or.inl (by omega)) (fun h => Or.inr (Or.inl (by omega)))), by omega, by omega⟩, show (2 * (3020 - r247) + min 1 (max 0 (-1 - (S247.1 54 59)))).toNat < (2 * (3020 - v51_1) + min 1 (max 0 (-1 - (S51h.1 54 59)))).toNat by omega⟩
                          · unfold wX11_parse_295
                            unfold wX11_parse_297
                            exact ⟨⟨(Ch.wk (Ch.tr (Ch.tr hS51h hS240) hS247) (by decide) (by decide)), by omega, by omega, by omega, by omega, by omega, n247_2, n247_3, n247_4, (PE_new (PE.mv i51_8 (hS240.1 43 (by decide)) (hS240.2 88 (by decide))) hbr n247_6), n247_7, (n247_5.elim (fun h => Or.inl (by omega)) (fun h => Or.inr (Or.inl (by omega)))), by omega, by omega⟩, show (2 * (3020 - r247) + min 1 (max 0 (-1 - (S247.1 54 59)))).toNat < (2 * (3020 - v51_1) + min 1 (max 0 (-1 - (S51h.1 54 59)))).toNat by omega⟩
                        · intro q143
                          unfold wX11_parse_283
                          refine ⟨by omega, ?_⟩
                          refine ⟨fun h287 => ?_, fun h287 => ?_⟩
                          · unfold wX11_parse_295
                            unfold wX11_parse_297
                            exact ⟨⟨(Ch.wk (Ch.tr (Ch.tr hS51h hS240) hS247) (by decide) (by decide)), by omega, by omega, by omega, by omega, by omega, n247_2, n247_3, n247_4, (PE_last (by omega)), n247_7, (n247_5.elim (fun h => Or.inl (by omega)) (fun h => Or.inr (Or.inl (by omega)))), by omega, by omega⟩, show (2 * (3020 - r247) + min 1 (max 0 (-1 - (S247.1 54 59)))).toNat < (2 * (3020 - v51_1) + min 1 (max 0 (-1 - (S51h.1 54 59)))).toNat by omega⟩
                          · unfold wX11_parse_295
                            unfold wX11_parse_297
                            exact ⟨⟨(Ch.wk (Ch.tr (Ch.tr hS51h hS240) hS247) (by decide) (by decide)), by omega, by omega, by omega, by omega, by omega, n247_2, n247_3, n247_4, (PE_last (by omega)), n247_7, (n247_5.elim (fun h => Or.inl (by omega)) (fun h => Or.inr (Or.inl (by omega)))), by omega, by omega⟩, show (2 * (3020 - r247) + min 1 (max 0 (-1 - (S247.1 54 59)))).toNat < (2 * (3020 - v51_1) + min 1 (max 0 (-1 - (S51h.1 54 59)))).toNat by omega⟩
                    · refine ⟨by omega, ?_⟩
                      refine tX11_fail (by omega) (fun r232 S232 hS232 n232_0 => ?_)
                      unfold wX11_parse_297
                      have e144 : S232.1 54 43 = S51h.1 54 43 := hS232.1 43 (by decide)
                      have e145 : S232.1 54 43 = S51h.1 54 43 := hS232.1 43 (by decide)
                      exact ⟨⟨(Ch.wk (Ch.tr hS51h hS232) (by decide) (by decide)), by omega, by omega, by omega, by omega, by omega, (PA.mv3 i51_5 ((hS232).1 51 (by decide)) ((hS232).2 92 (by decide)) ((hS232).2 93 (by decide)) ((hS232).2 94 (by decide)) ((hS232).2 95 (by decide))), (PR.mv i51_6 ((hS232).1 43 (by decide)) ((hS232).1 51 (by decide)) ((hS232).2 86 (by decide)) ((hS232).2 87 (by decide)) ((hS232).2 88 (by decide)) ((hS232).2 90 (by decide)) ((hS232).2 91 (by decide))), (PO.mv i51_7 ((hS232).1 43 (by decide)) ((hS232).2 88 (by decide))), (PE.mv i51_8 ((hS232).1 43 (by decide)) ((hS232).2 88 (by decide))), (by
                            unfold PB
                            have e146 : S232.1 54 41 = S51h.1 54 41 := hS232.1 41 (by decide)
                            have e147 : S51h.1 54 41 = S18.1 54 41 := hS51h.1 41 (by decide)
                            have e148 : S18.1 54 41 = S12.1 54 41 := hS18.1 41 (by decide)
                            have e149 : S12.1 54 41 = S7.1 54 41 := hS12.1 41 (by decide)
                            have e150 : S7.1 54 41 = S2.1 54 41 := hS7.1 41 (by decide)
                            have e151 : S2.1 54 41 = S.1 54 41 := hS2.1 41 (by decide)
                            have e152 : S232.1 54 56 = S51h.1 54 56 := hS232.1 56 (by decide)
                            have e153 : S232.1 54 51 = S51h.1 54 51 := hS232.1 51 (by decide)
                            first
                            | exact Or.inl (by omega)
                            | exact (Classical.em (-1 ≤ S232.1 54 59)).elim (fun hb => Or.inl hb) (fun hb => Or.inr ⟨by omega, by omega, by omega⟩)), (by
                            unfold P1
                            have e154 : S232.1 54 43 = S51h.1 54 43 := hS232.1 43 (by decide)
                            first | exact Or.inr (Or.inl (by omega)) | exact Or.inl (by omega)), by omega, by omega⟩, show (2 * (3020 - v51_1) + min 1 (max 0 (-1 - (S232.1 54 59)))).toNat < (2 * (3020 - v51_1) + min 1 (max 0 (-1 - (S51h.1 54 59)))).toNat by omega⟩
                  · refine ⟨by omega, ?_⟩
                    refine ⟨fun h210 => ?_, fun h210 => ?_⟩
                    · unfold wX11_parse_225
                      refine ⟨by omega, ?_⟩
                      refine ⟨fun h227 => ?_, fun h227 => ?_⟩
                      · intro S240 hS240e
                        have hS240 : Ch [60] [] S51h S240 := Ch_I hS240e
                        have hS240v : S240.1 54 60 = 0 := pI_at hS240e
                        refine ⟨by omega, ?_⟩
                        refine ⟨by omega, ?_⟩
                        refine ⟨by omega, ?_⟩
                        have e155 : S240.1 54 41 = S51h.1 54 41 := hS240.1 41 (by decide)
                        have e156 : S51h.1 54 41 = S18.1 54 41 := hS51h.1 41 (by decide)
                        have e157 : S18.1 54 41 = S12.1 54 41 := hS18.1 41 (by decide)
                        have e158 : S12.1 54 41 = S7.1 54 41 := hS12.1 41 (by decide)
                        have e159 : S7.1 54 41 = S2.1 54 41 := hS7.1 41 (by decide)
                        have e160 : S2.1 54 41 = S.1 54 41 := hS2.1 41 (by decide)
                        have e161 : S240.1 54 41 = S51h.1 54 41 := hS240.1 41 (by decide)
                        have e162 : S51h.1 54 41 = S18.1 54 41 := hS51h.1 41 (by decide)
                        have e163 : S18.1 54 41 = S12.1 54 41 := hS18.1 41 (by decide)
                        have e164 : S12.1 54 41 = S7.1 54 41 := hS12.1 41 (by decide)
                        have e165 : S7.1 54 41 = S2.1 54 41 := hS7.1 41 (by decide)
                        have e166 : S2.1 54 41 = S.1 54 41 := hS2.1 41 (by decide)
                        have e167 : S240.1 54 56 = S51h.1 54 56 := hS240.1 56 (by decide)
                        have e168 : S240.1 54 51 = S51h.1 54 51 := hS240.1 51 (by decide)
                        have e169 : S240.1 54 43 = S51h.1 54 43 := hS240.1 43 (by decide)
                        have e170 : S240.1 54 43 = S51h.1 54 43 := hS240.1 43 (by decide)
                        refine tX11_beginTag (by omega) (by omega) (by omega) (by omega) (by omega) (by omega) (PA.mv2 i51_5 ((hS240).1 51 (by decide)) ((hS240).1 56 (by decide)) ((hS240).2 92 (by decide)) ((hS240).2 93 (by decide)) ((hS240).2 94 (by decide)) ((hS240).2 95 (by decide))) (PR.mv i51_6 ((hS240).1 43 (by decide)) ((hS240).1 51 (by decide)) ((hS240).2 86 (by decide)) ((hS240).2 87 (by decide)) ((hS240).2 88 (by decide)) ((hS240).2 90 (by decide)) ((hS240).2 91 (by decide))) (PO.mv i51_7 ((hS240).1 43 (by decide)) ((hS240).2 88 (by decide))) (PE.mv i51_8 ((hS240).1 43 (by decide)) ((hS240).2 88 (by decide))) (by omega) (fun r247 S247 hS247 n247_0 n247_1 n247_2 n247_3 n247_4 n247_5 n247_6 n247_7 => ?_)
                        have hbr : (S247.1 54 43 = S240.1 54 43 + 1 ∧ S247.2 88 (S240.1 54 43) = v51_2) ∨ S247.1 54 43 = S240.1 54 43 := by
                          rcases n247_5 with h | h
                          · exact Or.inl h
                          · exact Or.inr h.1
                        intro q171
                        refine ⟨fun h255 => ?_, fun h255 => ?_⟩
                        · unfold wX11_parse_265
                          intro q172
                          refine ⟨fun h270 => ?_, fun h270 => ?_⟩
                          · unfold wX11_parse_283
                            refine ⟨by omega, ?_⟩
                            refine ⟨fun h287 => ?_, fun h287 => ?_⟩
                            · unfold wX11_parse_295
                              unfold wX11_parse_297
                              exact ⟨⟨(Ch.wk (Ch.tr (Ch.tr hS51h hS240) hS247) (by decide) (by decide)), by omega, by omega, by omega, by omega, by omega, n247_2, n247_3, n247_4, (PE_new (PE.mv i51_8 (hS240.1 43 (by decide)) (hS240.2 88 (by decide))) hbr n247_6), n247_7, (n247_5.elim (fun h => Or.inl (by omega)) (fun h => Or.inr (Or.inl (by omega)))), by omega, by omega⟩, show (2 * (3020 - r247) + min 1 (max 0 (-1 - (S247.1 54 59)))).toNat < (2 * (3020 - v51_1) + min 1 (max 0 (-1 - (S51h.1 54 59)))).toNat by omega⟩
                            · unfold wX11_parse_295
                              unfold wX11_parse_297
                              exact ⟨⟨(Ch.wk (Ch.tr (Ch.tr hS51h hS240) hS247) (by decide) (by decide)), by omega, by omega, by omega, by omega, by omega, n247_2, n247_3, n247_4, (PE_new (PE.mv i51_8 (hS240.1 43 (by decide)) (hS240.2 88 (by decide))) hbr n247_6), n247_7, (n247_5.elim (fun h => Or.inl (by omega)) (fun h => Or.inr (Or.inl (by omega)))), by omega, by omega⟩, show (2 * (3020 - r247) + min 1 (max 0 (-1 - (S247.1 54 59)))).toNat < (2 * (3020 - v51_1) + min 1 (max 0 (-1 - (S51h.1 54 59)))).toNat by omega⟩
                          · intro q173
                            unfold wX11_parse_283
                            refine ⟨by omega, ?_⟩
                            refine ⟨fun h287 => ?_, fun h287 => ?_⟩
                            · unfold wX11_parse_295
                              unfold wX11_parse_297
                              exact ⟨⟨(Ch.wk (Ch.tr (Ch.tr hS51h hS240) hS247) (by decide) (by decide)), by omega, by omega, by omega, by omega, by omega, n247_2, n247_3, n247_4, (PE_last (by omega)), n247_7, (n247_5.elim (fun h => Or.inl (by omega)) (fun h => Or.inr (Or.inl (by omega)))), by omega, by omega⟩, show (2 * (3020 - r247) + min 1 (max 0 (-1 - (S247.1 54 59)))).toNat < (2 * (3020 - v51_1) + min 1 (max 0 (-1 - (S51h.1 54 59)))).toNat by omega⟩
                            · unfold wX11_parse_295
                              unfold wX11_parse_297
                              exact ⟨⟨(Ch.wk (Ch.tr (Ch.tr hS51h hS240) hS247) (by decide) (by decide)), by omega, by omega, by omega, by omega, by omega, n247_2, n247_3, n247_4, (PE_last (by omega)), n247_7, (n247_5.elim (fun h => Or.inl (by omega)) (fun h => Or.inr (Or.inl (by omega)))), by omega, by omega⟩, show (2 * (3020 - r247) + min 1 (max 0 (-1 - (S247.1 54 59)))).toNat < (2 * (3020 - v51_1) + min 1 (max 0 (-1 - (S51h.1 54 59)))).toNat by omega⟩
                        · unfold wX11_parse_265
                          intro q174
                          refine ⟨fun h270 => ?_, fun h270 => ?_⟩
                          · unfold wX11_parse_283
                            refine ⟨by omega, ?_⟩
                            refine ⟨fun h287 => ?_, fun h287 => ?_⟩
                            · unfold wX11_parse_295
                              unfold wX11_parse_297
                              exact ⟨⟨(Ch.wk (Ch.tr (Ch.tr hS51h hS240) hS247) (by decide) (by decide)), by omega, by omega, by omega, by omega, by omega, n247_2, n247_3, n247_4, (PE_new (PE.mv i51_8 (hS240.1 43 (by decide)) (hS240.2 88 (by decide))) hbr n247_6), n247_7, (n247_5.elim (fun h => Or.inl (by omega)) (fun h => Or.inr (Or.inl (by omega)))), by omega, by omega⟩, show (2 * (3020 - r247) + min 1 (max 0 (-1 - (S247.1 54 59)))).toNat < (2 * (3020 - v51_1) + min 1 (max 0 (-1 - (S51h.1 54 59)))).toNat by omega⟩
                            · unfold wX11_parse_295
                              unfold wX11_parse_297
                              exact ⟨⟨(Ch.wk (Ch.tr (Ch.tr hS51h hS240) hS247) (by decide) (by decide)), by omega, by omega, by omega, by omega, by omega, n247_2, n247_3, n247_4, (PE_new (PE.mv i51_8 (hS240.1 43 (by decide)) (hS240.2 88 (by decide))) hbr n247_6), n247_7, (n247_5.elim (fun h => Or.inl (by omega)) (fun h => Or.inr (Or.inl (by omega)))), by omega, by omega⟩, show (2 * (3020 - r247) + min 1 (max 0 (-1 - (S247.1 54 59)))).toNat < (2 * (3020 - v51_1) + min 1 (max 0 (-1 - (S51h.1 54 59)))).toNat by omega⟩
                          · intro q175
                            unfold wX11_parse_283
                            refine ⟨by omega, ?_⟩
                            refine ⟨fun h287 => ?_, fun h287 => ?_⟩
                            · unfold wX11_parse_295
                              unfold wX11_parse_297
                              exact ⟨⟨(Ch.wk (Ch.tr (Ch.tr hS51h hS240) hS247) (by decide) (by decide)), by omega, by omega, by omega, by omega, by omega, n247_2, n247_3, n247_4, (PE_last (by omega)), n247_7, (n247_5.elim (fun h => Or.inl (by omega)) (fun h => Or.inr (Or.inl (by omega)))), by omega, by omega⟩, show (2 * (3020 - r247) + min 1 (max 0 (-1 - (S247.1 54 59)))).toNat < (2 * (3020 - v51_1) + min 1 (max 0 (-1 - (S51h.1 54 59)))).toNat by omega⟩
                            · unfold wX11_parse_295
                              unfold wX11_parse_297
                              exact ⟨⟨(Ch.wk (Ch.tr (Ch.tr hS51h hS240) hS247) (by decide) (by decide)), by omega, by omega, by omega, by omega, by omega, n247_2, n247_3, n247_4, (PE_last (by omega)), n247_7, (n247_5.elim (fun h => Or.inl (by omega)) (fun h => Or.inr (Or.inl (by omega)))), by omega, by omega⟩, show (2 * (3020 - r247) + min 1 (max 0 (-1 - (S247.1 54 59)))).toNat < (2 * (3020 - v51_1) + min 1 (max 0 (-1 - (S51h.1 54 59)))).toNat by omega⟩
                      · refine ⟨by omega, ?_⟩
                        refine tX11_fail (by omega) (fun r232 S232 hS232 n232_0 => ?_)
                        unfold wX11_parse_297
                        have e176 : S232.1 54 43 = S51h.1 54 43 := hS232.1 43 (by decide)
                        have e177 : S232.1 54 43 = S51h.1 54 43 := hS232.1 43 (by decide)
                        exact ⟨⟨(Ch.wk (Ch.tr hS51h hS232) (by decide) (by decide)), by omega, by omega, by omega, by omega, by omega, (PA.mv3 i51_5 ((hS232).1 51 (by decide)) ((hS232).2 92 (by decide)) ((hS232).2 93 (by decide)) ((hS232).2 94 (by decide)) ((hS232).2 95 (by decide))), (PR.mv i51_6 ((hS232).1 43 (by decide)) ((hS232).1 51 (by decide)) ((hS232).2 86 (by decide)) ((hS232).2 87 (by decide)) ((hS232).2 88 (by decide)) ((hS232).2 90 (by decide)) ((hS232).2 91 (by decide))), (PO.mv i51_7 ((hS232).1 43 (by decide)) ((hS232).2 88 (by decide))), (PE.mv i51_8 ((hS232).1 43 (by decide)) ((hS232).2 88 (by decide))), (by
                              unfold PB
                              have e178 : S232.1 54 41 = S51h.1 54 41 := hS232.1 41 (by decide)
                              have e179 : S51h.1 54 41 = S18.1 54 41 := hS51h.1 41 (by decide)
                              have e180 : S18.1 54 41 = S12.1 54 41 := hS18.1 41 (by decide)
                              have e181 : S12.1 54 41 = S7.1 54 41 := hS12.1 41 (by decide)
                              have e182 : S7.1 54 41 = S2.1 54 41 := hS7.1 41 (by decide)
                              have e183 : S2.1 54 41 = S.1 54 41 := hS2.1 41 (by decide)
                              have e184 : S232.1 54 56 = S51h.1 54 56 := hS232.1 56 (by decide)
                              have e185 : S232.1 54 51 = S51h.1 54 51 := hS232.1 51 (by decide)
                              first
                              | exact Or.inl (by omega)
                              | exact (Classical.em (-1 ≤ S232.1 54 59)).elim (fun hb => Or.inl hb) (fun hb => Or.inr ⟨by omega, by omega, by omega⟩)), (by
                              unfold P1
                              have e186 : S232.1 54 43 = S51h.1 54 43 := hS232.1 43 (by decide)
                              first | exact Or.inr (Or.inl (by omega)) | exact Or.inl (by omega)), by omega, by omega⟩, show (2 * (3020 - v51_1) + min 1 (max 0 (-1 - (S232.1 54 59)))).toNat < (2 * (3020 - v51_1) + min 1 (max 0 (-1 - (S51h.1 54 59)))).toNat by omega⟩
                    · refine ⟨by omega, ?_⟩
                      refine ⟨by omega, ?_⟩
                      have e187 : S51h.1 54 41 = S18.1 54 41 := hS51h.1 41 (by decide)
                      have e188 : S18.1 54 41 = S12.1 54 41 := hS18.1 41 (by decide)
                      have e189 : S12.1 54 41 = S7.1 54 41 := hS12.1 41 (by decide)
                      have e190 : S7.1 54 41 = S2.1 54 41 := hS7.1 41 (by decide)
                      have e191 : S2.1 54 41 = S.1 54 41 := hS2.1 41 (by decide)
                      have e192 : S51h.1 54 41 = S18.1 54 41 := hS51h.1 41 (by decide)
                      have e193 : S18.1 54 41 = S12.1 54 41 := hS18.1 41 (by decide)
                      have e194 : S12.1 54 41 = S7.1 54 41 := hS12.1 41 (by decide)
                      have e195 : S7.1 54 41 = S2.1 54 41 := hS7.1 41 (by decide)
                      have e196 : S2.1 54 41 = S.1 54 41 := hS2.1 41 (by decide)
                      have e197 : S51h.1 54 41 = S18.1 54 41 := hS51h.1 41 (by decide)
                      have e198 : S18.1 54 41 = S12.1 54 41 := hS18.1 41 (by decide)
                      have e199 : S12.1 54 41 = S7.1 54 41 := hS12.1 41 (by decide)
                      have e200 : S7.1 54 41 = S2.1 54 41 := hS7.1 41 (by decide)
                      have e201 : S2.1 54 41 = S.1 54 41 := hS2.1 41 (by decide)
                      refine tX11_section (by omega) (by omega) (by omega) (by omega) (by omega) (by omega) (fun r218 S218 hS218 n218_0 n218_1 n218_2 n218_3 => ?_)
                      unfold wX11_parse_297
                      have e202 : S218.1 54 43 = S51h.1 54 43 := hS218.1 43 (by decide)
                      have e203 : S218.1 54 43 = S51h.1 54 43 := hS218.1 43 (by decide)
                      exact ⟨⟨(Ch.wk (Ch.tr hS51h hS218) (by decide) (by decide)), by omega, by omega, by omega, by omega, by omega, (PA.mv3 i51_5 ((hS218).1 51 (by decide)) ((hS218).2 92 (by decide)) ((hS218).2 93 (by decide)) ((hS218).2 94 (by decide)) ((hS218).2 95 (by decide))), (PR.mv i51_6 ((hS218).1 43 (by decide)) ((hS218).1 51 (by decide)) ((hS218).2 86 (by decide)) ((hS218).2 87 (by decide)) ((hS218).2 88 (by decide)) ((hS218).2 90 (by decide)) ((hS218).2 91 (by decide))), (PO.mv i51_7 ((hS218).1 43 (by decide)) ((hS218).2 88 (by decide))), (PE.mv i51_8 ((hS218).1 43 (by decide)) ((hS218).2 88 (by decide))), (by
                            unfold PB
                            have e204 : S218.1 54 41 = S51h.1 54 41 := hS218.1 41 (by decide)
                            have e205 : S51h.1 54 41 = S18.1 54 41 := hS51h.1 41 (by decide)
                            have e206 : S18.1 54 41 = S12.1 54 41 := hS18.1 41 (by decide)
                            have e207 : S12.1 54 41 = S7.1 54 41 := hS12.1 41 (by decide)
                            have e208 : S7.1 54 41 = S2.1 54 41 := hS7.1 41 (by decide)
                            have e209 : S2.1 54 41 = S.1 54 41 := hS2.1 41 (by decide)
                            have e210 : S218.1 54 51 = S51h.1 54 51 := hS218.1 51 (by decide)
                            first
                            | exact Or.inl (by omega)
                            | exact (Classical.em (-1 ≤ S218.1 54 59)).elim (fun hb => Or.inl hb) (fun hb => Or.inr ⟨by omega, by omega, by omega⟩)), (by
                            unfold P1
                            have e211 : S218.1 54 43 = S51h.1 54 43 := hS218.1 43 (by decide)
                            first | exact Or.inr (Or.inl (by omega)) | exact Or.inl (by omega)), by omega, by omega⟩, show (2 * (3020 - r218) + min 1 (max 0 (-1 - (S218.1 54 59)))).toNat < (2 * (3020 - v51_1) + min 1 (max 0 (-1 - (S51h.1 54 59)))).toNat by omega⟩
                · refine ⟨by omega, ?_⟩
                  refine ⟨fun h164 => ?_, fun h164 => ?_⟩
                  · unfold wX11_parse_200
                    refine ⟨by omega, ?_⟩
                    refine ⟨fun h204 => ?_, fun h204 => ?_⟩
                    · unfold wX11_parse_225
                      refine ⟨by omega, ?_⟩
                      refine ⟨fun h227 => ?_, fun h227 => ?_⟩
                      · intro S240 hS240e
                        have hS240 : Ch [60] [] S51h S240 := Ch_I hS240e
                        have hS240v : S240.1 54 60 = 0 := pI_at hS240e
                        refine ⟨by omega, ?_⟩
                        refine ⟨by omega, ?_⟩
                        refine ⟨by omega, ?_⟩
                        have e212 : S240.1 54 41 = S51h.1 54 41 := hS240.1 41 (by decide)
                        have e213 : S51h.1 54 41 = S18.1 54 41 := hS51h.1 41 (by decide)
                        have e214 : S18.1 54 41 = S12.1 54 41 := hS18.1 41 (by decide)
                        have e215 : S12.1 54 41 = S7.1 54 41 := hS12.1 41 (by decide)
                        have e216 : S7.1 54 41 = S2.1 54 41 := hS7.1 41 (by decide)
                        have e217 : S2.1 54 41 = S.1 54 41 := hS2.1 41 (by decide)
                        have e218 : S240.1 54 41 = S51h.1 54 41 := hS240.1 41 (by decide)
                        have e219 : S51h.1 54 41 = S18.1 54 41 := hS51h.1 41 (by decide)
                        have e220 : S18.1 54 41 = S12.1 54 41 := hS18.1 41 (by decide)
                        have e221 : S12.1 54 41 = S7.1 54 41 := hS12.1 41 (by decide)
                        have e222 : S7.1 54 41 = S2.1 54 41 := hS7.1 41 (by decide)
                        have e223 : S2.1 54 41 = S.1 54 41 := hS2.1 41 (by decide)
                        have e224 : S240.1 54 56 = S51h.1 54 56 := hS240.1 56 (by decide)
                        have e225 : S240.1 54 51 = S51h.1 54 51 := hS240.1 51 (by decide)
                        have e226 : S240.1 54 43 = S51h.1 54 43 := hS240.1 43 (by decide)
                        have e227 : S240.1 54 43 = S51h.1 54 43 := hS240.1 43 (by decide)
                        refine tX11_beginTag (by omega) (by omega) (by omega) (by omega) (by omega) (by omega) (PA.mv2 i51_5 ((hS240).1 51 (by decide)) ((hS240).1 56 (by decide)) ((hS240).2 92 (by decide)) ((hS240).2 93 (by decide)) ((hS240).2 94 (by decide)) ((hS240).2 95 (by decide))) (PR.mv i51_6 ((hS240).1 43 (by decide)) ((hS240).1 51 (by decide)) ((hS240).2 86 (by decide)) ((hS240).2 87 (by decide)) ((hS240).2 88 (by decide)) ((hS240).2 90 (by decide)) ((hS240).2 91 (by decide))) (PO.mv i51_7 ((hS240).1 43 (by decide)) ((hS240).2 88 (by decide))) (PE.mv i51_8 ((hS240).1 43 (by decide)) ((hS240).2 88 (by decide))) (by omega) (fun r247 S247 hS247 n247_0 n247_1 n247_2 n247_3 n247_4 n247_5 n247_6 n247_7 => ?_)
                        have hbr : (S247.1 54 43 = S240.1 54 43 + 1 ∧ S247.2 88 (S240.1 54 43) = v51_2) ∨ S247.1 54 43 = S240.1 54 43 := by
                          rcases n247_5 with h | h
                          · exact Or.inl h
                          · exact Or.inr h.1
                        intro q228
                        refine ⟨fun h255 => ?_, fun h255 => ?_⟩
                        · unfold wX11_parse_265
                          intro q229
                          refine ⟨fun h270 => ?_, fun h270 => ?_⟩
                          · unfold wX11_parse_283
                            refine ⟨by omega, ?_⟩
                            refine ⟨fun h287 => ?_, fun h287 => ?_⟩
                            · unfold wX11_parse_295
                              unfold wX11_parse_297
                              exact ⟨⟨(Ch.wk (Ch.tr (Ch.tr hS51h hS240) hS247) (by decide) (by decide)), by omega, by omega, by omega, by omega, by omega, n247_2, n247_3, n247_4, (PE_new (PE.mv i51_8 (hS240.1 43 (by decide)) (hS240.2 88 (by decide))) hbr n247_6), n247_7, (n247_5.elim (fun h => Or.inl (by omega)) (fun h => Or.inr (Or.inl (by omega)))), by omega, by omega⟩, show (2 * (3020 - r247) + min 1 (max 0 (-1 - (S247.1 54 59)))).toNat < (2 * (3020 - v51_1) + min 1 (max 0 (-1 - (S51h.1 54 59)))).toNat by omega⟩
                            · unfold wX11_parse_295
                              unfold wX11_parse_297
                              exact ⟨⟨(Ch.wk (Ch.tr (Ch.tr hS51h hS240) hS247) (by decide) (by decide)), by omega, by omega, by omega, by omega, by omega, n247_2, n247_3, n247_4, (PE_new (PE.mv i51_8 (hS240.1 43 (by decide)) (hS240.2 88 (by decide))) hbr n247_6), n247_7, (n247_5.elim (fun h => Or.inl (by omega)) (fun h => Or.inr (Or.inl (by omega)))), by omega, by omega⟩, show (2 * (3020 - r247) + min 1 (max 0 (-1 - (S247.1 54 59)))).toNat < (2 * (3020 - v51_1) + min 1 (max 0 (-1 - (S51h.1 54 59)))).toNat by omega⟩
                          · intro q230
                            unfold wX11_parse_283
                            refine ⟨by omega, ?_⟩
                            refine ⟨fun h287 => ?_, fun h287 => ?_⟩
                            · unfold wX11_parse_295
                              unfold wX11_parse_297
                              exact ⟨⟨(Ch.wk (Ch.tr (Ch.tr hS51h hS240) hS247) (by decide) (by decide)), by omega, by omega, by omega, by omega, by omega, n247_2, n247_3, n247_4, (PE_last (by omega)), n247_7, (n247_5.elim (fun h => Or.inl (by omega)) (fun h => Or.inr (Or.inl (by omega)))), by omega, by omega⟩, show (2 * (3020 - r247) + min 1 (max 0 (-1 - (S247.1 54 59)))).toNat < (2 * (3020 - v51_1) + min 1 (max 0 (-1 - (S51h.1 54 59)))).toNat by omega⟩
                            · unfold wX11_parse_295
                              unfold wX11_parse_297
                              exact ⟨⟨(Ch.wk (Ch.tr (Ch.tr hS51h hS240) hS247) (by decide) (by decide)), by omega, by omega, by omega, by omega, by omega, n247_2, n247_3, n247_4, (PE_last (by omega)), n247_7, (n247_5.elim (fun h => Or.inl (by omega)) (fun h => Or.inr (Or.inl (by omega)))), by omega, by omega⟩, show (2 * (3020 - r247) + min 1 (max 0 (-1 - (S247.1 54 59)))).toNat < (2 * (3020 - v51_1) + min 1 (max 0 (-1 - (S51h.1 54 59)))).toNat by omega⟩
                        · unfold wX11_parse_265
                          intro q231
                          refine ⟨fun h270 => ?_, fun h270 => ?_⟩
                          · unfold wX11_parse_283
                            refine ⟨by omega, ?_⟩
                            refine ⟨fun h287 => ?_, fun h287 => ?_⟩
                            · unfold wX11_parse_295
                              unfold wX11_parse_297
                              exact ⟨⟨(Ch.wk (Ch.tr (Ch.tr hS51h hS240) hS247) (by decide) (by decide)), by omega, by omega, by omega, by omega, by omega, n247_2, n247_3, n247_4, (PE_new (PE.mv i51_8 (hS240.1 43 (by decide)) (hS240.2 88 (by decide))) hbr n247_6), n247_7, (n247_5.elim (fun h => Or.inl (by omega)) (fun h => Or.inr (Or.inl (by omega)))), by omega, by omega⟩, show (2 * (3020 - r247) + min 1 (max 0 (-1 - (S247.1 54 59)))).toNat < (2 * (3020 - v51_1) + min 1 (max 0 (-1 - (S51h.1 54 59)))).toNat by omega⟩
                            · unfold wX11_parse_295
                              unfold wX11_parse_297
                              exact ⟨⟨(Ch.wk (Ch.tr (Ch.tr hS51h hS240) hS247) (by decide) (by decide)), by omega, by omega, by omega, by omega, by omega, n247_2, n247_3, n247_4, (PE_new (PE.mv i51_8 (hS240.1 43 (by decide)) (hS240.2 88 (by decide))) hbr n247_6), n247_7, (n247_5.elim (fun h => Or.inl (by omega)) (fun h => Or.inr (Or.inl (by omega)))), by omega, by omega⟩, show (2 * (3020 - r247) + min 1 (max 0 (-1 - (S247.1 54 59)))).toNat < (2 * (3020 - v51_1) + min 1 (max 0 (-1 - (S51h.1 54 59)))).toNat by omega⟩
                          · intro q232
                            unfold wX11_parse_283
                            refine ⟨by omega, ?_⟩
                            refine ⟨fun h287 => ?_, fun h287 => ?_⟩
                            · unfold wX11_parse_295
                              unfold wX11_parse_297
                              exact ⟨⟨(Ch.wk (Ch.tr (Ch.tr hS51h hS240) hS247) (by decide) (by decide)), by omega, by omega, by omega, by omega, by omega, n247_2, n247_3, n247_4, (PE_last (by omega)), n247_7, (n247_5.elim (fun h => Or.inl (by omega)) (fun h => Or.inr (Or.inl (by omega)))), by omega, by omega⟩, show (2 * (3020 - r247) + min 1 (max 0 (-1 - (S247.1 54 59)))).toNat < (2 * (3020 - v51_1) + min 1 (max 0 (-1 - (S51h.1 54 59)))).toNat by omega⟩
                            · unfold wX11_parse_295
                              unfold wX11_parse_297
                              exact ⟨⟨(Ch.wk (Ch.tr (Ch.tr hS51h hS240) hS247) (by decide) (by decide)), by omega, by omega, by omega, by omega, by omega, n247_2, n247_3, n247_4, (PE_last (by omega)), n247_7, (n247_5.elim (fun h => Or.inl (by omega)) (fun h => Or.inr (Or.inl (by omega)))), by omega, by omega⟩, show (2 * (3020 - r247) + min 1 (max 0 (-1 - (S247.1 54 59)))).toNat < (2 * (3020 - v51_1) + min 1 (max 0 (-1 - (S51h.1 54 59)))).toNat by omega⟩
                      · refine ⟨by omega, ?_⟩
                        refine tX11_fail (by omega) (fun r232 S232 hS232 n232_0 => ?_)
                        unfold wX11_parse_297
                        have e233 : S232.1 54 43 = S51h.1 54 43 := hS232.1 43 (by decide)
                        have e234 : S232.1 54 43 = S51h.1 54 43 := hS232.1 43 (by decide)
                        exact ⟨⟨(Ch.wk (Ch.tr hS51h hS232) (by decide) (by decide)), by omega, by omega, by omega, by omega, by omega, (PA.mv3 i51_5 ((hS232).1 51 (by decide)) ((hS232).2 92 (by decide)) ((hS232).2 93 (by decide)) ((hS232).2 94 (by decide)) ((hS232).2 95 (by decide))), (PR.mv i51_6 ((hS232).1 43 (by decide)) ((hS232).1 51 (by decide)) ((hS232).2 86 (by decide)) ((hS232).2 87 (by decide)) ((hS232).2 88 (by decide)) ((hS232).2 90 (by decide)) ((hS232).2 91 (by decide))), (PO.mv i51_7 ((hS232).1 43 (by decide)) ((hS232).2 88 (by decide))), (PE.mv i51_8 ((hS232).1 43 (by decide)) ((hS232).2 88 (by decide))), (by
                              unfold PB
                              have e235 : S232.1 54 41 = S51h.1 54 41 := hS232.1 41 (by decide)
                              have e236 : S51h.1 54 41 = S18.1 54 41 := hS51h.1 41 (by decide)
                              have e237 : S18.1 54 41 = S12.1 54 41 := hS18.1 41 (by decide)
                              have e238 : S12.1 54 41 = S7.1 54 41 := hS12.1 41 (by decide)
                              have e239 : S7.1 54 41 = S2.1 54 41 := hS7.1 41 (by decide)
                              have e240 : S2.1 54 41 = S.1 54 41 := hS2.1 41 (by decide)
                              have e241 : S232.1 54 56 = S51h.1 54 56 := hS232.1 56 (by decide)
                              have e242 : S232.1 54 51 = S51h.1 54 51 := hS232.1 51 (by decide)
                              first
                              | exact Or.inl (by omega)
                              | exact (Classical.em (-1 ≤ S232.1 54 59)).elim (fun hb => Or.inl hb) (fun hb => Or.inr ⟨by omega, by omega, by omega⟩)), (by
                              unfold P1
                              have e243 : S232.1 54 43 = S51h.1 54 43 := hS232.1 43 (by decide)
                              first | exact Or.inr (Or.inl (by omega)) | exact Or.inl (by omega)), by omega, by omega⟩, show (2 * (3020 - v51_1) + min 1 (max 0 (-1 - (S232.1 54 59)))).toNat < (2 * (3020 - v51_1) + min 1 (max 0 (-1 - (S51h.1 54 59)))).toNat by omega⟩
                    · refine ⟨by omega, ?_⟩
                      refine ⟨fun h210 => ?_, fun h210 => ?_⟩
                      · unfold wX11_parse_225
                        refine ⟨by omega, ?_⟩
                        refine ⟨fun h227 => ?_, fun h227 => ?_⟩
                        · intro S240 hS240e
                          have hS240 : Ch [60] [] S51h S240 := Ch_I hS240e
                          have hS240v : S240.1 54 60 = 0 := pI_at hS240e
                          refine ⟨by omega, ?_⟩
                          refine ⟨by omega, ?_⟩
                          refine ⟨by omega, ?_⟩
                          have e244 : S240.1 54 41 = S51h.1 54 41 := hS240.1 41 (by decide)
                          have e245 : S51h.1 54 41 = S18.1 54 41 := hS51h.1 41 (by decide)
                          have e246 : S18.1 54 41 = S12.1 54 41 := hS18.1 41 (by decide)
                          have e247 : S12.1 54 41 = S7.1 54 41 := hS12.1 41 (by decide)
                          have e248 : S7.1 54 41 = S2.1 54 41 := hS7.1 41 (by decide)
                          have e249 : S2.1 54 41 = S.1 54 41 := hS2.1 41 (by decide)
                          have e250 : S240.1 54 41 = S51h.1 54 41 := hS240.1 41 (by decide)
                          have e251 : S51h.1 54 41 = S18.1 54 41 := hS51h.1 41 (by decide)
                          have e252 : S18.1 54 41 = S12.1 54 41 := hS18.1 41 (by decide)
                          have e253 : S12.1 54 41 = S7.1 54 41 := hS12.1 41 (by decide)
                          have e254 : S7.1 54 41 = S2.1 54 41 := hS7.1 41 (by decide)
                          have e255 : S2.1 54 41 = S.1 54 41 := hS2.1 41 (by decide)
                          have e256 : S240.1 54 56 = S51h.1 54 56 := hS240.1 56 (by decide)
                          have e257 : S240.1 54 51 = S51h.1 54 51 := hS240.1 51 (by decide)
                          have e258 : S240.1 54 43 = S51h.1 54 43 := hS240.1 43 (by decide)
                          have e259 : S240.1 54 43 = S51h.1 54 43 := hS240.1 43 (by decide)
                          refine tX11_beginTag (by omega) (by omega) (by omega) (by omega) (by omega) (by omega) (PA.mv2 i51_5 ((hS240).1 51 (by decide)) ((hS240).1 56 (by decide)) ((hS240).2 92 (by decide)) ((hS240).2 93 (by decide)) ((hS240).2 94 (by decide)) ((hS240).2 95 (by decide))) (PR.mv i51_6 ((hS240).1 43 (by decide)) ((hS240).1 51 (by decide)) ((hS240).2 86 (by decide)) ((hS240).2 87 (by decide)) ((hS240).2 88 (by decide)) ((hS240).2 90 (by decide)) ((hS240).2 91 (by decide))) (PO.mv i51_7 ((hS240).1 43 (by decide)) ((hS240).2 88 (by decide))) (PE.mv i51_8 ((hS240).1 43 (by decide)) ((hS240).2 88 (by decide))) (by omega) (fun r247 S247 hS247 n247_0 n247_1 n247_2 n247_3 n247_4 n247_5 n247_6 n247_7 => ?_)
                          have hbr : (S247.1 54 43 = S240.1 54 43 + 1 ∧ S247.2 88 (S240.1 54 43) = v51_2) ∨ S247.1 54 43 = S240.1 54 43 := by
                            rcases n247_5 with h | h
                            · exact Or.inl h
                            · exact Or.inr h.1
                          intro q260
                          refine ⟨fun h255 => ?_, fun h255 => ?_⟩
                          · unfold wX11_parse_265
                            intro q261
                            refine ⟨fun h270 => ?_, fun h270 => ?_⟩
                            · unfold wX11_parse_283
                              refine ⟨by omega, ?_⟩
                              refine ⟨fun h287 => ?_, fun h287 => ?_⟩
                              · unfold wX11_parse_295
                                unfold wX11_parse_297
                                exact ⟨⟨(Ch.wk (Ch.tr (Ch.tr hS51h hS240) hS247) (by decide) (by decide)), by omega, by omega, by omega, by omega, by omega, n247_2, n247_3, n247_4, (PE_new (PE.mv i51_8 (hS240.1 43 (by decide)) (hS240.2 88 (by decide))) hbr n247_6), n247_7, (n247_5.elim (fun h => Or.inl (by omega)) (fun h => Or.inr (Or.inl (by omega)))), by omega, by omega⟩, show (2 * (3020 - r247) + min 1 (max 0 (-1 - (S247.1 54 59)))).toNat < (2 * (3020 - v51_1) + min 1 (max 0 (-1 - (S51h.1 54 59)))).toNat by omega⟩
                              · unfold wX11_parse_295
                                unfold wX11_parse_297
                                exact ⟨⟨(Ch.wk (Ch.tr (Ch.tr hS51h hS240) hS247) (by decide) (by decide)), by omega, by omega, by omega, by omega, by omega, n247_2, n247_3, n247_4, (PE_new (PE.mv i51_8 (hS240.1 43 (by decide)) (hS240.2 88 (by decide))) hbr n247_6), n247_7, (n247_5.elim (fun h => Or.inl (by omega)) (fun h => Or.inr (Or.inl (by omega)))), by omega, by omega⟩, show (2 * (3020 - r247) + min 1 (max 0 (-1 - (S247.1 54 59)))).toNat < (2 * (3020 - v51_1) + min 1 (max 0 (-1 - (S51h.1 54 59)))).toNat by omega⟩
                            · intro q262
                              unfold wX11_parse_283
                              refine ⟨by omega, ?_⟩
                              refine ⟨fun h287 => ?_, fun h287 => ?_⟩
                              · unfold wX11_parse_295
                                unfold wX11_parse_297
                                exact ⟨⟨(Ch.wk (Ch.tr (Ch.tr hS51h hS240) hS247) (by decide) (by decide)), by omega, by omega, by omega, by omega, by omega, n247_2, n247_3, n247_4, (PE_last (by omega)), n247_7, (n247_5.elim (fun h => Or.inl (by omega)) (fun h => Or.inr (Or.inl (by omega)))), by omega, by omega⟩, show (2 * (3020 - r247) + min 1 (max 0 (-1 - (S247.1 54 59)))).toNat < (2 * (3020 - v51_1) + min 1 (max 0 (-1 - (S51h.1 54 59)))).toNat by omega⟩
                              · unfold wX11_parse_295
                                unfold wX11_parse_297
                                exact ⟨⟨(Ch.wk (Ch.tr (Ch.tr hS51h hS240) hS247) (by decide) (by decide)), by omega, by omega, by omega, by omega, by omega, n247_2, n247_3, n247_4, (PE_last (by omega)), n247_7, (n247_5.elim (fun h => Or.inl (by omega)) (fun h => Or.inr (Or.inl (by omega)))), by omega, by omega⟩, show (2 * (3020 - r247) + min 1 (max 0 (-1 - (S247.1 54 59)))).toNat < (2 * (3020 - v51_1) + min 1 (max 0 (-1 - (S51h.1 54 59)))).toNat by omega⟩
                          · unfold wX11_parse_265
                            intro q263
                            refine ⟨fun h270 => ?_, fun h270 => ?_⟩
                            · unfold wX11_parse_283
                              refine ⟨by omega, ?_⟩
                              refine ⟨fun h287 => ?_, fun h287 => ?_⟩
                              · unfold wX11_parse_295
                                unfold wX11_parse_297
                                exact ⟨⟨(Ch.wk (Ch.tr (Ch.tr hS51h hS240) hS247) (by decide) (by decide)), by omega, by omega, by omega, by omega, by omega, n247_2, n247_3, n247_4, (PE_new (PE.mv i51_8 (hS240.1 43 (by decide)) (hS240.2 88 (by decide))) hbr n247_6), n247_7, (n247_5.elim (fun h => Or.inl (by omega)) (fun h => Or.inr (Or.inl (by omega)))), by omega, by omega⟩, show (2 * (3020 - r247) + min 1 (max 0 (-1 - (S247.1 54 59)))).toNat < (2 * (3020 - v51_1) + min 1 (max 0 (-1 - (S51h.1 54 59)))).toNat by omega⟩
                              · unfold wX11_parse_295
                                unfold wX11_parse_297
                                exact ⟨⟨(Ch.wk (Ch.tr (Ch.tr hS51h hS240) hS247) (by decide) (by decide)), by omega, by omega, by omega, by omega, by omega, n247_2, n247_3, n247_4, (PE_new (PE.mv i51_8 (hS240.1 43 (by decide)) (hS240.2 88 (by decide))) hbr n247_6), n247_7, (n247_5.elim (fun h => Or.inl (by omega)) (fun h => Or.inr (Or.inl (by omega)))), by omega, by omega⟩, show (2 * (3020 - r247) + min 1 (max 0 (-1 - (S247.1 54 59)))).toNat < (2 * (3020 - v51_1) + min 1 (max 0 (-1 - (S51h.1 54 59)))).toNat by omega⟩
                            · intro q264
                              unfold wX11_parse_283
                              refine ⟨by omega, ?_⟩
                              refine ⟨fun h287 => ?_, fun h287 => ?_⟩
                              · unfold wX11_parse_295
                                unfold wX11_parse_297
                                exact ⟨⟨(Ch.wk (Ch.tr (Ch.tr hS51h hS240) hS247) (by decide) (by decide)), by omega, by omega, by omega, by omega, by omega, n247_2, n247_3, n247_4, (PE_last (by omega)), n247_7, (n247_5.elim (fun h => Or.inl (by omega)) (fun h => Or.inr (Or.inl (by omega)))), by omega, by omega⟩, show (2 * (3020 - r247) + min 1 (max 0 (-1 - (S247.1 54 59)))).toNat < (2 * (3020 - v51_1) + min 1 (max 0 (-1 - (S51h.1 54 59)))).toNat by omega⟩
                              · unfold wX11_parse_295
                                unfold wX11_parse_297
                                exact ⟨⟨(Ch.wk (Ch.tr (Ch.tr hS51h hS240) hS247) (by decide) (by decide)), by omega, by omega, by omega, by omega, by omega, n247_2, n247_3, n247_4, (PE_last (by omega)), n247_7, (n247_5.elim (fun h => Or.inl (by omega)) (fun h => Or.inr (Or.inl (by omega)))), by omega, by omega⟩, show (2 * (3020 - r247) + min 1 (max 0 (-1 - (S247.1 54 59)))).toNat < (2 * (3020 - v51_1) + min 1 (max 0 (-1 - (S51h.1 54 59)))).toNat by omega⟩
                        · refine ⟨by omega, ?_⟩
                          refine tX11_fail (by omega) (fun r232 S232 hS232 n232_0 => ?_)
                          unfold wX11_parse_297
                          have e265 : S232.1 54 43 = S51h.1 54 43 := hS232.1 43 (by decide)
                          have e266 : S232.1 54 43 = S51h.1 54 43 := hS232.1 43 (by decide)
                          exact ⟨⟨(Ch.wk (Ch.tr hS51h hS232) (by decide) (by decide)), by omega, by omega, by omega, by omega, by omega, (PA.mv3 i51_5 ((hS232).1 51 (by decide)) ((hS232).2 92 (by decide)) ((hS232).2 93 (by decide)) ((hS232).2 94 (by decide)) ((hS232).2 95 (by decide))), (PR.mv i51_6 ((hS232).1 43 (by decide)) ((hS232).1 51 (by decide)) ((hS232).2 86 (by decide)) ((hS232).2 87 (by decide)) ((hS232).2 88 (by decide)) ((hS232).2 90 (by decide)) ((hS232).2 91 (by decide))), (PO.mv i51_7 ((hS232).1 43 (by decide)) ((hS232).2 88 (by decide))), (PE.mv i51_8 ((hS232).1 43 (by decide)) ((hS232).2 88 (by decide))), (by
                                unfold PB
                                have e267 : S232.1 54 41 = S51h.1 54 41 := hS232.1 41 (by decide)
                                have e268 : S51h.1 54 41 = S18.1 54 41 := hS51h.1 41 (by decide)
                                have e269 : S18.1 54 41 = S12.1 54 41 := hS18.1 41 (by decide)
                                have e270 : S12.1 54 41 = S7.1 54 41 := hS12.1 41 (by decide)
                                have e271 : S7.1 54 41 = S2.1 54 41 := hS7.1 41 (by decide)
                                have e272 : S2.1 54 41 = S.1 54 41 := hS2.1 41 (by decide)
                                have e273 : S232.1 54 56 = S51h.1 54 56 := hS232.1 56 (by decide)
                                have e274 : S232.1 54 51 = S51h.1 54 51 := hS232.1 51 (by decide)
                                first
                                | exact Or.inl (by omega)
                                | exact (Classical.em (-1 ≤ S232.1 54 59)).elim (fun hb => Or.inl hb) (fun hb => Or.inr ⟨by omega, by omega, by omega⟩)), (by
                                unfold P1
                                have e275 : S232.1 54 43 = S51h.1 54 43 := hS232.1 43 (by decide)
                                first | exact Or.inr (Or.inl (by omega)) | exact Or.inl (by omega)), by omega, by omega⟩, show (2 * (3020 - v51_1) + min 1 (max 0 (-1 - (S232.1 54 59)))).toNat < (2 * (3020 - v51_1) + min 1 (max 0 (-1 - (S51h.1 54 59)))).toNat by omega⟩
                      · refine ⟨by omega, ?_⟩
                        refine ⟨by omega, ?_⟩
                        have e276 : S51h.1 54 41 = S18.1 54 41 := hS51h.1 41 (by decide)
                        have e277 : S18.1 54 41 = S12.1 54 41 := hS18.1 41 (by decide)
                        have e278 : S12.1 54 41 = S7.1 54 41 := hS12.1 41 (by decide)
                        have e279 : S7.1 54 41 = S2.1 54 41 := hS7.1 41 (by decide)
                        have e280 : S2.1 54 41 = S.1 54 41 := hS2.1 41 (by decide)
                        have e281 : S51h.1 54 41 = S18.1 54 41 := hS51h.1 41 (by decide)
                        have e282 : S18.1 54 41 = S12.1 54 41 := hS18.1 41 (by decide)
                        have e283 : S12.1 54 41 = S7.1 54 41 := hS12.1 41 (by decide)
                        have e284 : S7.1 54 41 = S2.1 54 41 := hS7.1 41 (by decide)
                        have e285 : S2.1 54 41 = S.1 54 41 := hS2.1 41 (by decide)
                        have e286 : S51h.1 54 41 = S18.1 54 41 := hS51h.1 41 (by decide)
                        have e287 : S18.1 54 41 = S12.1 54 41 := hS18.1 41 (by decide)
                        have e288 : S12.1 54 41 = S7.1 54 41 := hS12.1 41 (by decide)
                        have e289 : S7.1 54 41 = S2.1 54 41 := hS7.1 41 (by decide)
                        have e290 : S2.1 54 41 = S.1 54 41 := hS2.1 41 (by decide)
                        refine tX11_section (by omega) (by omega) (by omega) (by omega) (by omega) (by omega) (fun r218 S218 hS218 n218_0 n218_1 n218_2 n218_3 => ?_)
                        unfold wX11_parse_297
                        have e291 : S218.1 54 43 = S51h.1 54 43 := hS218.1 43 (by decide)
                        have e292 : S218.1 54 43 = S51h.1 54 43 := hS218.1 43 (by decide)
                        exact ⟨⟨(Ch.wk (Ch.tr hS51h hS218) (by decide) (by decide)), by omega, by omega, by omega, by omega, by omega, (PA.mv3 i51_5 ((hS218).1 51 (by decide)) ((hS218).2 92 (by decide)) ((hS218).2 93 (by decide)) ((hS218).2 94 (by decide)) ((hS218).2 95 (by decide))), (PR.mv i51_6 ((hS218).1 43 (by decide)) ((hS218).1 51 (by decide)) ((hS218).2 86 (by decide)) ((hS218).2 87 (by decide)) ((hS218).2 88 (by decide)) ((hS218).2 90 (by decide)) ((hS218).2 91 (by decide))), (PO.mv i51_7 ((hS218).1 43 (by decide)) ((hS218).2 88 (by decide))), (PE.mv i51_8 ((hS218).1 43 (by decide)) ((hS218).2 88 (by decide))), (by
                              unfold PB
                              have e293 : S218.1 54 41 = S51h.1 54 41 := hS218.1 41 (by decide)
                              have e294 : S51h.1 54 41 = S18.1 54 41 := hS51h.1 41 (by decide)
                              have e295 : S18.1 54 41 = S12.1 54 41 := hS18.1 41 (by decide)
                              have e296 : S12.1 54 41 = S7.1 54 41 := hS12.1 41 (by decide)
                              have e297 : S7.1 54 41 = S2.1 54 41 := hS7.1 41 (by decide)
                              have e298 : S2.1 54 41 = S.1 54 41 := hS2.1 41 (by decide)
                              have e299 : S218.1 54 51 = S51h.1 54 51 := hS218.1 51 (by decide)
                              first
                              | exact Or.inl (by omega)
                              | exact (Classical.em (-1 ≤ S218.1 54 59)).elim (fun hb => Or.inl hb) (fun hb => Or.inr ⟨by omega, by omega, by omega⟩)), (by
                              unfold P1
                              have e300 : S218.1 54 43 = S51h.1 54 43 := hS218.1 43 (by decide)
                              first | exact Or.inr (Or.inl (by omega)) | exact Or.inl (by omega)), by omega, by omega⟩, show (2 * (3020 - r218) + min 1 (max 0 (-1 - (S218.1 54 59)))).toNat < (2 * (3020 - v51_1) + min 1 (max 0 (-1 - (S51h.1 54 59)))).toNat by omega⟩
                  · have hE2 := hE.2.resolve_left (by omega)
                    have hpr := i51_6.at (x := v51_2) (by omega) (by omega)
                    refine ⟨by omega, ?_⟩
                    have e301 : S51h.1 54 41 = S18.1 54 41 := hS51h.1 41 (by decide)
                    have e302 : S18.1 54 41 = S12.1 54 41 := hS18.1 41 (by decide)
                    have e303 : S12.1 54 41 = S7.1 54 41 := hS12.1 41 (by decide)
                    have e304 : S7.1 54 41 = S2.1 54 41 := hS7.1 41 (by decide)
                    have e305 : S2.1 54 41 = S.1 54 41 := hS2.1 41 (by decide)
                    have e306 : S51h.1 54 41 = S18.1 54 41 := hS51h.1 41 (by decide)
                    have e307 : S18.1 54 41 = S12.1 54 41 := hS18.1 41 (by decide)
                    have e308 : S12.1 54 41 = S7.1 54 41 := hS12.1 41 (by decide)
                    have e309 : S7.1 54 41 = S2.1 54 41 := hS7.1 41 (by decide)
                    have e310 : S2.1 54 41 = S.1 54 41 := hS2.1 41 (by decide)
                    have e311 : S51h.1 54 41 = S18.1 54 41 := hS51h.1 41 (by decide)
                    have e312 : S18.1 54 41 = S12.1 54 41 := hS18.1 41 (by decide)
                    have e313 : S12.1 54 41 = S7.1 54 41 := hS12.1 41 (by decide)
                    have e314 : S7.1 54 41 = S2.1 54 41 := hS7.1 41 (by decide)
                    have e315 : S2.1 54 41 = S.1 54 41 := hS2.1 41 (by decide)
                    refine tX11_endTag (by omega) (by omega) (by omega) (by omega) (by omega) (fun r170 S170 hS170 n170_0 n170_1 n170_2 => ?_)
                    refine ⟨by omega, by omega, ?_⟩
                    intro q316
                    have e317 : S170.2 88 (v51_2) = S51h.2 88 (v51_2) := congrFun (hS170.2 88 (by decide)) _
                    intro x180 hx180
                    subst hx180
                    refine ⟨fun h187 => ?_, fun h187 => ?_⟩
                    · unfold wX11_parse_195
                      unfold wX11_parse_297
                      have e318 : S170.1 54 43 = S51h.1 54 43 := hS170.1 43 (by decide)
                      have e319 : S170.1 54 43 = S51h.1 54 43 := hS170.1 43 (by decide)
                      exact ⟨⟨(Ch.wk (Ch.tr hS51h hS170) (by decide) (by decide)), by omega, by omega, by omega, by omega, by omega, (PA.mv3 i51_5 ((hS170).1 51 (by decide)) ((hS170).2 92 (by decide)) ((hS170).2 93 (by decide)) ((hS170).2 94 (by decide)) ((hS170).2 95 (by decide))), (PR.mv i51_6 ((hS170).1 43 (by decide)) ((hS170).1 51 (by decide)) ((hS170).2 86 (by decide)) ((hS170).2 87 (by decide)) ((hS170).2 88 (by decide)) ((hS170).2 90 (by decide)) ((hS170).2 91 (by decide))), (PO.mv i51_7 ((hS170).1 43 (by decide)) ((hS170).2 88 (by decide))), (by
                            rw [show S170.2 88 v51_2 = S51h.2 88 v51_2 from congrFun (hS170.2 88 (by decide)) _]
                            exact (PE_up (e := v51_2) i51_6 i51_7 (by omega) (by omega)).mv (hS170.1 43 (by decide)) (hS170.2 88 (by decide))), (by
                            unfold PB
                            have e320 : S170.1 54 41 = S51h.1 54 41 := hS170.1 41 (by decide)
                            have e321 : S51h.1 54 41 = S18.1 54 41 := hS51h.1 41 (by decide)
                            have e322 : S18.1 54 41 = S12.1 54 41 := hS18.1 41 (by decide)
                            have e323 : S12.1 54 41 = S7.1 54 41 := hS12.1 41 (by decide)
                            have e324 : S7.1 54 41 = S2.1 54 41 := hS7.1 41 (by decide)
                            have e325 : S2.1 54 41 = S.1 54 41 := hS2.1 41 (by decide)
                            have e326 : S170.1 54 56 = S51h.1 54 56 := hS170.1 56 (by decide)
                            have e327 : S170.1 54 51 = S51h.1 54 51 := hS170.1 51 (by decide)
                            first
                            | exact Or.inl (by omega)
                            | exact (Classical.em (-1 ≤ S170.1 54 59)).elim (fun hb => Or.inl hb) (fun hb => Or.inr ⟨by omega, by omega, by omega⟩)), (by
                            unfold P1
                            have e328 : S170.1 54 43 = S51h.1 54 43 := hS170.1 43 (by decide)
                            first | exact Or.inr (Or.inl (by omega)) | exact Or.inl (by omega)), by omega, by omega⟩, show (2 * (3020 - r170) + min 1 (max 0 (-1 - (S170.1 54 59)))).toNat < (2 * (3020 - v51_1) + min 1 (max 0 (-1 - (S51h.1 54 59)))).toNat by omega⟩
                    · unfold wX11_parse_195
                      unfold wX11_parse_297
                      have e329 : S170.1 54 43 = S51h.1 54 43 := hS170.1 43 (by decide)
                      have e330 : S170.1 54 43 = S51h.1 54 43 := hS170.1 43 (by decide)
                      exact ⟨⟨(Ch.wk (Ch.tr hS51h hS170) (by decide) (by decide)), by omega, by omega, by omega, by omega, by omega, (PA.mv3 i51_5 ((hS170).1 51 (by decide)) ((hS170).2 92 (by decide)) ((hS170).2 93 (by decide)) ((hS170).2 94 (by decide)) ((hS170).2 95 (by decide))), (PR.mv i51_6 ((hS170).1 43 (by decide)) ((hS170).1 51 (by decide)) ((hS170).2 86 (by decide)) ((hS170).2 87 (by decide)) ((hS170).2 88 (by decide)) ((hS170).2 90 (by decide)) ((hS170).2 91 (by decide))), (PO.mv i51_7 ((hS170).1 43 (by decide)) ((hS170).2 88 (by decide))), (by
                            rw [show S170.2 88 v51_2 = S51h.2 88 v51_2 from congrFun (hS170.2 88 (by decide)) _]
                            exact (PE_up (e := v51_2) i51_6 i51_7 (by omega) (by omega)).mv (hS170.1 43 (by decide)) (hS170.2 88 (by decide))), (by
                            unfold PB
                            have e331 : S170.1 54 41 = S51h.1 54 41 := hS170.1 41 (by decide)
                            have e332 : S51h.1 54 41 = S18.1 54 41 := hS51h.1 41 (by decide)
                            have e333 : S18.1 54 41 = S12.1 54 41 := hS18.1 41 (by decide)
                            have e334 : S12.1 54 41 = S7.1 54 41 := hS12.1 41 (by decide)
                            have e335 : S7.1 54 41 = S2.1 54 41 := hS7.1 41 (by decide)
                            have e336 : S2.1 54 41 = S.1 54 41 := hS2.1 41 (by decide)
                            have e337 : S170.1 54 56 = S51h.1 54 56 := hS170.1 56 (by decide)
                            have e338 : S170.1 54 51 = S51h.1 54 51 := hS170.1 51 (by decide)
                            first
                            | exact Or.inl (by omega)
                            | exact (Classical.em (-1 ≤ S170.1 54 59)).elim (fun hb => Or.inl hb) (fun hb => Or.inr ⟨by omega, by omega, by omega⟩)), (by
                            unfold P1
                            have e339 : S170.1 54 43 = S51h.1 54 43 := hS170.1 43 (by decide)
                            first | exact Or.inr (Or.inl (by omega)) | exact Or.inl (by omega)), by omega, by omega⟩, show (2 * (3020 - r170) + min 1 (max 0 (-1 - (S170.1 54 59)))).toNat < (2 * (3020 - v51_1) + min 1 (max 0 (-1 - (S51h.1 54 59)))).toNat by omega⟩
              · refine ⟨by omega, ?_⟩
                refine tX11_keep (by omega) (by omega) (fun r145 S145 hS145 n145_0 => ?_)
                unfold wX11_parse_297
                have e340 : S145.1 54 43 = S51h.1 54 43 := hS145.1 43 (by decide)
                have e341 : S145.1 54 43 = S51h.1 54 43 := hS145.1 43 (by decide)
                have e342 : S145.1 54 59 = S51h.1 54 59 := hS145.1 59 (by decide)
                have e343 : S145.1 54 59 = S51h.1 54 59 := hS145.1 59 (by decide)
                exact ⟨⟨(Ch.wk (Ch.tr hS51h hS145) (by decide) (by decide)), by omega, by omega, by omega, by omega, by omega, (PA.mv3 i51_5 ((hS145).1 51 (by decide)) ((hS145).2 92 (by decide)) ((hS145).2 93 (by decide)) ((hS145).2 94 (by decide)) ((hS145).2 95 (by decide))), (PR.mv i51_6 ((hS145).1 43 (by decide)) ((hS145).1 51 (by decide)) ((hS145).2 86 (by decide)) ((hS145).2 87 (by decide)) ((hS145).2 88 (by decide)) ((hS145).2 90 (by decide)) ((hS145).2 91 (by decide))), (PO.mv i51_7 ((hS145).1 43 (by decide)) ((hS145).2 88 (by decide))), (PE.mv i51_8 ((hS145).1 43 (by decide)) ((hS145).2 88 (by decide))), (by
                      unfold PB
                      have e344 : S145.1 54 59 = S51h.1 54 59 := hS145.1 59 (by decide)
                      have e345 : S145.1 54 41 = S51h.1 54 41 := hS145.1 41 (by decide)
                      have e346 : S51h.1 54 41 = S18.1 54 41 := hS51h.1 41 (by decide)
                      have e347 : S18.1 54 41 = S12.1 54 41 := hS18.1 41 (by decide)
                      have e348 : S12.1 54 41 = S7.1 54 41 := hS12.1 41 (by decide)
                      have e349 : S7.1 54 41 = S2.1 54 41 := hS7.1 41 (by decide)
                      have e350 : S2.1 54 41 = S.1 54 41 := hS2.1 41 (by decide)
                      have e351 : S145.1 54 51 = S51h.1 54 51 := hS145.1 51 (by decide)
                      first
                      | exact Or.inl (by omega)
                      | exact (Classical.em (-1 ≤ S145.1 54 59)).elim (fun hb => Or.inl hb) (fun hb => Or.inr ⟨by omega, by omega, by omega⟩)), (by
                      unfold P1
                      have e352 : S145.1 54 43 = S51h.1 54 43 := hS145.1 43 (by decide)
                      have e353 : S145.1 54 59 = S51h.1 54 59 := hS145.1 59 (by decide)
                      first | exact Or.inr (Or.inl (by omega)) | exact Or.inl (by omega)), by omega, by omega⟩, show (2 * (3020 - ((v51_1 + 1))) + min 1 (max 0 (-1 - (S145.1 54 59)))).toNat < (2 * (3020 - v51_1) + min 1 (max 0 (-1 - (S51h.1 54 59)))).toNat by omega⟩
            · refine ⟨by omega, ?_⟩
              refine ⟨by omega, ?_⟩
              have e354 : S51h.1 54 41 = S18.1 54 41 := hS51h.1 41 (by decide)
              have e355 : S18.1 54 41 = S12.1 54 41 := hS18.1 41 (by decide)
              have e356 : S12.1 54 41 = S7.1 54 41 := hS12.1 41 (by decide)
              have e357 : S7.1 54 41 = S2.1 54 41 := hS7.1 41 (by decide)
              have e358 : S2.1 54 41 = S.1 54 41 := hS2.1 41 (by decide)
              have e359 : S51h.1 54 41 = S18.1 54 41 := hS51h.1 41 (by decide)
              have e360 : S18.1 54 41 = S12.1 54 41 := hS18.1 41 (by decide)
              have e361 : S12.1 54 41 = S7.1 54 41 := hS12.1 41 (by decide)
              have e362 : S7.1 54 41 = S2.1 54 41 := hS7.1 41 (by decide)
              have e363 : S2.1 54 41 = S.1 54 41 := hS2.1 41 (by decide)
              have e364 : S51h.1 54 41 = S18.1 54 41 := hS51h.1 41 (by decide)
              have e365 : S18.1 54 41 = S12.1 54 41 := hS18.1 41 (by decide)
              have e366 : S12.1 54 41 = S7.1 54 41 := hS12.1 41 (by decide)
              have e367 : S7.1 54 41 = S2.1 54 41 := hS7.1 41 (by decide)
              have e368 : S2.1 54 41 = S.1 54 41 := hS2.1 41 (by decide)
              refine tX11_reference (by omega) (by omega) (by omega) (by omega) (by omega) (fun r127 S127 hS127 n127_0 n127_1 n127_2 n127_3 => ?_)
              unfold wX11_parse_297
              have e369 : S127.1 54 43 = S51h.1 54 43 := hS127.1 43 (by decide)
              have e370 : S127.1 54 43 = S51h.1 54 43 := hS127.1 43 (by decide)
              exact ⟨⟨(Ch.wk (Ch.tr hS51h hS127) (by decide) (by decide)), by omega, by omega, by omega, by omega, by omega, (PA.mv3 i51_5 ((hS127).1 51 (by decide)) ((hS127).2 92 (by decide)) ((hS127).2 93 (by decide)) ((hS127).2 94 (by decide)) ((hS127).2 95 (by decide))), (PR.mv i51_6 ((hS127).1 43 (by decide)) ((hS127).1 51 (by decide)) ((hS127).2 86 (by decide)) ((hS127).2 87 (by decide)) ((hS127).2 88 (by decide)) ((hS127).2 90 (by decide)) ((hS127).2 91 (by decide))), (PO.mv i51_7 ((hS127).1 43 (by decide)) ((hS127).2 88 (by decide))), (PE.mv i51_8 ((hS127).1 43 (by decide)) ((hS127).2 88 (by decide))), (by
                    unfold PB
                    have e371 : S127.1 54 41 = S51h.1 54 41 := hS127.1 41 (by decide)
                    have e372 : S51h.1 54 41 = S18.1 54 41 := hS51h.1 41 (by decide)
                    have e373 : S18.1 54 41 = S12.1 54 41 := hS18.1 41 (by decide)
                    have e374 : S12.1 54 41 = S7.1 54 41 := hS12.1 41 (by decide)
                    have e375 : S7.1 54 41 = S2.1 54 41 := hS7.1 41 (by decide)
                    have e376 : S2.1 54 41 = S.1 54 41 := hS2.1 41 (by decide)
                    have e377 : S127.1 54 51 = S51h.1 54 51 := hS127.1 51 (by decide)
                    first
                    | exact Or.inl (by omega)
                    | exact (Classical.em (-1 ≤ S127.1 54 59)).elim (fun hb => Or.inl hb) (fun hb => Or.inr ⟨by omega, by omega, by omega⟩)), (by
                    unfold P1
                    have e378 : S127.1 54 43 = S51h.1 54 43 := hS127.1 43 (by decide)
                    first | exact Or.inr (Or.inl (by omega)) | exact Or.inl (by omega)), by omega, by omega⟩, show (2 * (3020 - r127) + min 1 (max 0 (-1 - (S127.1 54 59)))).toNat < (2 * (3020 - v51_1) + min 1 (max 0 (-1 - (S51h.1 54 59)))).toNat by omega⟩
          · refine ⟨by omega, ?_⟩
            refine tX11_fail (by omega) (fun r111 S111 hS111 n111_0 => ?_)
            unfold wX11_parse_297
            have e379 : S111.1 54 43 = S51h.1 54 43 := hS111.1 43 (by decide)
            have e380 : S111.1 54 43 = S51h.1 54 43 := hS111.1 43 (by decide)
            exact ⟨⟨(Ch.wk (Ch.tr hS51h hS111) (by decide) (by decide)), by omega, by omega, by omega, by omega, by omega, (PA.mv3 i51_5 ((hS111).1 51 (by decide)) ((hS111).2 92 (by decide)) ((hS111).2 93 (by decide)) ((hS111).2 94 (by decide)) ((hS111).2 95 (by decide))), (PR.mv i51_6 ((hS111).1 43 (by decide)) ((hS111).1 51 (by decide)) ((hS111).2 86 (by decide)) ((hS111).2 87 (by decide)) ((hS111).2 88 (by decide)) ((hS111).2 90 (by decide)) ((hS111).2 91 (by decide))), (PO.mv i51_7 ((hS111).1 43 (by decide)) ((hS111).2 88 (by decide))), (PE.mv i51_8 ((hS111).1 43 (by decide)) ((hS111).2 88 (by decide))), (by
                  unfold PB
                  have e381 : S111.1 54 41 = S51h.1 54 41 := hS111.1 41 (by decide)
                  have e382 : S51h.1 54 41 = S18.1 54 41 := hS51h.1 41 (by decide)
                  have e383 : S18.1 54 41 = S12.1 54 41 := hS18.1 41 (by decide)
                  have e384 : S12.1 54 41 = S7.1 54 41 := hS12.1 41 (by decide)
                  have e385 : S7.1 54 41 = S2.1 54 41 := hS7.1 41 (by decide)
                  have e386 : S2.1 54 41 = S.1 54 41 := hS2.1 41 (by decide)
                  have e387 : S111.1 54 56 = S51h.1 54 56 := hS111.1 56 (by decide)
                  have e388 : S111.1 54 51 = S51h.1 54 51 := hS111.1 51 (by decide)
                  first
                  | exact Or.inl (by omega)
                  | exact (Classical.em (-1 ≤ S111.1 54 59)).elim (fun hb => Or.inl hb) (fun hb => Or.inr ⟨by omega, by omega, by omega⟩)), (by
                  unfold P1
                  have e389 : S111.1 54 43 = S51h.1 54 43 := hS111.1 43 (by decide)
                  first | exact Or.inr (Or.inl (by omega)) | exact Or.inl (by omega)), by omega, by omega⟩, show (2 * (3020 - v51_1) + min 1 (max 0 (-1 - (S111.1 54 59)))).toNat < (2 * (3020 - v51_1) + min 1 (max 0 (-1 - (S51h.1 54 59)))).toNat by omega⟩
        · intro q390
          refine ⟨fun h94 => ?_, fun h94 => ?_⟩
          · unfold wX11_parse_102
            refine ⟨by omega, ?_⟩
            refine ⟨fun h106 => ?_, fun h106 => ?_⟩
            · refine ⟨fun h121 => ?_, fun h121 => ?_⟩
              · refine ⟨fun h138 => ?_, fun h138 => ?_⟩
                · refine ⟨by omega, ?_⟩
                  refine ⟨fun h158 => ?_, fun h158 => ?_⟩
                  · unfold wX11_parse_200
                    refine ⟨by omega, ?_⟩
                    refine ⟨fun h204 => ?_, fun h204 => ?_⟩
                    · unfold wX11_parse_225
                      refine ⟨by omega, ?_⟩
                      refine ⟨fun h227 => ?_, fun h227 => ?_⟩
                      · intro S240 hS240e
                        have hS240 : Ch [60] [] S51h S240 := Ch_I hS240e
                        have hS240v : S240.1 54 60 = 0 := pI_at hS240e
                        refine ⟨by omega, ?_⟩
                        refine ⟨by omega, ?_⟩
                        refine ⟨by omega, ?_⟩
                        have e391 : S240.1 54 41 = S51h.1 54 41 := hS240.1 41 (by decide)
                        have e392 : S51h.1 54 41 = S18.1 54 41 := hS51h.1 41 (by decide)
                        have e393 : S18.1 54 41 = S12.1 54 41 := hS18.1 41 (by decide)
                        have e394 : S12.1 54 41 = S7.1 54 41 := hS12.1 41 (by decide)
                        have e395 : S7.1 54 41 = S2.1 54 41 := hS7.1 41 (by decide)
                        have e396 : S2.1 54 41 = S.1 54 41 := hS2.1 41 (by decide)
                        have e397 : S240.1 54 41 = S51h.1 54 41 := hS240.1 41 (by decide)
                        have e398 : S51h.1 54 41 = S18.1 54 41 := hS51h.1 41 (by decide)
                        have e399 : S18.1 54 41 = S12.1 54 41 := hS18.1 41 (by decide)
                        have e400 : S12.1 54 41 = S7.1 54 41 := hS12.1 41 (by decide)
                        have e401 : S7.1 54 41 = S2.1 54 41 := hS7.1 41 (by decide)
                        have e402 : S2.1 54 41 = S.1 54 41 := hS2.1 41 (by decide)
                        have e403 : S240.1 54 56 = S51h.1 54 56 := hS240.1 56 (by decide)
                        have e404 : S240.1 54 51 = S51h.1 54 51 := hS240.1 51 (by decide)
                        have e405 : S240.1 54 43 = S51h.1 54 43 := hS240.1 43 (by decide)
                        have e406 : S240.1 54 43 = S51h.1 54 43 := hS240.1 43 (by decide)
                        refine tX11_beginTag (by omega) (by omega) (by omega) (by omega) (by omega) (by omega) (PA.mv2 i51_5 ((hS240).1 51 (by decide)) ((hS240).1 56 (by decide)) ((hS240).2 92 (by decide)) ((hS240).2 93 (by decide)) ((hS240).2 94 (by decide)) ((hS240).2 95 (by decide))) (PR.mv i51_6 ((hS240).1 43 (by decide)) ((hS240).1 51 (by decide)) ((hS240).2 86 (by decide)) ((hS240).2 87 (by decide)) ((hS240).2 88 (by decide)) ((hS240).2 90 (by decide)) ((hS240).2 91 (by decide))) (PO.mv i51_7 ((hS240).1 43 (by decide)) ((hS240).2 88 (by decide))) (PE.mv i51_8 ((hS240).1 43 (by decide)) ((hS240).2 88 (by decide))) (by omega) (fun r247 S247 hS247 n247_0 n247_1 n247_2 n247_3 n247_4 n247_5 n247_6 n247_7 => ?_)
                        have hbr : (S247.1 54 43 = S240.1 54 43 + 1 ∧ S247.2 88 (S240.1 54 43) = v51_2) ∨ S247.1 54 43 = S240.1 54 43 := by
                          rcases n247_5 with h | h
                          · exact Or.inl h
                          · exact Or.inr h.1
                        intro q407
                        refine ⟨fun h255 => ?_, fun h255 => ?_⟩
                        · unfold wX11_parse_265
                          intro q408
                          refine ⟨fun h270 => ?_, fun h270 => ?_⟩
                          · unfold wX11_parse_283
                            refine ⟨by omega, ?_⟩
                            refine ⟨fun h287 => ?_, fun h287 => ?_⟩
                            · unfold wX11_parse_295
                              unfold wX11_parse_297
                              exact ⟨⟨(Ch.wk (Ch.tr (Ch.tr hS51h hS240) hS247) (by decide) (by decide)), by omega, by omega, by omega, by omega, by omega, n247_2, n247_3, n247_4, (PE_new (PE.mv i51_8 (hS240.1 43 (by decide)) (hS240.2 88 (by decide))) hbr n247_6), n247_7, (n247_5.elim (fun h => Or.inl (by omega)) (fun h => Or.inr (Or.inl (by omega)))), by omega, by omega⟩, show (2 * (3020 - r247) + min 1 (max 0 (-1 - (S247.1 54 59)))).toNat < (2 * (3020 - v51_1) + min 1 (max 0 (-1 - (S51h.1 54 59)))).toNat by omega⟩
                            · unfold wX11_parse_295
                              unfold wX11_parse_297
                              exact ⟨⟨(Ch.wk (Ch.tr (Ch.tr hS51h hS240) hS247) (by decide) (by decide)), by omega, by omega, by omega, by omega, by omega, n247_2, n247_3, n247_4, (PE_new (PE.mv i51_8 (hS240.1 43 (by decide)) (hS240.2 88 (by decide))) hbr n247_6), n247_7, (n247_5.elim (fun h => Or.inl (by omega)) (fun h => Or.inr (Or.inl (by omega)))), by omega, by omega⟩, show (2 * (3020 - r247) + min 1 (max 0 (-1 - (S247.1 54 59)))).toNat < (2 * (3020 - v51_1) + min 1 (max 0 (-1 - (S51h.1 54 59)))).toNat by omega⟩
                          · intro q409
                            unfold wX11_parse_283
                            refine ⟨by omega, ?_⟩
                            refine ⟨fun h287 => ?_, fun h287 => ?_⟩
                            · unfold wX11_parse_295
                              unfold wX11_parse_297
                              exact ⟨⟨(Ch.wk (Ch.tr (Ch.tr hS51h hS240) hS247) (by decide) (by decide)), by omega, by omega, by omega, by omega, by omega, n247_2, n247_3, n247_4, (PE_last (by omega)), n247_7, (n247_5.elim (fun h => Or.inl (by omega)) (fun h => Or.inr (Or.inl (by omega)))), by omega, by omega⟩, show (2 * (3020 - r247) + min 1 (max 0 (-1 - (S247.1 54 59)))).toNat < (2 * (3020 - v51_1) + min 1 (max 0 (-1 - (S51h.1 54 59)))).toNat by omega⟩
                            · unfold wX11_parse_295
                              unfold wX11_parse_297
                              exact ⟨⟨(Ch.wk (Ch.tr (Ch.tr hS51h hS240) hS247) (by decide) (by decide)), by omega, by omega, by omega, by omega, by omega, n247_2, n247_3, n247_4, (PE_last (by omega)), n247_7, (n247_5.elim (fun h => Or.inl (by omega)) (fun h => Or.inr (Or.inl (by omega)))), by omega, by omega⟩, show (2 * (3020 - r247) + min 1 (max 0 (-1 - (S247.1 54 59)))).toNat < (2 * (3020 - v51_1) + min 1 (max 0 (-1 - (S51h.1 54 59)))).toNat by omega⟩
                        · unfold wX11_parse_265
                          intro q410
                          refine ⟨fun h270 => ?_, fun h270 => ?_⟩
                          · unfold wX11_parse_283
                            refine ⟨by omega, ?_⟩
                            refine ⟨fun h287 => ?_, fun h287 => ?_⟩
                            · unfold wX11_parse_295
                              unfold wX11_parse_297
                              exact ⟨⟨(Ch.wk (Ch.tr (Ch.tr hS51h hS240) hS247) (by decide) (by decide)), by omega, by omega, by omega, by omega, by omega, n247_2, n247_3, n247_4, (PE_new (PE.mv i51_8 (hS240.1 43 (by decide)) (hS240.2 88 (by decide))) hbr n247_6), n247_7, (n247_5.elim (fun h => Or.inl (by omega)) (fun h => Or.inr (Or.inl (by omega)))), by omega, by omega⟩, show (2 * (3020 - r247) + min 1 (max 0 (-1 - (S247.1 54 59)))).toNat < (2 * (3020 - v51_1) + min 1 (max 0 (-1 - (S51h.1 54 59)))).toNat by omega⟩
                            · unfold wX11_parse_295
                              unfold wX11_parse_297
                              exact ⟨⟨(Ch.wk (Ch.tr (Ch.tr hS51h hS240) hS247) (by decide) (by decide)), by omega, by omega, by omega, by omega, by omega, n247_2, n247_3, n247_4, (PE_new (PE.mv i51_8 (hS240.1 43 (by decide)) (hS240.2 88 (by decide))) hbr n247_6), n247_7, (n247_5.elim (fun h => Or.inl (by omega)) (fun h => Or.inr (Or.inl (by omega)))), by omega, by omega⟩, show (2 * (3020 - r247) + min 1 (max 0 (-1 - (S247.1 54 59)))).toNat < (2 * (3020 - v51_1) + min 1 (max 0 (-1 - (S51h.1 54 59)))).toNat by omega⟩
                          · intro q411
                            unfold wX11_parse_283
                            refine ⟨by omega, ?_⟩
                            refine ⟨fun h287 => ?_, fun h287 => ?_⟩
                            · unfold wX11_parse_295
                              unfold wX11_parse_297
                              exact ⟨⟨(Ch.wk (Ch.tr (Ch.tr hS51h hS240) hS247) (by decide) (by decide)), by omega, by omega, by omega, by omega, by omega, n247_2, n247_3, n247_4, (PE_last (by omega)), n247_7, (n247_5.elim (fun h => Or.inl (by omega)) (fun h => Or.inr (Or.inl (by omega)))), by omega, by omega⟩, show (2 * (3020 - r247) + min 1 (max 0 (-1 - (S247.1 54 59)))).toNat < (2 * (3020 - v51_1) + min 1 (max 0 (-1 - (S51h.1 54 59)))).toNat by omega⟩
                            · unfold wX11_parse_295
                              unfold wX11_parse_297
                              exact ⟨⟨(Ch.wk (Ch.tr (Ch.tr hS51h hS240) hS247) (by decide) (by decide)), by omega, by omega, by omega, by omega, by omega, n247_2, n247_3, n247_4, (PE_last (by omega)), n247_7, (n247_5.elim (fun h => Or.inl (by omega)) (fun h => Or.inr (Or.inl (by omega)))), by omega, by omega⟩, show (2 * (3020 - r247) + min 1 (max 0 (-1 - (S247.1 54 59)))).toNat < (2 * (3020 - v51_1) + min 1 (max 0 (-1 - (S51h.1 54 59)))).toNat by omega⟩
                      · refine ⟨by omega, ?_⟩
                        refine tX11_fail (by omega) (fun r232 S232 hS232 n232_0 => ?_)
                        unfold wX11_parse_297
                        have e412 : S232.1 54 43 = S51h.1 54 43 := hS232.1 43 (by decide)
                        have e413 : S232.1 54 43 = S51h.1 54 43 := hS232.1 43 (by decide)
                        exact ⟨⟨(Ch.wk (Ch.tr hS51h hS232) (by decide) (by decide)), by omega, by omega, by omega, by omega, by omega, (PA.mv3 i51_5 ((hS232).1 51 (by decide)) ((hS232).2 92 (by decide)) ((hS232).2 93 (by decide)) ((hS232).2 94 (by decide)) ((hS232).2 95 (by decide))), (PR.mv i51_6 ((hS232).1 43 (by decide)) ((hS232).1 51 (by decide)) ((hS232).2 86 (by decide)) ((hS232).2 87 (by decide)) ((hS232).2 88 (by decide)) ((hS232).2 90 (by decide)) ((hS232).2 91 (by decide))), (PO.mv i51_7 ((hS232).1 43 (by decide)) ((hS232).2 88 (by decide))), (PE.mv i51_8 ((hS232).1 43 (by decide)) ((hS232).2 88 (by decide))), (by
                              unfold PB
                              have e414 : S232.1 54 41 = S51h.1 54 41 := hS232.1 41 (by decide)
                              have e415 : S51h.1 54 41 = S18.1 54 41 := hS51h.1 41 (by decide)
                              have e416 : S18.1 54 41 = S12.1 54 41 := hS18.1 41 (by decide)
                              have e417 : S12.1 54 41 = S7.1 54 41 := hS12.1 41 (by decide)
                              have e418 : S7.1 54 41 = S2.1 54 41 := hS7.1 41 (by decide)
                              have e419 : S2.1 54 41 = S.1 54 41 := hS2.1 41 (by decide)
                              have e420 : S232.1 54 56 = S51h.1 54 56 := hS232.1 56 (by decide)
                              have e421 : S232.1 54 51 = S51h.1 54 51 := hS232.1 51 (by decide)
                              first
                              | exact Or.inl (by omega)
                              | exact (Classical.em (-1 ≤ S232.1 54 59)).elim (fun hb => Or.inl hb) (fun hb => Or.inr ⟨by omega, by omega, by omega⟩)), (by
                              unfold P1
                              have e422 : S232.1 54 43 = S51h.1 54 43 := hS232.1 43 (by decide)
                              first | exact Or.inr (Or.inl (by omega)) | exact Or.inl (by omega)), by omega, by omega⟩, show (2 * (3020 - v51_1) + min 1 (max 0 (-1 - (S232.1 54 59)))).toNat < (2 * (3020 - v51_1) + min 1 (max 0 (-1 - (S51h.1 54 59)))).toNat by omega⟩
                    · refine ⟨by omega, ?_⟩
                      refine ⟨fun h210 => ?_, fun h210 => ?_⟩
                      · unfold wX11_parse_225
                        refine ⟨by omega, ?_⟩
                        refine ⟨fun h227 => ?_, fun h227 => ?_⟩
                        · intro S240 hS240e
                          have hS240 : Ch [60] [] S51h S240 := Ch_I hS240e
                          have hS240v : S240.1 54 60 = 0 := pI_at hS240e
                          refine ⟨by omega, ?_⟩
                          refine ⟨by omega, ?_⟩
                          refine ⟨by omega, ?_⟩
                          have e423 : S240.1 54 41 = S51h.1 54 41 := hS240.1 41 (by decide)
                          have e424 : S51h.1 54 41 = S18.1 54 41 := hS51h.1 41 (by decide)
                          have e425 : S18.1 54 41 = S12.1 54 41 := hS18.1 41 (by decide)
                          have e426 : S12.1 54 41 = S7.1 54 41 := hS12.1 41 (by decide)
                          have e427 : S7.1 54 41 = S2.1 54 41 := hS7.1 41 (by decide)
                          have e428 : S2.1 54 41 = S.1 54 41 := hS2.1 41 (by decide)
                          have e429 : S240.1 54 41 = S51h.1 54 41 := hS240.1 41 (by decide)
                          have e430 : S51h.1 54 41 = S18.1 54 41 := hS51h.1 41 (by decide)
                          have e431 : S18.1 54 41 = S12.1 54 41 := hS18.1 41 (by decide)
                          have e432 : S12.1 54 41 = S7.1 54 41 := hS12.1 41 (by decide)
                          have e433 : S7.1 54 41 = S2.1 54 41 := hS7.1 41 (by decide)
                          have e434 : S2.1 54 41 = S.1 54 41 := hS2.1 41 (by decide)
                          have e435 : S240.1 54 56 = S51h.1 54 56 := hS240.1 56 (by decide)
                          have e436 : S240.1 54 51 = S51h.1 54 51 := hS240.1 51 (by decide)
                          have e437 : S240.1 54 43 = S51h.1 54 43 := hS240.1 43 (by decide)
                          have e438 : S240.1 54 43 = S51h.1 54 43 := hS240.1 43 (by decide)
                          refine tX11_beginTag (by omega) (by omega) (by omega) (by omega) (by omega) (by omega) (PA.mv2 i51_5 ((hS240).1 51 (by decide)) ((hS240).1 56 (by decide)) ((hS240).2 92 (by decide)) ((hS240).2 93 (by decide)) ((hS240).2 94 (by decide)) ((hS240).2 95 (by decide))) (PR.mv i51_6 ((hS240).1 43 (by decide)) ((hS240).1 51 (by decide)) ((hS240).2 86 (by decide)) ((hS240).2 87 (by decide)) ((hS240).2 88 (by decide)) ((hS240).2 90 (by decide)) ((hS240).2 91 (by decide))) (PO.mv i51_7 ((hS240).1 43 (by decide)) ((hS240).2 88 (by decide))) (PE.mv i51_8 ((hS240).1 43 (by decide)) ((hS240).2 88 (by decide))) (by omega) (fun r247 S247 hS247 n247_0 n247_1 n247_2 n247_3 n247_4 n247_5 n247_6 n247_7 => ?_)
                          have hbr : (S247.1 54 43 = S240.1 54 43 + 1 ∧ S247.2 88 (S240.1 54 43) = v51_2) ∨ S247.1 54 43 = S240.1 54 43 := by
                            rcases n247_5 with h | h
                            · exact Or.inl h
                            · exact Or.inr h.1
                          intro q439
                          refine ⟨fun h255 => ?_, fun h255 => ?_⟩
                          · unfold wX11_parse_265
                            intro q440
                            refine ⟨fun h270 => ?_, fun h270 => ?_⟩
                            · unfold wX11_parse_283
                              refine ⟨by omega, ?_⟩
                              refine ⟨fun h287 => ?_, fun h287 => ?_⟩
                              · unfold wX11_parse_295
                                unfold wX11_parse_297
                                exact ⟨⟨(Ch.wk (Ch.tr (Ch.tr hS51h hS240) hS247) (by decide) (by decide)), by omega, by omega, by omega, by omega, by omega, n247_2, n247_3, n247_4, (PE_new (PE.mv i51_8 (hS240.1 43 (by decide)) (hS240.2 88 (by decide))) hbr n247_6), n247_7, (n247_5.elim (fun h => Or.inl (by omega)) (fun h => Or.inr (Or.inl (by omega)))), by omega, by omega⟩, show (2 * (3020 - r247) + min 1 (max 0 (-1 - (S247.1 54 59)))).toNat < (2 * (3020 - v51_1) + min 1 (max 0 (-1 - (S51h.1 54 59)))).toNat by omega⟩
                              · unfold wX11_parse_295
                                unfold wX11_parse_297
                                exact ⟨⟨(Ch.wk (Ch.tr (Ch.tr hS51h hS240) hS247) (by decide) (by decide)), by omega, by omega, by omega, by omega, by omega, n247_2, n247_3, n247_4, (PE_new (PE.mv i51_8 (hS240.1 43 (by decide)) (hS240.2 88 (by decide))) hbr n247_6), n247_7, (n247_5.elim (fun h => Or.inl (by omega)) (fun h => Or.inr (Or.inl (by omega)))), by omega, by omega⟩, show (2 * (3020 - r247) + min 1 (max 0 (-1 - (S247.1 54 59)))).toNat < (2 * (3020 - v51_1) + min 1 (max 0 (-1 - (S51h.1 54 59)))).toNat by omega⟩
                            · intro q441
                              unfold wX11_parse_283
                              refine ⟨by omega, ?_⟩
                              refine ⟨fun h287 => ?_, fun h287 => ?_⟩
                              · unfold wX11_parse_295
                                unfold wX11_parse_297
                                exact ⟨⟨(Ch.wk (Ch.tr (Ch.tr hS51h hS240) hS247) (by decide) (by decide)), by omega, by omega, by omega, by omega, by omega, n247_2, n247_3, n247_4, (PE_last (by omega)), n247_7, (n247_5.elim (fun h => Or.inl (by omega)) (fun h => Or.inr (Or.inl (by omega)))), by omega, by omega⟩, show (2 * (3020 - r247) + min 1 (max 0 (-1 - (S247.1 54 59)))).toNat < (2 * (3020 - v51_1) + min 1 (max 0 (-1 - (S51h.1 54 59)))).toNat by omega⟩
                              · unfold wX11_parse_295
                                unfold wX11_parse_297
                                exact ⟨⟨(Ch.wk (Ch.tr (Ch.tr hS51h hS240) hS247) (by decide) (by decide)), by omega, by omega, by omega, by omega, by omega, n247_2, n247_3, n247_4, (PE_last (by omega)), n247_7, (n247_5.elim (fun h => Or.inl (by omega)) (fun h => Or.inr (Or.inl (by omega)))), by omega, by omega⟩, show (2 * (3020 - r247) + min 1 (max 0 (-1 - (S247.1 54 59)))).toNat < (2 * (3020 - v51_1) + min 1 (max 0 (-1 - (S51h.1 54 59)))).toNat by omega⟩
                          · unfold wX11_parse_265
                            intro q442
                            refine ⟨fun h270 => ?_, fun h270 => ?_⟩
                            · unfold wX11_parse_283
                              refine ⟨by omega, ?_⟩
                              refine ⟨fun h287 => ?_, fun h287 => ?_⟩
                              · unfold wX11_parse_295
                                unfold wX11_parse_297
                                exact ⟨⟨(Ch.wk (Ch.tr (Ch.tr hS51h hS240) hS247) (by decide) (by decide)), by omega, by omega, by omega, by omega, by omega, n247_2, n247_3, n247_4, (PE_new (PE.mv i51_8 (hS240.1 43 (by decide)) (hS240.2 88 (by decide))) hbr n247_6), n247_7, (n247_5.elim (fun h => Or.inl (by omega)) (fun h => Or.inr (Or.inl (by omega)))), by omega, by omega⟩, show (2 * (3020 - r247) + min 1 (max 0 (-1 - (S247.1 54 59)))).toNat < (2 * (3020 - v51_1) + min 1 (max 0 (-1 - (S51h.1 54 59)))).toNat by omega⟩
                              · unfold wX11_parse_295
                                unfold wX11_parse_297
                                exact ⟨⟨(Ch.wk (Ch.tr (Ch.tr hS51h hS240) hS247) (by decide) (by decide)), by omega, by omega, by omega, by omega, by omega, n247_2, n247_3, n247_4, (PE_new (PE.mv i51_8 (hS240.1 43 (by decide)) (hS240.2 88 (by decide))) hbr n247_6), n247_7, (n247_5.elim (fun h => Or.inl (by omega)) (fun h => Or.inr (Or.inl (by omega)))), by omega, by omega⟩, show (2 * (3020 - r247) + min 1 (max 0 (-1 - (S247.1 54 59)))).toNat < (2 * (3020 - v51_1) + min 1 (max 0 (-1 - (S51h.1 54 59)))).toNat by omega⟩
                            · intro q443
                              unfold wX11_parse_283
                              refine ⟨by omega, ?_⟩
                              refine ⟨fun h287 => ?_, fun h287 => ?_⟩
                              · unfold wX11_parse_295
                                unfold wX11_parse_297
                                exact ⟨⟨(Ch.wk (Ch.tr (Ch.tr hS51h hS240) hS247) (by decide) (by decide)), by omega, by omega, by omega, by omega, by omega, n247_2, n247_3, n247_4, (PE_last (by omega)), n247_7, (n247_5.elim (fun h => Or.inl (by omega)) (fun h => Or.inr (Or.inl (by omega)))), by omega, by omega⟩, show (2 * (3020 - r247) + min 1 (max 0 (-1 - (S247.1 54 59)))).toNat < (2 * (3020 - v51_1) + min 1 (max 0 (-1 - (S51h.1 54 59)))).toNat by omega⟩
                              · unfold wX11_parse_295
                                unfold wX11_parse_297
                                exact ⟨⟨(Ch.wk (Ch.tr (Ch.tr hS51h hS240) hS247) (by decide) (by decide)), by omega, by omega, by omega, by omega, by omega, n247_2, n247_3, n247_4, (PE_last (by omega)), n247_7, (n247_5.elim (fun h => Or.inl (by omega)) (fun h => Or.inr (Or.inl (by omega)))), by omega, by omega⟩, show (2 * (3020 - r247) + min 1 (max 0 (-1 - (S247.1 54 59)))).toNat < (2 * (3020 - v51_1) + min 1 (max 0 (-1 - (S51h.1 54 59)))).toNat by omega⟩
                        · refine ⟨by omega, ?_⟩
                          refine tX11_fail (by omega) (fun r232 S232 hS232 n232_0 => ?_)
                          unfold wX11_parse_297
                          have e444 : S232.1 54 43 = S51h.1 54 43 := hS232.1 43 (by decide)
                          have e445 : S232.1 54 43 = S51h.1 54 43 := hS232.1 43 (by decide)
                          exact ⟨⟨(Ch.wk (Ch.tr hS51h hS232) (by decide) (by decide)), by omega, by omega, by omega, by omega, by omega, (PA.mv3 i51_5 ((hS232).1 51 (by decide)) ((hS232).2 92 (by decide)) ((hS232).2 93 (by decide)) ((hS232).2 94 (by decide)) ((hS232).2 95 (by decide))), (PR.mv i51_6 ((hS232).1 43 (by decide)) ((hS232).1 51 (by decide)) ((hS232).2 86 (by decide)) ((hS232).2 87 (by decide)) ((hS232).2 88 (by decide)) ((hS232).2 90 (by decide)) ((hS232).2 91 (by decide))), (PO.mv i51_7 ((hS232).1 43 (by decide)) ((hS232).2 88 (by decide))), (PE.mv i51_8 ((hS232).1 43 (by decide)) ((hS232).2 88 (by decide))), (by
                                unfold PB
                                have e446 : S232.1 54 41 = S51h.1 54 41 := hS232.1 41 (by decide)
                                have e447 : S51h.1 54 41 = S18.1 54 41 := hS51h.1 41 (by decide)
                                have e448 : S18.1 54 41 = S12.1 54 41 := hS18.1 41 (by decide)
                                have e449 : S12.1 54 41 = S7.1 54 41 := hS12.1 41 (by decide)
                                have e450 : S7.1 54 41 = S2.1 54 41 := hS7.1 41 (by decide)
                                have e451 : S2.1 54 41 = S.1 54 41 := hS2.1 41 (by decide)
                                have e452 : S232.1 54 56 = S51h.1 54 56 := hS232.1 56 (by decide)
                                have e453 : S232.1 54 51 = S51h.1 54 51 := hS232.1 51 (by decide)
                                first
                                | exact Or.inl (by omega)
                                | exact (Classical.em (-1 ≤ S232.1 54 59)).elim (fun hb => Or.inl hb) (fun hb => Or.inr ⟨by omega, by omega, by omega⟩)), (by
                                unfold P1
                                have e454 : S232.1 54 43 = S51h.1 54 43 := hS232.1 43 (by decide)
                                first | exact Or.inr (Or.inl (by omega)) | exact Or.inl (by omega)), by omega, by omega⟩, show (2 * (3020 - v51_1) + min 1 (max 0 (-1 - (S232.1 54 59)))).toNat < (2 * (3020 - v51_1) + min 1 (max 0 (-1 - (S51h.1 54 59)))).toNat by omega⟩
                      · refine ⟨by omega, ?_⟩
                        refine ⟨by omega, ?_⟩
                        have e455 : S51h.1 54 41 = S18.1 54 41 := hS51h.1 41 (by decide)
                        have e456 : S18.1 54 41 = S12.1 54 41 := hS18.1 41 (by decide)
                        have e457 : S12.1 54 41 = S7.1 54 41 := hS12.1 41 (by decide)
                        have e458 : S7.1 54 41 = S2.1 54 41 := hS7.1 41 (by decide)
                        have e459 : S2.1 54 41 = S.1 54 41 := hS2.1 41 (by decide)
                        have e460 : S51h.1 54 41 = S18.1 54 41 := hS51h.1 41 (by decide)
                        have e461 : S18.1 54 41 = S12.1 54 41 := hS18.1 41 (by decide)
                        have e462 : S12.1 54 41 = S7.1 54 41 := hS12.1 41 (by decide)
                        have e463 : S7.1 54 41 = S2.1 54 41 := hS7.1 41 (by decide)
                        have e464 : S2.1 54 41 = S.1 54 41 := hS2.1 41 (by decide)
                        have e465 : S51h.1 54 41 = S18.1 54 41 := hS51h.1 41 (by decide)
                        have e466 : S18.1 54 41 = S12.1 54 41 := hS18.1 41 (by decide)
                        have e467 : S12.1 54 41 = S7.1 54 41 := hS12.1 41 (by decide)
                        have e468 : S7.1 54 41 = S2.1 54 41 := hS7.1 41 (by decide)
                        have e469 : S2.1 54 41 = S.1 54 41 := hS2.1 41 (by decide)
                        refine tX11_section (by omega) (by omega) (by omega) (by omega) (by omega) (by omega) (fun r218 S218 hS218 n218_0 n218_1 n218_2 n218_3 => ?_)
                        unfold wX11_parse_297
                        have e470 : S218.1 54 43 = S51h.1 54 43 := hS218.1 43 (by decide)
                        have e471 : S218.1 54 43 = S51h.1 54 43 := hS218.1 43 (by decide)
                        exact ⟨⟨(Ch.wk (Ch.tr hS51h hS218) (by decide) (by decide)), by omega, by omega, by omega, by omega, by omega, (PA.mv3 i51_5 ((hS218).1 51 (by decide)) ((hS218).2 92 (by decide)) ((hS218).2 93 (by decide)) ((hS218).2 94 (by decide)) ((hS218).2 95 (by decide))), (PR.mv i51_6 ((hS218).1 43 (by decide)) ((hS218).1 51 (by decide)) ((hS218).2 86 (by decide)) ((hS218).2 87 (by decide)) ((hS218).2 88 (by decide)) ((hS218).2 90 (by decide)) ((hS218).2 91 (by decide))), (PO.mv i51_7 ((hS218).1 43 (by decide)) ((hS218).2 88 (by decide))), (PE.mv i51_8 ((hS218).1 43 (by decide)) ((hS218).2 88 (by decide))), (by
                              unfold PB
                              have e472 : S218.1 54 41 = S51h.1 54 41 := hS218.1 41 (by decide)
                              have e473 : S51h.1 54 41 = S18.1 54 41 := hS51h.1 41 (by decide)
                              have e474 : S18.1 54 41 = S12.1 54 41 := hS18.1 41 (by decide)
                              have e475 : S12.1 54 41 = S7.1 54 41 := hS12.1 41 (by decide)
                              have e476 : S7.1 54 41 = S2.1 54 41 := hS7.1 41 (by decide)
                              have e477 : S2.1 54 41 = S.1 54 41 := hS2.1 41 (by decide)
                              have e478 : S218.1 54 51 = S51h.1 54 51 := hS218.1 51 (by decide)
                              first
                              | exact Or.inl (by omega)
                              | exact (Classical.em (-1 ≤ S218.1 54 59)).elim (fun hb => Or.inl hb) (fun hb => Or.inr ⟨by omega, by omega, by omega⟩)), (by
                              unfold P1
                              have e479 : S218.1 54 43 = S51h.1 54 43 := hS218.1 43 (by decide)
                              first | exact Or.inr (Or.inl (by omega)) | exact Or.inl (by omega)), by omega, by omega⟩, show (2 * (3020 - r218) + min 1 (max 0 (-1 - (S218.1 54 59)))).toNat < (2 * (3020 - v51_1) + min 1 (max 0 (-1 - (S51h.1 54 59)))).toNat by omega⟩
                  · refine ⟨by omega, ?_⟩
                    refine ⟨fun h164 => ?_, fun h164 => ?_⟩
                    · unfold wX11_parse_200
                      refine ⟨by omega, ?_⟩
                      refine ⟨fun h204 => ?_, fun h204 => ?_⟩
                      · unfold wX11_parse_225
                        refine ⟨by omega, ?_⟩
                        refine ⟨fun h227 => ?_, fun h227 => ?_⟩
                        · intro S240 hS240e
                          have hS240 : Ch [60] [] S51h S240 := Ch_I hS240e
                          have hS240v : S240.1 54 60 = 0 := pI_at hS240e
                          refine ⟨by omega, ?_⟩
                          refine ⟨by omega, ?_⟩
                          refine ⟨by omega, ?_⟩
                          have e480 : S240.1 54 41 = S51h.1 54 41 := hS240.1 41 (by decide)
                          have e481 : S51h.1 54 41 = S18.1 54 41 := hS51h.1 41 (by decide)
                          have e482 : S18.1 54 41 = S12.1 54 41 := hS18.1 41 (by decide)
                          have e483 : S12.1 54 41 = S7.1 54 41 := hS12.1 41 (by decide)
                          have e484 : S7.1 54 41 = S2.1 54 41 := hS7.1 41 (by decide)
                          have e485 : S2.1 54 41 = S.1 54 41 := hS2.1 41 (by decide)
                          have e486 : S240.1 54 41 = S51h.1 54 41 := hS240.1 41 (by decide)
                          have e487 : S51h.1 54 41 = S18.1 54 41 := hS51h.1 41 (by decide)
                          have e488 : S18.1 54 41 = S12.1 54 41 := hS18.1 41 (by decide)
                          have e489 : S12.1 54 41 = S7.1 54 41 := hS12.1 41 (by decide)
                          have e490 : S7.1 54 41 = S2.1 54 41 := hS7.1 41 (by decide)
                          have e491 : S2.1 54 41 = S.1 54 41 := hS2.1 41 (by decide)
                          have e492 : S240.1 54 56 = S51h.1 54 56 := hS240.1 56 (by decide)
                          have e493 : S240.1 54 51 = S51h.1 54 51 := hS240.1 51 (by decide)
                          have e494 : S240.1 54 43 = S51h.1 54 43 := hS240.1 43 (by decide)
                          have e495 : S240.1 54 43 = S51h.1 54 43 := hS240.1 43 (by decide)
                          refine tX11_beginTag (by omega) (by omega) (by omega) (by omega) (by omega) (by omega) (PA.mv2 i51_5 ((hS240).1 51 (by decide)) ((hS240).1 56 (by decide)) ((hS240).2 92 (by decide)) ((hS240).2 93 (by decide)) ((hS240).2 94 (by decide)) ((hS240).2 95 (by decide))) (PR.mv i51_6 ((hS240).1 43 (by decide)) ((hS240).1 51 (by decide)) ((hS240).2 86 (by decide)) ((hS240).2 87 (by decide)) ((hS240).2 88 (by decide)) ((hS240).2 90 (by decide)) ((hS240).2 91 (by decide))) (PO.mv i51_7 ((hS240).1 43 (by decide)) ((hS240).2 88 (by decide))) (PE.mv i51_8 ((hS240).1 43 (by decide)) ((hS240).2 88 (by decide))) (by omega) (fun r247 S247 hS247 n247_0 n247_1 n247_2 n247_3 n247_4 n247_5 n247_6 n247_7 => ?_)
                          have hbr : (S247.1 54 43 = S240.1 54 43 + 1 ∧ S247.2 88 (S240.1 54 43) = v51_2) ∨ S247.1 54 43 = S240.1 54 43 := by
                            rcases n247_5 with h | h
                            · exact Or.inl h
                            · exact Or.inr h.1
                          intro q496
                          refine ⟨fun h255 => ?_, fun h255 => ?_⟩
                          · unfold wX11_parse_265
                            intro q497
                            refine ⟨fun h270 => ?_, fun h270 => ?_⟩
                            · unfold wX11_parse_283
                              refine ⟨by omega, ?_⟩
                              refine ⟨fun h287 => ?_, fun h287 => ?_⟩
                              · unfold wX11_parse_295
                                unfold wX11_parse_297
                                exact ⟨⟨(Ch.wk (Ch.tr (Ch.tr hS51h hS240) hS247) (by decide) (by decide)), by omega, by omega, by omega, by omega, by omega, n247_2, n247_3, n247_4, (PE_new (PE.mv i51_8 (hS240.1 43 (by decide)) (hS240.2 88 (by decide))) hbr n247_6), n247_7, (n247_5.elim (fun h => Or.inl (by omega)) (fun h => Or.inr (Or.inl (by omega)))), by omega, by omega⟩, show (2 * (3020 - r247) + min 1 (max 0 (-1 - (S247.1 54 59)))).toNat < (2 * (3020 - v51_1) + min 1 (max 0 (-1 - (S51h.1 54 59)))).toNat by omega⟩
                              · unfold wX11_parse_295
                                unfold wX11_parse_297
                                exact ⟨⟨(Ch.wk (Ch.tr (Ch.tr hS51h hS240) hS247) (by decide) (by decide)), by omega, by omega, by omega, by omega, by omega, n247_2, n247_3, n247_4, (PE_new (PE.mv i51_8 (hS240.1 43 (by decide)) (hS240.2 88 (by decide))) hbr n247_6), n247_7, (n247_5.elim (fun h => Or.inl (by omega)) (fun h => Or.inr (Or.inl (by omega)))), by omega, by omega⟩, show (2 * (3020 - r247) + min 1 (max 0 (-1 - (S247.1 54 59)))).toNat < (2 * (3020 - v51_1) + min 1 (max 0 (-1 - (S51h.1 54 59)))).toNat by omega⟩
                            · intro q498
                              unfold wX11_parse_283
                              refine ⟨by omega, ?_⟩
                              refine ⟨fun h287 => ?_, fun h287 => ?_⟩
                              · unfold wX11_parse_295
                                unfold wX11_parse_297
                                exact ⟨⟨(Ch.wk (Ch.tr (Ch.tr hS51h hS240) hS247) (by decide) (by decide)), by omega, by omega, by omega, by omega, by omega, n247_2, n247_3, n247_4, (PE_last (by omega)), n247_7, (n247_5.elim (fun h => Or.inl (by omega)) (fun h => Or.inr (Or.inl (by omega)))), by omega, by omega⟩, show (2 * (3020 - r247) + min 1 (max 0 (-1 - (S247.1 54 59)))).toNat < (2 * (3020 - v51_1) + min 1 (max 0 (-1 - (S51h.1 54 59)))).toNat by omega⟩
                              · unfold wX11_parse_295
                                unfold wX11_parse_297
                                exact ⟨⟨(Ch.wk (Ch.tr (Ch.tr hS51h hS240) hS247) (by decide) (by decide)), by omega, by omega, by omega, by omega, by omega, n247_2, n247_3, n247_4, (PE_last (by omega)), n247_7, (n247_5.elim (fun h => Or.inl (by omega)) (fun h => Or.inr (Or.inl (by omega)))), by omega, by omega⟩, show (2 * (3020 - r247) + min 1 (max 0 (-1 - (S247.1 54 59)))).toNat < (2 * (3020 - v51_1) + min 1 (max 0 (-1 - (S51h.1 54 59)))).toNat by omega⟩
                          · unfold wX11_parse_265
                            intro q499
                            refine ⟨fun h270 => ?_, fun h270 => ?_⟩
                            · unfold wX11_parse_283
                              refine ⟨by omega, ?_⟩
                              refine ⟨fun h287 => ?_, fun h287 => ?_⟩
                              · unfold wX11_parse_295
                                unfold wX11_parse_297
                                exact ⟨⟨(Ch.wk (Ch.tr (Ch.tr hS51h hS240) hS247) (by decide) (by decide)), by omega, by omega, by omega, by omega, by omega, n247_2, n247_3, n247_4, (PE_new (PE.mv i51_8 (hS240.1 43 (by decide)) (hS240.2 88 (by decide))) hbr n247_6), n247_7, (n247_5.elim (fun h => Or.inl (by omega)) (fun h => Or.inr (Or.inl (by omega)))), by omega, by omega⟩, show (2 * (3020 - r247) + min 1 (max 0 (-1 - (S247.1 54 59)))).toNat < (2 * (3020 - v51_1) + min 1 (max 0 (-1 - (S51h.1 54 59)))).toNat by omega⟩
                              · unfold wX11_parse_295
                                unfold wX11_parse_297
                                exact ⟨⟨(Ch.wk (Ch.tr (Ch.tr hS51h hS240) hS247) (by decide) (by decide)), by omega, by omega, by omega, by omega, by omega, n247_2, n247_3, n247_4, (PE_new (PE.mv i51_8 (hS240.1 43 (by decide)) (hS240.2 88 (by decide))) hbr n247_6), n247_7, (n247_5.elim (fun h => Or.inl (by omega)) (fun h => Or.inr (Or.inl (by omega)))), by omega, by omega⟩, show (2 * (3020 - r247) + min 1 (max 0 (-1 - (S247.1 54 59)))).toNat < (2 * (3020 - v51_1) + min 1 (max 0 (-1 - (S51h.1 54 59)))).toNat by omega⟩
                            · intro q500
                              unfold wX11_parse_283
                              refine ⟨by omega, ?_⟩
                              refine ⟨fun h287 => ?_, fun h287 => ?_⟩
                              · unfold wX11_parse_295
                                unfold wX11_parse_297
                                exact ⟨⟨(Ch.wk (Ch.tr (Ch.tr hS51h hS240) hS247) (by decide) (by decide)), by omega, by omega, by omega, by omega, by omega, n247_2, n247_3, n247_4, (PE_last (by omega)), n247_7, (n247_5.elim (fun h => Or.inl (by omega)) (fun h => Or.inr (Or.inl (by omega)))), by omega, by omega⟩, show (2 * (3020 - r247) + min 1 (max 0 (-1 - (S247.1 54 59)))).toNat < (2 * (3020 - v51_1) + min 1 (max 0 (-1 - (S51h.1 54 59)))).toNat by omega⟩
                              · unfold wX11_parse_295
                                unfold wX11_parse_297
                                exact ⟨⟨(Ch.wk (Ch.tr (Ch.tr hS51h hS240) hS247) (by decide) (by decide)), by omega, by omega, by omega, by omega, by omega, n247_2, n247_3, n247_4, (PE_last (by omega)), n247_7, (n247_5.elim (fun h => Or.inl (by omega)) (fun h => Or.inr (Or.inl (by omega)))), by omega, by omega⟩, show (2 * (3020 - r247) + min 1 (max 0 (-1 - (S247.1 54 59)))).toNat < (2 * (3020 - v51_1) + min 1 (max 0 (-1 - (S51h.1 54 59)))).toNat by omega⟩
                        · refine ⟨by omega, ?_⟩
                          refine tX11_fail (by omega) (fun r232 S232 hS232 n232_0 => ?_)
                          unfold wX11_parse_297
                          have e501 : S232.1 54 43 = S51h.1 54 43 := hS232.1 43 (by decide)
                          have e502 : S232.1 54 43 = S51h.1 54 43 := hS232.1 43 (by decide)
                          exact ⟨⟨(Ch.wk (Ch.tr hS51h hS232) (by decide) (by decide)), by omega, by omega, by omega, by omega, by omega, (PA.mv3 i51_5 ((hS232).1 51 (by decide)) ((hS232).2 92 (by decide)) ((hS232).2 93 (by decide)) ((hS232).2 94 (by decide)) ((hS232).2 95 (by decide))), (PR.mv i51_6 ((hS232).1 43 (by decide)) ((hS232).1 51 (by decide)) ((hS232).2 86 (by decide)) ((hS232).2 87 (by decide)) ((hS232).2 88 (by decide)) ((hS232).2 90 (by decide)) ((hS232).2 91 (by decide))), (PO.mv i51_7 ((hS232).1 43 (by decide)) ((hS232).2 88 (by decide))), (PE.mv i51_8 ((hS232).1 43 (by decide)) ((hS232).2 88 (by decide))), (by
                                unfold PB
                                have e503 : S232.1 54 41 = S51h.1 54 41 := hS232.1 41 (by decide)
                                have e504 : S51h.1 54 41 = S18.1 54 41 := hS51h.1 41 (by decide)
                                have e505 : S18.1 54 41 = S12.1 54 41 := hS18.1 41 (by decide)
                                have e506 : S12.1 54 41 = S7.1 54 41 := hS12.1 41 (by decide)
                                have e507 : S7.1 54 41 = S2.1 54 41 := hS7.1 41 (by decide)
                                have e508 : S2.1 54 41 = S.1 54 41 := hS2.1 41 (by decide)
                                have e509 : S232.1 54 56 = S51h.1 54 56 := hS232.1 56 (by decide)
                                have e510 : S232.1 54 51 = S51h.1 54 51 := hS232.1 51 (by decide)
                                first
                                | exact Or.inl (by omega)
                                | exact (Classical.em (-1 ≤ S232.1 54 59)).elim (fun hb => Or.inl hb) (fun hb => Or.inr ⟨by omega, by omega, by omega⟩)), (by
                                unfold P1
                                have e511 : S232.1 54 43 = S51h.1 54 43 := hS232.1 43 (by decide)
                                first | exact Or.inr (Or.inl (by omega)) | exact Or.inl (by omega)), by omega, by omega⟩, show (2 * (3020 - v51_1) + min 1 (max 0 (-1 - (S232.1 54 59)))).toNat < (2 * (3020 - v51_1) + min 1 (max 0 (-1 - (S51h.1 54 59)))).toNat by omega⟩
                      · refine ⟨by omega, ?_⟩
                        refine ⟨fun h210 => ?_, fun h210 => ?_⟩
                        · unfold wX11_parse_225
                          refine ⟨by omega, ?_⟩
                          refine ⟨fun h227 => ?_, fun h227 => ?_⟩
                          · intro S240 hS240e
                            have hS240 : Ch [60] [] S51h S240 := Ch_I hS240e
                            have hS240v : S240.1 54 60 = 0 := pI_at hS240e
                            refine ⟨by omega, ?_⟩
                            refine ⟨by omega, ?_⟩
                            refine ⟨by omega, ?_⟩
                            have e512 : S240.1 54 41 = S51h.1 54 41 := hS240.1 41 (by decide)
                            have e513 : S51h.1 54 41 = S18.1 54 41 := hS51h.1 41 (by decide)
                            have e514 : S18.1 54 41 = S12.1 54 41 := hS18.1 41 (by decide)
                            have e515 : S12.1 54 41 = S7.1 54 41 := hS12.1 41 (by decide)
                            have e516 : S7.1 54 41 = S2.1 54 41 := hS7.1 41 (by decide)
                            have e517 : S2.1 54 41 = S.1 54 41 := hS2.1 41 (by decide)
                            have e518 : S240.1 54 41 = S51h.1 54 41 := hS240.1 41 (by decide)
                            have e519 : S51h.1 54 41 = S18.1 54 41 := hS51h.1 41 (by decide)
                            have e520 : S18.1 54 41 = S12.1 54 41 := hS18.1 41 (by decide)
                            have e521 : S12.1 54 41 = S7.1 54 41 := hS12.1 41 (by decide)
                            have e522 : S7.1 54 41 = S2.1 54 41 := hS7.1 41 (by decide)
                            have e523 : S2.1 54 41 = S.1 54 41 := hS2.1 41 (by decide)
                            have e524 : S240.1 54 56 = S51h.1 54 56 := hS240.1 56 (by decide)
                            have e525 : S240.1 54 51 = S51h.1 54 51 := hS240.1 51 (by decide)
                            have e526 : S240.1 54 43 = S51h.1 54 43 := hS240.1 43 (by decide)
                            have e527 : S240.1 54 43 = S51h.1 54 43 := hS240.1 43 (by decide)
                            refine tX11_beginTag (by omega) (by omega) (by omega) (by omega) (by omega) (by omega) (PA.mv2 i51_5 ((hS240).1 51 (by decide)) ((hS240).1 56 (by decide)) ((hS240).2 92 (by decide)) ((hS240).2 93 (by decide)) ((hS240).2 94 (by decide)) ((hS240).2 95 (by decide))) (PR.mv i51_6 ((hS240).1 43 (by decide)) ((hS240).1 51 (by decide)) ((hS240).2 86 (by decide)) ((hS240).2 87 (by decide)) ((hS240).2 88 (by decide)) ((hS240).2 90 (by decide)) ((hS240).2 91 (by decide))) (PO.mv i51_7 ((hS240).1 43 (by decide)) ((hS240).2 88 (by decide))) (PE.mv i51_8 ((hS240).1 43 (by decide)) ((hS240).2 88 (by decide))) (by omega) (fun r247 S247 hS247 n247_0 n247_1 n247_2 n247_3 n247_4 n247_5 n247_6 n247_7 => ?_)
                            have hbr : (S247.1 54 43 = S240.1 54 43 + 1 ∧ S247.2 88 (S240.1 54 43) = v51_2) ∨ S247.1 54 43 = S240.1 54 43 := by
                              rcases n247_5 with h | h
                              · exact Or.inl h
                              · exact Or.inr h.1
                            intro q528
                            refine ⟨fun h255 => ?_, fun h255 => ?_⟩
                            · unfold wX11_parse_265
                              intro q529
                              refine ⟨fun h270 => ?_, fun h270 => ?_⟩
                              · unfold wX11_parse_283
                                refine ⟨by omega, ?_⟩
                                refine ⟨fun h287 => ?_, fun h287 => ?_⟩
                                · unfold wX11_parse_295
                                  unfold wX11_parse_297
                                  exact ⟨⟨(Ch.wk (Ch.tr (Ch.tr hS51h hS240) hS247) (by decide) (by decide)), by omega, by omega, by omega, by omega, by omega, n247_2, n247_3, n247_4, (PE_new (PE.mv i51_8 (hS240.1 43 (by decide)) (hS240.2 88 (by decide))) hbr n247_6), n247_7, (n247_5.elim (fun h => Or.inl (by omega)) (fun h => Or.inr (Or.inl (by omega)))), by omega, by omega⟩, show (2 * (3020 - r247) + min 1 (max 0 (-1 - (S247.1 54 59)))).toNat < (2 * (3020 - v51_1) + min 1 (max 0 (-1 - (S51h.1 54 59)))).toNat by omega⟩
                                · unfold wX11_parse_295
                                  unfold wX11_parse_297
                                  exact ⟨⟨(Ch.wk (Ch.tr (Ch.tr hS51h hS240) hS247) (by decide) (by decide)), by omega, by omega, by omega, by omega, by omega, n247_2, n247_3, n247_4, (PE_new (PE.mv i51_8 (hS240.1 43 (by decide)) (hS240.2 88 (by decide))) hbr n247_6), n247_7, (n247_5.elim (fun h => Or.inl (by omega)) (fun h => Or.inr (Or.inl (by omega)))), by omega, by omega⟩, show (2 * (3020 - r247) + min 1 (max 0 (-1 - (S247.1 54 59)))).toNat < (2 * (3020 - v51_1) + min 1 (max 0 (-1 - (S51h.1 54 59)))).toNat by omega⟩
                              · intro q530
                                unfold wX11_parse_283
                                refine ⟨by omega, ?_⟩
                                refine ⟨fun h287 => ?_, fun h287 => ?_⟩
                                · unfold wX11_parse_295
                                  unfold wX11_parse_297
                                  exact ⟨⟨(Ch.wk (Ch.tr (Ch.tr hS51h hS240) hS247) (by decide) (by decide)), by omega, by omega, by omega, by omega, by omega, n247_2, n247_3, n247_4, (PE_last (by omega)), n247_7, (n247_5.elim (fun h => Or.inl (by omega)) (fun h => Or.inr (Or.inl (by omega)))), by omega, by omega⟩, show (2 * (3020 - r247) + min 1 (max 0 (-1 - (S247.1 54 59)))).toNat < (2 * (3020 - v51_1) + min 1 (max 0 (-1 - (S51h.1 54 59)))).toNat by omega⟩
                                · unfold wX11_parse_295
                                  unfold wX11_parse_297
                                  exact ⟨⟨(Ch.wk (Ch.tr (Ch.tr hS51h hS240) hS247) (by decide) (by decide)), by omega, by omega, by omega, by omega, by omega, n247_2, n247_3, n247_4, (PE_last (by omega)), n247_7, (n247_5.elim (fun h => Or.inl (by omega)) (fun h => Or.inr (Or.inl (by omega)))), by omega, by omega⟩, show (2 * (3020 - r247) + min 1 (max 0 (-1 - (S247.1 54 59)))).toNat < (2 * (3020 - v51_1) + min 1 (max 0 (-1 - (S51h.1 54 59)))).toNat by omega⟩
                            · unfold wX11_parse_265
                              intro q531
                              refine ⟨fun h270 => ?_, fun h270 => ?_⟩
                              · unfold wX11_parse_283
                                refine ⟨by omega, ?_⟩
                                refine ⟨fun h287 => ?_, fun h287 => ?_⟩
                                · unfold wX11_parse_295
                                  unfold wX11_parse_297
                                  exact ⟨⟨(Ch.wk (Ch.tr (Ch.tr hS51h hS240) hS247) (by decide) (by decide)), by omega, by omega, by omega, by omega, by omega, n247_2, n247_3, n247_4, (PE_new (PE.mv i51_8 (hS240.1 43 (by decide)) (hS240.2 88 (by decide))) hbr n247_6), n247_7, (n247_5.elim (fun h => Or.inl (by omega)) (fun h => Or.inr (Or.inl (by omega)))), by omega, by omega⟩, show (2 * (3020 - r247) + min 1 (max 0 (-1 - (S247.1 54 59)))).toNat < (2 * (3020 - v51_1) + min 1 (max 0 (-1 - (S51h.1 54 59)))).toNat by omega⟩
                                · unfold wX11_parse_295
                                  unfold wX11_parse_297
                                  exact ⟨⟨(Ch.wk (Ch.tr (Ch.tr hS51h hS240) hS247) (by decide) (by decide)), by omega, by omega, by omega, by omega, by omega, n247_2, n247_3, n247_4, (PE_new (PE.mv i51_8 (hS240.1 43 (by decide)) (hS240.2 88 (by decide))) hbr n247_6), n247_7, (n247_5.elim (fun h => Or.inl (by omega)) (fun h => Or.inr (Or.inl (by omega)))), by omega, by omega⟩, show (2 * (3020 - r247) + min 1 (max 0 (-1 - (S247.1 54 59)))).toNat < (2 * (3020 - v51_1) + min 1 (max 0 (-1 - (S51h.1 54 59)))).toNat by omega⟩
                              · intro q532
                                unfold wX11_parse_283
                                refine ⟨by omega, ?_⟩
                                refine ⟨fun h287 => ?_, fun h287 => ?_⟩
                                · unfold wX11_parse_295
                                  unfold wX11_parse_297
                                  exact ⟨⟨(Ch.wk (Ch.tr (Ch.tr hS51h hS240) hS247) (by decide) (by decide)), by omega, by omega, by omega, by omega, by omega, n247_2, n247_3, n247_4, (PE_last (by omega)), n247_7, (n247_5.elim (fun h => Or.inl (by omega)) (fun h => Or.inr (Or.inl (by omega)))), by omega, by omega⟩, show (2 * (3020 - r247) + min 1 (max 0 (-1 - (S247.1 54 59)))).toNat < (2 * (3020 - v51_1) + min 1 (max 0 (-1 - (S51h.1 54 59)))).toNat by omega⟩
                                · unfold wX11_parse_295
                                  unfold wX11_parse_297
                                  exact ⟨⟨(Ch.wk (Ch.tr (Ch.tr hS51h hS240) hS247) (by decide) (by decide)), by omega, by omega, by omega, by omega, by omega, n247_2, n247_3, n247_4, (PE_last (by omega)), n247_7, (n247_5.elim (fun h => Or.inl (by omega)) (fun h => Or.inr (Or.inl (by omega)))), by omega, by omega⟩, show (2 * (3020 - r247) + min 1 (max 0 (-1 - (S247.1 54 59)))).toNat < (2 * (3020 - v51_1) + min 1 (max 0 (-1 - (S51h.1 54 59)))).toNat by omega⟩
                          · refine ⟨by omega, ?_⟩
                            refine tX11_fail (by omega) (fun r232 S232 hS232 n232_0 => ?_)
                            unfold wX11_parse_297
                            have e533 : S232.1 54 43 = S51h.1 54 43 := hS232.1 43 (by decide)
                            have e534 : S232.1 54 43 = S51h.1 54 43 := hS232.1 43 (by decide)
                            exact ⟨⟨(Ch.wk (Ch.tr hS51h hS232) (by decide) (by decide)), by omega, by omega, by omega, by omega, by omega, (PA.mv3 i51_5 ((hS232).1 51 (by decide)) ((hS232).2 92 (by decide)) ((hS232).2 93 (by decide)) ((hS232).2 94 (by decide)) ((hS232).2 95 (by decide))), (PR.mv i51_6 ((hS232).1 43 (by decide)) ((hS232).1 51 (by decide)) ((hS232).2 86 (by decide)) ((hS232).2 87 (by decide)) ((hS232).2 88 (by decide)) ((hS232).2 90 (by decide)) ((hS232).2 91 (by decide))), (PO.mv i51_7 ((hS232).1 43 (by decide)) ((hS232).2 88 (by decide))), (PE.mv i51_8 ((hS232).1 43 (by decide)) ((hS232).2 88 (by decide))), (by
                                  unfold PB
                                  have e535 : S232.1 54 41 = S51h.1 54 41 := hS232.1 41 (by decide)
                                  have e536 : S51h.1 54 41 = S18.1 54 41 := hS51h.1 41 (by decide)
                                  have e537 : S18.1 54 41 = S12.1 54 41 := hS18.1 41 (by decide)
                                  have e538 : S12.1 54 41 = S7.1 54 41 := hS12.1 41 (by decide)
                                  have e539 : S7.1 54 41 = S2.1 54 41 := hS7.1 41 (by decide)
                                  have e540 : S2.1 54 41 = S.1 54 41 := hS2.1 41 (by decide)
                                  have e541 : S232.1 54 56 = S51h.1 54 56 := hS232.1 56 (by decide)
                                  have e542 : S232.1 54 51 = S51h.1 54 51 := hS232.1 51 (by decide)
                                  first
                                  | exact Or.inl (by omega)
                                  | exact (Classical.em (-1 ≤ S232.1 54 59)).elim (fun hb => Or.inl hb) (fun hb => Or.inr ⟨by omega, by omega, by omega⟩)), (by
                                  unfold P1
                                  have e543 : S232.1 54 43 = S51h.1 54 43 := hS232.1 43 (by decide)
                                  first | exact Or.inr (Or.inl (by omega)) | exact Or.inl (by omega)), by omega, by omega⟩, show (2 * (3020 - v51_1) + min 1 (max 0 (-1 - (S232.1 54 59)))).toNat < (2 * (3020 - v51_1) + min 1 (max 0 (-1 - (S51h.1 54 59)))).toNat by omega⟩
                        · refine ⟨by omega, ?_⟩
                          refine ⟨by omega, ?_⟩
                          have e544 : S51h.1 54 41 = S18.1 54 41 := hS51h.1 41 (by decide)
                          have e545 : S18.1 54 41 = S12.1 54 41 := hS18.1 41 (by decide)
                          have e546 : S12.1 54 41 = S7.1 54 41 := hS12.1 41 (by decide)
                          have e547 : S7.1 54 41 = S2.1 54 41 := hS7.1 41 (by decide)
                          have e548 : S2.1 54 41 = S.1 54 41 := hS2.1 41 (by decide)
                          have e549 : S51h.1 54 41 = S18.1 54 41 := hS51h.1 41 (by decide)
                          have e550 : S18.1 54 41 = S12.1 54 41 := hS18.1 41 (by decide)
                          have e551 : S12.1 54 41 = S7.1 54 41 := hS12.1 41 (by decide)
                          have e552 : S7.1 54 41 = S2.1 54 41 := hS7.1 41 (by decide)
                          have e553 : S2.1 54 41 = S.1 54 41 := hS2.1 41 (by decide)
                          have e554 : S51h.1 54 41 = S18.1 54 41 := hS51h.1 41 (by decide)
                          have e555 : S18.1 54 41 = S12.1 54 41 := hS18.1 41 (by decide)
                          have e556 : S12.1 54 41 = S7.1 54 41 := hS12.1 41 (by decide)
                          have e557 : S7.1 54 41 = S2.1 54 41 := hS7.1 41 (by decide)
                          have e558 : S2.1 54 41 = S.1 54 41 := hS2.1 41 (by decide)
                          refine tX11_section (by omega) (by omega) (by omega) (by omega) (by omega) (by omega) (fun r218 S218 hS218 n218_0 n218_1 n218_2 n218_3 => ?_)
                          unfold wX11_parse_297
                          have e559 : S218.1 54 43 = S51h.1 54 43 := hS218.1 43 (by decide)
                          have e560 : S218.1 54 43 = S51h.1 54 43 := hS218.1 43 (by decide)
                          exact ⟨⟨(Ch.wk (Ch.tr hS51h hS218) (by decide) (by decide)), by omega, by omega, by omega, by omega, by omega, (PA.mv3 i51_5 ((hS218).1 51 (by decide)) ((hS218).2 92 (by decide)) ((hS218).2 93 (by decide)) ((hS218).2 94 (by decide)) ((hS218).2 95 (by decide))), (PR.mv i51_6 ((hS218).1 43 (by decide)) ((hS218).1 51 (by decide)) ((hS218).2 86 (by decide)) ((hS218).2 87 (by decide)) ((hS218).2 88 (by decide)) ((hS218).2 90 (by decide)) ((hS218).2 91 (by decide))), (PO.mv i51_7 ((hS218).1 43 (by decide)) ((hS218).2 88 (by decide))), (PE.mv i51_8 ((hS218).1 43 (by decide)) ((hS218).2 88 (by decide))), (by
                                unfold PB
                                have e561 : S218.1 54 41 = S51h.1 54 41 := hS218.1 41 (by decide)
                                have e562 : S51h.1 54 41 = S18.1 54 41 := hS51h.1 41 (by decide)
                                have e563 : S18.1 54 41 = S12.1 54 41 := hS18.1 41 (by decide)
                                have e564 : S12.1 54 41 = S7.1 54 41 := hS12.1 41 (by decide)
                                have e565 : S7.1 54 41 = S2.1 54 41 := hS7.1 41 (by decide)
                                have e566 : S2.1 54 41 = S.1 54 41 := hS2.1 41 (by decide)
                                have e567 : S218.1 54 51 = S51h.1 54 51 := hS218.1 51 (by decide)
                                first
                                | exact Or.inl (by omega)
                                | exact (Classical.em (-1 ≤ S218.1 54 59)).elim (fun hb => Or.inl hb) (fun hb => Or.inr ⟨by omega, by omega, by omega⟩)), (by
                                unfold P1
                                have e568 : S218.1 54 43 = S51h.1 54 43 := hS218.1 43 (by decide)
                                first | exact Or.inr (Or.inl (by omega)) | exact Or.inl (by omega)), by omega, by omega⟩, show (2 * (3020 - r218) + min 1 (max 0 (-1 - (S218.1 54 59)))).toNat < (2 * (3020 - v51_1) + min 1 (max 0 (-1 - (S51h.1 54 59)))).toNat by omega⟩
                    · have hE2 := hE.2.resolve_left (by omega)
                      have hpr := i51_6.at (x := v51_2) (by omega) (by omega)
                      refine ⟨by omega, ?_⟩
                      have e569 : S51h.1 54 41 = S18.1 54 41 := hS51h.1 41 (by decide)
                      have e570 : S18.1 54 41 = S12.1 54 41 := hS18.1 41 (by decide)
                      have e571 : S12.1 54 41 = S7.1 54 41 := hS12.1 41 (by decide)
                      have e572 : S7.1 54 41 = S2.1 54 41 := hS7.1 41 (by decide)
                      have e573 : S2.1 54 41 = S.1 54 41 := hS2.1 41 (by decide)
                      have e574 : S51h.1 54 41 = S18.1 54 41 := hS51h.1 41 (by decide)
                      have e575 : S18.1 54 41 = S12.1 54 41 := hS18.1 41 (by decide)
                      have e576 : S12.1 54 41 = S7.1 54 41 := hS12.1 41 (by decide)
                      have e577 : S7.1 54 41 = S2.1 54 41 := hS7.1 41 (by decide)
                      have e578 : S2.1 54 41 = S.1 54 41 := hS2.1 41 (by decide)
                      have e579 : S51h.1 54 41 = S18.1 54 41 := hS51h.1 41 (by decide)
                      have e580 : S18.1 54 41 = S12.1 54 41 := hS18.1 41 (by decide)
                      have e581 : S12.1 54 41 = S7.1 54 41 := hS12.1 41 (by decide)
                      have e582 : S7.1 54 41 = S2.1 54 41 := hS7.1 41 (by decide)
                      have e583 : S2.1 54 41 = S.1 54 41 := hS2.1 41 (by decide)
                      refine tX11_endTag (by omega) (by omega) (by omega) (by omega) (by omega) (fun r170 S170 hS170 n170_0 n170_1 n170_2 => ?_)
                      refine ⟨by omega, by omega, ?_⟩
                      intro q584
                      have e585 : S170.2 88 (v51_2) = S51h.2 88 (v51_2) := congrFun (hS170.2 88 (by decide)) _
                      intro x180 hx180
                      subst hx180
                      refine ⟨fun h187 => ?_, fun h187 => ?_⟩
                      · unfold wX11_parse_195
                        unfold wX11_parse_297
                        have e586 : S170.1 54 43 = S51h.1 54 43 := hS170.1 43 (by decide)
                        have e587 : S170.1 54 43 = S51h.1 54 43 := hS170.1 43 (by decide)
                        exact ⟨⟨(Ch.wk (Ch.tr hS51h hS170) (by decide) (by decide)), by omega, by omega, by omega, by omega, by omega, (PA.mv3 i51_5 ((hS170).1 51 (by decide)) ((hS170).2 92 (by decide)) ((hS170).2 93 (by decide)) ((hS170).2 94 (by decide)) ((hS170).2 95 (by decide))), (PR.mv i51_6 ((hS170).1 43 (by decide)) ((hS170).1 51 (by decide)) ((hS170).2 86 (by decide)) ((hS170).2 87 (by decide)) ((hS170).2 88 (by decide)) ((hS170).2 90 (by decide)) ((hS170).2 91 (by decide))), (PO.mv i51_7 ((hS170).1 43 (by decide)) ((hS170).2 88 (by decide))), (by
                              rw [show S170.2 88 v51_2 = S51h.2 88 v51_2 from congrFun (hS170.2 88 (by decide)) _]
                              exact (PE_up (e := v51_2) i51_6 i51_7 (by omega) (by omega)).mv (hS170.1 43 (by decide)) (hS170.2 88 (by decide))), (by
                              unfold PB
                              have e588 : S170.1 54 41 = S51h.1 54 41 := hS170.1 41 (by decide)
                              have e589 : S51h.1 54 41 = S18.1 54 41 := hS51h.1 41 (by decide)
                              have e590 : S18.1 54 41 = S12.1 54 41 := hS18.1 41 (by decide)
                              have e591 : S12.1 54 41 = S7.1 54 41 := hS12.1 41 (by decide)
                              have e592 : S7.1 54 41 = S2.1 54 41 := hS7.1 41 (by decide)
                              have e593 : S2.1 54 41 = S.1 54 41 := hS2.1 41 (by decide)
                              have e594 : S170.1 54 56 = S51h.1 54 56 := hS170.1 56 (by decide)
                              have e595 : S170.1 54 51 = S51h.1 54 51 := hS170.1 51 (by decide)
                              first
                              | exact Or.inl (by omega)
                              | exact (Classical.em (-1 ≤ S170.1 54 59)).elim (fun hb => Or.inl hb) (fun hb => Or.inr ⟨by omega, by omega, by omega⟩)), (by
                              unfold P1
                              have e596 : S170.1 54 43 = S51h.1 54 43 := hS170.1 43 (by decide)
                              first | exact Or.inr (Or.inl (by omega)) | exact Or.inl (by omega)), by omega, by omega⟩, show (2 * (3020 - r170) + min 1 (max 0 (-1 - (S170.1 54 59)))).toNat < (2 * (3020 - v51_1) + min 1 (max 0 (-1 - (S51h.1 54 59)))).toNat by omega⟩
                      · unfold wX11_parse_195
                        unfold wX11_parse_297
                        have e597 : S170.1 54 43 = S51h.1 54 43 := hS170.1 43 (by decide)
                        have e598 : S170.1 54 43 = S51h.1 54 43 := hS170.1 43 (by decide)
                        exact ⟨⟨(Ch.wk (Ch.tr hS51h hS170) (by decide) (by decide)), by omega, by omega, by omega, by omega, by omega, (PA.mv3 i51_5 ((hS170).1 51 (by decide)) ((hS170).2 92 (by decide)) ((hS170).2 93 (by decide)) ((hS170).2 94 (by decide)) ((hS170).2 95 (by decide))), (PR.mv i51_6 ((hS170).1 43 (by decide)) ((hS170).1 51 (by decide)) ((hS170).2 86 (by decide)) ((hS170).2 87 (by decide)) ((hS170).2 88 (by decide)) ((hS170).2 90 (by decide)) ((hS170).2 91 (by decide))), (PO.mv i51_7 ((hS170).1 43 (by decide)) ((hS170).2 88 (by decide))), (by
                              rw [show S170.2 88 v51_2 = S51h.2 88 v51_2 from congrFun (hS170.2 88 (by decide)) _]
                              exact (PE_up (e := v51_2) i51_6 i51_7 (by omega) (by omega)).mv (hS170.1 43 (by decide)) (hS170.2 88 (by decide))), (by
                              unfold PB
                              have e599 : S170.1 54 41 = S51h.1 54 41 := hS170.1 41 (by decide)
                              have e600 : S51h.1 54 41 = S18.1 54 41 := hS51h.1 41 (by decide)
                              have e601 : S18.1 54 41 = S12.1 54 41 := hS18.1 41 (by decide)
                              have e602 : S12.1 54 41 = S7.1 54 41 := hS12.1 41 (by decide)
                              have e603 : S7.1 54 41 = S2.1 54 41 := hS7.1 41 (by decide)
                              have e604 : S2.1 54 41 = S.1 54 41 := hS2.1 41 (by decide)
                              have e605 : S170.1 54 56 = S51h.1 54 56 := hS170.1 56 (by decide)
                              have e606 : S170.1 54 51 = S51h.1 54 51 := hS170.1 51 (by decide)
                              first
                              | exact Or.inl (by omega)
                              | exact (Classical.em (-1 ≤ S170.1 54 59)).elim (fun hb => Or.inl hb) (fun hb => Or.inr ⟨by omega, by omega, by omega⟩)), (by
                              unfold P1
                              have e607 : S170.1 54 43 = S51h.1 54 43 := hS170.1 43 (by decide)
                              first | exact Or.inr (Or.inl (by omega)) | exact Or.inl (by omega)), by omega, by omega⟩, show (2 * (3020 - r170) + min 1 (max 0 (-1 - (S170.1 54 59)))).toNat < (2 * (3020 - v51_1) + min 1 (max 0 (-1 - (S51h.1 54 59)))).toNat by omega⟩
                · refine ⟨by omega, ?_⟩
                  refine tX11_keep (by omega) (by omega) (fun r145 S145 hS145 n145_0 => ?_)
                  unfold wX11_parse_297
                  have e608 : S145.1 54 43 = S51h.1 54 43 := hS145.1 43 (by decide)
                  have e609 : S145.1 54 43 = S51h.1 54 43 := hS145.1 43 (by decide)
                  have e610 : S145.1 54 59 = S51h.1 54 59 := hS145.1 59 (by decide)
                  have e611 : S145.1 54 59 = S51h.1 54 59 := hS145.1 59 (by decide)
                  exact ⟨⟨(Ch.wk (Ch.tr hS51h hS145) (by decide) (by decide)), by omega, by omega, by omega, by omega, by omega, (PA.mv3 i51_5 ((hS145).1 51 (by decide)) ((hS145).2 92 (by decide)) ((hS145).2 93 (by decide)) ((hS145).2 94 (by decide)) ((hS145).2 95 (by decide))), (PR.mv i51_6 ((hS145).1 43 (by decide)) ((hS145).1 51 (by decide)) ((hS145).2 86 (by decide)) ((hS145).2 87 (by decide)) ((hS145).2 88 (by decide)) ((hS145).2 90 (by decide)) ((hS145).2 91 (by decide))), (PO.mv i51_7 ((hS145).1 43 (by decide)) ((hS145).2 88 (by decide))), (PE.mv i51_8 ((hS145).1 43 (by decide)) ((hS145).2 88 (by decide))), (by
                        unfold PB
                        have e612 : S145.1 54 59 = S51h.1 54 59 := hS145.1 59 (by decide)
                        have e613 : S145.1 54 41 = S51h.1 54 41 := hS145.1 41 (by decide)
                        have e614 : S51h.1 54 41 = S18.1 54 41 := hS51h.1 41 (by decide)
                        have e615 : S18.1 54 41 = S12.1 54 41 := hS18.1 41 (by decide)
                        have e616 : S12.1 54 41 = S7.1 54 41 := hS12.1 41 (by decide)
                        have e617 : S7.1 54 41 = S2.1 54 41 := hS7.1 41 (by decide)
                        have e618 : S2.1 54 41 = S.1 54 41 := hS2.1 41 (by decide)
                        have e619 : S145.1 54 51 = S51h.1 54 51 := hS145.1 51 (by decide)
                        first
                        | exact Or.inl (by omega)
                        | exact (Classical.em (-1 ≤ S145.1 54 59)).elim (fun hb => Or.inl hb) (fun hb => Or.inr ⟨by omega, by omega, by omega⟩)), (by
                        unfold P1
                        have e620 : S145.1 54 43 = S51h.1 54 43 := hS145.1 43 (by decide)
                        have e621 : S145.1 54 59 = S51h.1 54 59 := hS145.1 59 (by decide)
                        first | exact Or.inr (Or.inl (by omega)) | exact Or.inl (by omega)), by omega, by omega⟩, show (2 * (3020 - ((v51_1 + 1))) + min 1 (max 0 (-1 - (S145.1 54 59)))).toNat < (2 * (3020 - v51_1) + min 1 (max 0 (-1 - (S51h.1 54 59)))).toNat by omega⟩
              · refine ⟨by omega, ?_⟩
                refine ⟨by omega, ?_⟩
                have e622 : S51h.1 54 41 = S18.1 54 41 := hS51h.1 41 (by decide)
                have e623 : S18.1 54 41 = S12.1 54 41 := hS18.1 41 (by decide)
                have e624 : S12.1 54 41 = S7.1 54 41 := hS12.1 41 (by decide)
                have e625 : S7.1 54 41 = S2.1 54 41 := hS7.1 41 (by decide)
                have e626 : S2.1 54 41 = S.1 54 41 := hS2.1 41 (by decide)
                have e627 : S51h.1 54 41 = S18.1 54 41 := hS51h.1 41 (by decide)
                have e628 : S18.1 54 41 = S12.1 54 41 := hS18.1 41 (by decide)
                have e629 : S12.1 54 41 = S7.1 54 41 := hS12.1 41 (by decide)
                have e630 : S7.1 54 41 = S2.1 54 41 := hS7.1 41 (by decide)
                have e631 : S2.1 54 41 = S.1 54 41 := hS2.1 41 (by decide)
                have e632 : S51h.1 54 41 = S18.1 54 41 := hS51h.1 41 (by decide)
                have e633 : S18.1 54 41 = S12.1 54 41 := hS18.1 41 (by decide)
                have e634 : S12.1 54 41 = S7.1 54 41 := hS12.1 41 (by decide)
                have e635 : S7.1 54 41 = S2.1 54 41 := hS7.1 41 (by decide)
                have e636 : S2.1 54 41 = S.1 54 41 := hS2.1 41 (by decide)
                refine tX11_reference (by omega) (by omega) (by omega) (by omega) (by omega) (fun r127 S127 hS127 n127_0 n127_1 n127_2 n127_3 => ?_)
                unfold wX11_parse_297
                have e637 : S127.1 54 43 = S51h.1 54 43 := hS127.1 43 (by decide)
                have e638 : S127.1 54 43 = S51h.1 54 43 := hS127.1 43 (by decide)
                exact ⟨⟨(Ch.wk (Ch.tr hS51h hS127) (by decide) (by decide)), by omega, by omega, by omega, by omega, by omega, (PA.mv3 i51_5 ((hS127).1 51 (by decide)) ((hS127).2 92 (by decide)) ((hS127).2 93 (by decide)) ((hS127).2 94 (by decide)) ((hS127).2 95 (by decide))), (PR.mv i51_6 ((hS127).1 43 (by decide)) ((hS127).1 51 (by decide)) ((hS127).2 86 (by decide)) ((hS127).2 87 (by decide)) ((hS127).2 88 (by decide)) ((hS127).2 90 (by decide)) ((hS127).2 91 (by decide))), (PO.mv i51_7 ((hS127).1 43 (by decide)) ((hS127).2 88 (by decide))), (PE.mv i51_8 ((hS127).1 43 (by decide)) ((hS127).2 88 (by decide))), (by
                      unfold PB
                      have e639 : S127.1 54 41 = S51h.1 54 41 := hS127.1 41 (by decide)
                      have e640 : S51h.1 54 41 = S18.1 54 41 := hS51h.1 41 (by decide)
                      have e641 : S18.1 54 41 = S12.1 54 41 := hS18.1 41 (by decide)
                      have e642 : S12.1 54 41 = S7.1 54 41 := hS12.1 41 (by decide)
                      have e643 : S7.1 54 41 = S2.1 54 41 := hS7.1 41 (by decide)
                      have e644 : S2.1 54 41 = S.1 54 41 := hS2.1 41 (by decide)
                      have e645 : S127.1 54 51 = S51h.1 54 51 := hS127.1 51 (by decide)
                      first
                      | exact Or.inl (by omega)
                      | exact (Classical.em (-1 ≤ S127.1 54 59)).elim (fun hb => Or.inl hb) (fun hb => Or.inr ⟨by omega, by omega, by omega⟩)), (by
                      unfold P1
                      have e646 : S127.1 54 43 = S51h.1 54 43 := hS127.1 43 (by decide)
                      first | exact Or.inr (Or.inl (by omega)) | exact Or.inl (by omega)), by omega, by omega⟩, show (2 * (3020 - r127) + min 1 (max 0 (-1 - (S127.1 54 59)))).toNat < (2 * (3020 - v51_1) + min 1 (max 0 (-1 - (S51h.1 54 59)))).toNat by omega⟩
            · refine ⟨by omega, ?_⟩
              refine tX11_fail (by omega) (fun r111 S111 hS111 n111_0 => ?_)
              unfold wX11_parse_297
              have e647 : S111.1 54 43 = S51h.1 54 43 := hS111.1 43 (by decide)
              have e648 : S111.1 54 43 = S51h.1 54 43 := hS111.1 43 (by decide)
              exact ⟨⟨(Ch.wk (Ch.tr hS51h hS111) (by decide) (by decide)), by omega, by omega, by omega, by omega, by omega, (PA.mv3 i51_5 ((hS111).1 51 (by decide)) ((hS111).2 92 (by decide)) ((hS111).2 93 (by decide)) ((hS111).2 94 (by decide)) ((hS111).2 95 (by decide))), (PR.mv i51_6 ((hS111).1 43 (by decide)) ((hS111).1 51 (by decide)) ((hS111).2 86 (by decide)) ((hS111).2 87 (by decide)) ((hS111).2 88 (by decide)) ((hS111).2 90 (by decide)) ((hS111).2 91 (by decide))), (PO.mv i51_7 ((hS111).1 43 (by decide)) ((hS111).2 88 (by decide))), (PE.mv i51_8 ((hS111).1 43 (by decide)) ((hS111).2 88 (by decide))), (by
                    unfold PB
                    have e649 : S111.1 54 41 = S51h.1 54 41 := hS111.1 41 (by decide)
                    have e650 : S51h.1 54 41 = S18.1 54 41 := hS51h.1 41 (by decide)
                    have e651 : S18.1 54 41 = S12.1 54 41 := hS18.1 41 (by decide)
                    have e652 : S12.1 54 41 = S7.1 54 41 := hS12.1 41 (by decide)
                    have e653 : S7.1 54 41 = S2.1 54 41 := hS7.1 41 (by decide)
                    have e654 : S2.1 54 41 = S.1 54 41 := hS2.1 41 (by decide)
                    have e655 : S111.1 54 56 = S51h.1 54 56 := hS111.1 56 (by decide)
                    have e656 : S111.1 54 51 = S51h.1 54 51 := hS111.1 51 (by decide)
                    first
                    | exact Or.inl (by omega)
                    | exact (Classical.em (-1 ≤ S111.1 54 59)).elim (fun hb => Or.inl hb) (fun hb => Or.inr ⟨by omega, by omega, by omega⟩)), (by
                    unfold P1
                    have e657 : S111.1 54 43 = S51h.1 54 43 := hS111.1 43 (by decide)
                    first | exact Or.inr (Or.inl (by omega)) | exact Or.inl (by omega)), by omega, by omega⟩, show (2 * (3020 - v51_1) + min 1 (max 0 (-1 - (S111.1 54 59)))).toNat < (2 * (3020 - v51_1) + min 1 (max 0 (-1 - (S51h.1 54 59)))).toNat by omega⟩
          · unfold wX11_parse_97
            unfold wX11_parse_102
            refine ⟨by omega, ?_⟩
            refine ⟨fun h106 => ?_, fun h106 => ?_⟩
            · refine ⟨fun h121 => ?_, fun h121 => ?_⟩
              · refine ⟨fun h138 => ?_, fun h138 => ?_⟩
                · refine ⟨by omega, ?_⟩
                  refine ⟨fun h158 => ?_, fun h158 => ?_⟩
                  · unfold wX11_parse_200
                    refine ⟨by omega, ?_⟩
                    refine ⟨fun h204 => ?_, fun h204 => ?_⟩
                    · unfold wX11_parse_225
                      refine ⟨by omega, ?_⟩
                      refine ⟨fun h227 => ?_, fun h227 => ?_⟩
                      · intro S240 hS240e
                        have hS240 : Ch [60] [] S51h S240 := Ch_I hS240e
                        have hS240v : S240.1 54 60 = 0 := pI_at hS240e
                        refine ⟨by omega, ?_⟩
                        refine ⟨by omega, ?_⟩
                        refine ⟨by omega, ?_⟩
                        have e658 : S240.1 54 41 = S51h.1 54 41 := hS240.1 41 (by decide)
                        have e659 : S51h.1 54 41 = S18.1 54 41 := hS51h.1 41 (by decide)
                        have e660 : S18.1 54 41 = S12.1 54 41 := hS18.1 41 (by decide)
                        have e661 : S12.1 54 41 = S7.1 54 41 := hS12.1 41 (by decide)
                        have e662 : S7.1 54 41 = S2.1 54 41 := hS7.1 41 (by decide)
                        have e663 : S2.1 54 41 = S.1 54 41 := hS2.1 41 (by decide)
                        have e664 : S240.1 54 41 = S51h.1 54 41 := hS240.1 41 (by decide)
                        have e665 : S51h.1 54 41 = S18.1 54 41 := hS51h.1 41 (by decide)
                        have e666 : S18.1 54 41 = S12.1 54 41 := hS18.1 41 (by decide)
                        have e667 : S12.1 54 41 = S7.1 54 41 := hS12.1 41 (by decide)
                        have e668 : S7.1 54 41 = S2.1 54 41 := hS7.1 41 (by decide)
                        have e669 : S2.1 54 41 = S.1 54 41 := hS2.1 41 (by decide)
                        have e670 : S240.1 54 56 = S51h.1 54 56 := hS240.1 56 (by decide)
                        have e671 : S240.1 54 51 = S51h.1 54 51 := hS240.1 51 (by decide)
                        have e672 : S240.1 54 43 = S51h.1 54 43 := hS240.1 43 (by decide)
                        have e673 : S240.1 54 43 = S51h.1 54 43 := hS240.1 43 (by decide)
                        refine tX11_beginTag (by omega) (by omega) (by omega) (by omega) (by omega) (by omega) (PA.mv2 i51_5 ((hS240).1 51 (by decide)) ((hS240).1 56 (by decide)) ((hS240).2 92 (by decide)) ((hS240).2 93 (by decide)) ((hS240).2 94 (by decide)) ((hS240).2 95 (by decide))) (PR.mv i51_6 ((hS240).1 43 (by decide)) ((hS240).1 51 (by decide)) ((hS240).2 86 (by decide)) ((hS240).2 87 (by decide)) ((hS240).2 88 (by decide)) ((hS240).2 90 (by decide)) ((hS240).2 91 (by decide))) (PO.mv i51_7 ((hS240).1 43 (by decide)) ((hS240).2 88 (by decide))) (PE.mv i51_8 ((hS240).1 43 (by decide)) ((hS240).2 88 (by decide))) (by omega) (fun r247 S247 hS247 n247_0 n247_1 n247_2 n247_3 n247_4 n247_5 n247_6 n247_7 => ?_)
                        have hbr : (S247.1 54 43 = S240.1 54 43 + 1 ∧ S247.2 88 (S240.1 54 43) = v51_2) ∨ S247.1 54 43 = S240.1 54 43 := by
                          rcases n247_5 with h | h
                          · exact Or.inl h
                          · exact Or.inr h.1
                        intro q674
                        refine ⟨fun h255 => ?_, fun h255 => ?_⟩
                        · unfold wX11_parse_265
                          intro q675
                          refine ⟨fun h270 => ?_, fun h270 => ?_⟩
                          · unfold wX11_parse_283
                            refine ⟨by omega, ?_⟩
                            refine ⟨fun h287 => ?_, fun h287 => ?_⟩
                            · unfold wX11_parse_295
                              unfold wX11_parse_297
                              exact ⟨⟨(Ch.wk (Ch.tr (Ch.tr hS51h hS240) hS247) (by decide) (by decide)), by omega, by omega, by omega, by omega, by omega, n247_2, n247_3, n247_4, (PE_new (PE.mv i51_8 (hS240.1 43 (by decide)) (hS240.2 88 (by decide))) hbr n247_6), n247_7, (n247_5.elim (fun h => Or.inl (by omega)) (fun h => Or.inr (Or.inl (by omega)))), by omega, by omega⟩, show (2 * (3020 - r247) + min 1 (max 0 (-1 - (S247.1 54 59)))).toNat < (2 * (3020 - v51_1) + min 1 (max 0 (-1 - (S51h.1 54 59)))).toNat by omega⟩
                            · unfold wX11_parse_295
                              unfold wX11_parse_297
                              exact ⟨⟨(Ch.wk (Ch.tr (Ch.tr hS51h hS240) hS247) (by decide) (by decide)), by omega, by omega, by omega, by omega, by omega, n247_2, n247_3, n247_4, (PE_new (PE.mv i51_8 (hS240.1 43 (by decide)) (hS240.2 88 (by decide))) hbr n247_6), n247_7, (n247_5.elim (fun h => Or.inl (by omega)) (fun h => Or.inr (Or.inl (by omega)))), by omega, by omega⟩, show (2 * (3020 - r247) + min 1 (max 0 (-1 - (S247.1 54 59)))).toNat < (2 * (3020 - v51_1) + min 1 (max 0 (-1 - (S51h.1 54 59)))).toNat by omega⟩
                          · intro q676
                            unfold wX11_parse_283
                            refine ⟨by omega, ?_⟩
                            refine ⟨fun h287 => ?_, fun h287 => ?_⟩
                            · unfold wX11_parse_295
                              unfold wX11_parse_297
                              exact ⟨⟨(Ch.wk (Ch.tr (Ch.tr hS51h hS240) hS247) (by decide) (by decide)), by omega, by omega, by omega, by omega, by omega, n247_2, n247_3, n247_4, (PE_last (by omega)), n247_7, (n247_5.elim (fun h => Or.inl (by omega)) (fun h => Or.inr (Or.inl (by omega)))), by omega, by omega⟩, show (2 * (3020 - r247) + min 1 (max 0 (-1 - (S247.1 54 59)))).toNat < (2 * (3020 - v51_1) + min 1 (max 0 (-1 - (S51h.1 54 59)))).toNat by omega⟩
                            · unfold wX11_parse_295
                              unfold wX11_parse_297
                              exact ⟨⟨(Ch.wk (Ch.tr (Ch.tr hS51h hS240) hS247) (by decide) (by decide)), by omega, by omega, by omega, by omega, by omega, n247_2, n247_3, n247_4, (PE_last (by omega)), n247_7, (n247_5.elim (fun h => Or.inl (by omega)) (fun h => Or.inr (Or.inl (by omega)))), by omega, by omega⟩, show (2 * (3020 - r247) + min 1 (max 0 (-1 - (S247.1 54 59)))).toNat < (2 * (3020 - v51_1) + min 1 (max 0 (-1 - (S51h.1 54 59)))).toNat by omega⟩
                        · unfold wX11_parse_265
                          intro q677
                          refine ⟨fun h270 => ?_, fun h270 => ?_⟩
                          · unfold wX11_parse_283
                            refine ⟨by omega, ?_⟩
                            refine ⟨fun h287 => ?_, fun h287 => ?_⟩
                            · unfold wX11_parse_295
                              unfold wX11_parse_297
                              exact ⟨⟨(Ch.wk (Ch.tr (Ch.tr hS51h hS240) hS247) (by decide) (by decide)), by omega, by omega, by omega, by omega, by omega, n247_2, n247_3, n247_4, (PE_new (PE.mv i51_8 (hS240.1 43 (by decide)) (hS240.2 88 (by decide))) hbr n247_6), n247_7, (n247_5.elim (fun h => Or.inl (by omega)) (fun h => Or.inr (Or.inl (by omega)))), by omega, by omega⟩, show (2 * (3020 - r247) + min 1 (max 0 (-1 - (S247.1 54 59)))).toNat < (2 * (3020 - v51_1) + min 1 (max 0 (-1 - (S51h.1 54 59)))).toNat by omega⟩
                            · unfold wX11_parse_295
                              unfold wX11_parse_297
                              exact ⟨⟨(Ch.wk (Ch.tr (Ch.tr hS51h hS240) hS247) (by decide) (by decide)), by omega, by omega, by omega, by omega, by omega, n247_2, n247_3, n247_4, (PE_new (PE.mv i51_8 (hS240.1 43 (by decide)) (hS240.2 88 (by decide))) hbr n247_6), n247_7, (n247_5.elim (fun h => Or.inl (by omega)) (fun h => Or.inr (Or.inl (by omega)))), by omega, by omega⟩, show (2 * (3020 - r247) + min 1 (max 0 (-1 - (S247.1 54 59)))).toNat < (2 * (3020 - v51_1) + min 1 (max 0 (-1 - (S51h.1 54 59)))).toNat by omega⟩
                          · intro q678
                            unfold wX11_parse_283
                            refine ⟨by omega, ?_⟩
                            refine ⟨fun h287 => ?_, fun h287 => ?_⟩
                            · unfold wX11_parse_295
                              unfold wX11_parse_297
                              exact ⟨⟨(Ch.wk (Ch.tr (Ch.tr hS51h hS240) hS247) (by decide) (by decide)), by omega, by omega, by omega, by omega, by omega, n247_2, n247_3, n247_4, (PE_last (by omega)), n247_7, (n247_5.elim (fun h => Or.inl (by omega)) (fun h => Or.inr (Or.inl (by omega)))), by omega, by omega⟩, show (2 * (3020 - r247) + min 1 (max 0 (-1 - (S247.1 54 59)))).toNat < (2 * (3020 - v51_1) + min 1 (max 0 (-1 - (S51h.1 54 59)))).toNat by omega⟩
                            · unfold wX11_parse_295
                              unfold wX11_parse_297
                              exact ⟨⟨(Ch.wk (Ch.tr (Ch.tr hS51h hS240) hS247) (by decide) (by decide)), by omega, by omega, by omega, by omega, by omega, n247_2, n247_3, n247_4, (PE_last (by omega)), n247_7, (n247_5.elim (fun h => Or.inl (by omega)) (fun h => Or.inr (Or.inl (by omega)))), by omega, by omega⟩, show (2 * (3020 - r247) + min 1 (max 0 (-1 - (S247.1 54 59)))).toNat < (2 * (3020 - v51_1) + min 1 (max 0 (-1 - (S51h.1 54 59)))).toNat by omega⟩
                      · refine ⟨by omega, ?_⟩
                        refine tX11_fail (by omega) (fun r232 S232 hS232 n232_0 => ?_)
                        unfold wX11_parse_297
                        have e679 : S232.1 54 43 = S51h.1 54 43 := hS232.1 43 (by decide)
                        have e680 : S232.1 54 43 = S51h.1 54 43 := hS232.1 43 (by decide)
                        exact ⟨⟨(Ch.wk (Ch.tr hS51h hS232) (by decide) (by decide)), by omega, by omega, by omega, by omega, by omega, (PA.mv3 i51_5 ((hS232).1 51 (by decide)) ((hS232).2 92 (by decide)) ((hS232).2 93 (by decide)) ((hS232).2 94 (by decide)) ((hS232).2 95 (by decide))), (PR.mv i51_6 ((hS232).1 43 (by decide)) ((hS232).1 51 (by decide)) ((hS232).2 86 (by decide)) ((hS232).2 87 (by decide)) ((hS232).2 88 (by decide)) ((hS232).2 90 (by decide)) ((hS232).2 91 (by decide))), (PO.mv i51_7 ((hS232).1 43 (by decide)) ((hS232).2 88 (by decide))), (PE.mv i51_8 ((hS232).1 43 (by decide)) ((hS232).2 88 (by decide))), (by
                              unfold PB
                              have e681 : S232.1 54 41 = S51h.1 54 41 := hS232.1 41 (by decide)
                              have e682 : S51h.1 54 41 = S18.1 54 41 := hS51h.1 41 (by decide)
                              have e683 : S18.1 54 41 = S12.1 54 41 := hS18.1 41 (by decide)
                              have e684 : S12.1 54 41 = S7.1 54 41 := hS12.1 41 (by decide)
                              have e685 : S7.1 54 41 = S2.1 54 41 := hS7.1 41 (by decide)
                              have e686 : S2.1 54 41 = S.1 54 41 := hS2.1 41 (by decide)
                              have e687 : S232.1 54 56 = S51h.1 54 56 := hS232.1 56 (by decide)
                              have e688 : S232.1 54 51 = S51h.1 54 51 := hS232.1 51 (by decide)
                              first
                              | exact Or.inl (by omega)
                              | exact (Classical.em (-1 ≤ S232.1 54 59)).elim (fun hb => Or.inl hb) (fun hb => Or.inr ⟨by omega, by omega, by omega⟩)), (by
                              unfold P1
                              have e689 : S232.1 54 43 = S51h.1 54 43 := hS232.1 43 (by decide)
                              first | exact Or.inr (Or.inl (by omega)) | exact Or.inl (by omega)), by omega, by omega⟩, show (2 * (3020 - v51_1) + min 1 (max 0 (-1 - (S232.1 54 59)))).toNat < (2 * (3020 - v51_1) + min 1 (max 0 (-1 - (S51h.1 54 59)))).toNat by omega⟩
                    · refine ⟨by omega, ?_⟩
                      refine ⟨fun h210 => ?_, fun h210 => ?_⟩
                      · unfold wX11_parse_225
                        refine ⟨by omega, ?_⟩
                        refine ⟨fun h227 => ?_, fun h227 => ?_⟩
                        · intro S240 hS240e
                          have hS240 : Ch [60] [] S51h S240 := Ch_I hS240e
                          have hS240v : S240.1 54 60 = 0 := pI_at hS240e
                          refine ⟨by omega, ?_⟩
                          refine ⟨by omega, ?_⟩
                          refine ⟨by omega, ?_⟩
                          have e690 : S240.1 54 41 = S51h.1 54 41 := hS240.1 41 (by decide)
                          have e691 : S51h.1 54 41 = S18.1 54 41 := hS51h.1 41 (by decide)
                          have e692 : S18.1 54 41 = S12.1 54 41 := hS18.1 41 (by decide)
                          have e693 : S12.1 54 41 = S7.1 54 41 := hS12.1 41 (by decide)
                          have e694 : S7.1 54 41 = S2.1 54 41 := hS7.1 41 (by decide)
                          have e695 : S2.1 54 41 = S.1 54 41 := hS2.1 41 (by decide)
                          have e696 : S240.1 54 41 = S51h.1 54 41 := hS240.1 41 (by decide)
                          have e697 : S51h.1 54 41 = S18.1 54 41 := hS51h.1 41 (by decide)
                          have e698 : S18.1 54 41 = S12.1 54 41 := hS18.1 41 (by decide)
                          have e699 : S12.1 54 41 = S7.1 54 41 := hS12.1 41 (by decide)
                          have e700 : S7.1 54 41 = S2.1 54 41 := hS7.1 41 (by decide)
                          have e701 : S2.1 54 41 = S.1 54 41 := hS2.1 41 (by decide)
                          have e702 : S240.1 54 56 = S51h.1 54 56 := hS240.1 56 (by decide)
                          have e703 : S240.1 54 51 = S51h.1 54 51 := hS240.1 51 (by decide)
                          have e704 : S240.1 54 43 = S51h.1 54 43 := hS240.1 43 (by decide)
                          have e705 : S240.1 54 43 = S51h.1 54 43 := hS240.1 43 (by decide)
                          refine tX11_beginTag (by omega) (by omega) (by omega) (by omega) (by omega) (by omega) (PA.mv2 i51_5 ((hS240).1 51 (by decide)) ((hS240).1 56 (by decide)) ((hS240).2 92 (by decide)) ((hS240).2 93 (by decide)) ((hS240).2 94 (by decide)) ((hS240).2 95 (by decide))) (PR.mv i51_6 ((hS240).1 43 (by decide)) ((hS240).1 51 (by decide)) ((hS240).2 86 (by decide)) ((hS240).2 87 (by decide)) ((hS240).2 88 (by decide)) ((hS240).2 90 (by decide)) ((hS240).2 91 (by decide))) (PO.mv i51_7 ((hS240).1 43 (by decide)) ((hS240).2 88 (by decide))) (PE.mv i51_8 ((hS240).1 43 (by decide)) ((hS240).2 88 (by decide))) (by omega) (fun r247 S247 hS247 n247_0 n247_1 n247_2 n247_3 n247_4 n247_5 n247_6 n247_7 => ?_)
                          have hbr : (S247.1 54 43 = S240.1 54 43 + 1 ∧ S247.2 88 (S240.1 54 43) = v51_2) ∨ S247.1 54 43 = S240.1 54 43 := by
                            rcases n247_5 with h | h
                            · exact Or.inl h
                            · exact Or.inr h.1
                          intro q706
                          refine ⟨fun h255 => ?_, fun h255 => ?_⟩
                          · unfold wX11_parse_265
                            intro q707
                            refine ⟨fun h270 => ?_, fun h270 => ?_⟩
                            · unfold wX11_parse_283
                              refine ⟨by omega, ?_⟩
                              refine ⟨fun h287 => ?_, fun h287 => ?_⟩
                              · unfold wX11_parse_295
                                unfold wX11_parse_297
                                exact ⟨⟨(Ch.wk (Ch.tr (Ch.tr hS51h hS240) hS247) (by decide) (by decide)), by omega, by omega, by omega, by omega, by omega, n247_2, n247_3, n247_4, (PE_new (PE.mv i51_8 (hS240.1 43 (by decide)) (hS240.2 88 (by decide))) hbr n247_6), n247_7, (n247_5.elim (fun h => Or.inl (by omega)) (fun h => Or.inr (Or.inl (by omega)))), by omega, by omega⟩, show (2 * (3020 - r247) + min 1 (max 0 (-1 - (S247.1 54 59)))).toNat < (2 * (3020 - v51_1) + min 1 (max 0 (-1 - (S51h.1 54 59)))).toNat by omega⟩
                              · unfold wX11_parse_295
                                unfold wX11_parse_297
                                exact ⟨⟨(Ch.wk (Ch.tr (Ch.tr hS51h hS240) hS247) (by decide) (by decide)), by omega, by omega, by omega, by omega, by omega, n247_2, n247_3, n247_4, (PE_new (PE.mv i51_8 (hS240.1 43 (by decide)) (hS240.2 88 (by decide))) hbr n247_6), n247_7, (n247_5.elim (fun h => Or.inl (by omega)) (fun h => Or.inr (Or.inl (by omega)))), by omega, by omega⟩, show (2 * (3020 - r247) + min 1 (max 0 (-1 - (S247.1 54 59)))).toNat < (2 * (3020 - v51_1) + min 1 (max 0 (-1 - (S51h.1 54 59)))).toNat by omega⟩
                            · intro q708
                              unfold wX11_parse_283
                              refine ⟨by omega, ?_⟩
                              refine ⟨fun h287 => ?_, fun h287 => ?_⟩
                              · unfold wX11_parse_295
                                unfold wX11_parse_297
                                exact ⟨⟨(Ch.wk (Ch.tr (Ch.tr hS51h hS240) hS247) (by decide) (by decide)), by omega, by omega, by omega, by omega, by omega, n247_2, n247_3, n247_4, (PE_last (by omega)), n247_7, (n247_5.elim (fun h => Or.inl (by omega)) (fun h => Or.inr (Or.inl (by omega)))), by omega, by omega⟩, show (2 * (3020 - r247) + min 1 (max 0 (-1 - (S247.1 54 59)))).toNat < (2 * (3020 - v51_1) + min 1 (max 0 (-1 - (S51h.1 54 59)))).toNat by omega⟩
                              · unfold wX11_parse_295
                                unfold wX11_parse_297
                                exact ⟨⟨(Ch.wk (Ch.tr (Ch.tr hS51h hS240) hS247) (by decide) (by decide)), by omega, by omega, by omega, by omega, by omega, n247_2, n247_3, n247_4, (PE_last (by omega)), n247_7, (n247_5.elim (fun h => Or.inl (by omega)) (fun h => Or.inr (Or.inl (by omega)))), by omega, by omega⟩, show (2 * (3020 - r247) + min 1 (max 0 (-1 - (S247.1 54 59)))).toNat < (2 * (3020 - v51_1) + min 1 (max 0 (-1 - (S51h.1 54 59)))).toNat by omega⟩
                          · unfold wX11_parse_265
                            intro q709
                            refine ⟨fun h270 => ?_, fun h270 => ?_⟩
                            · unfold wX11_parse_283
                              refine ⟨by omega, ?_⟩
                              refine ⟨fun h287 => ?_, fun h287 => ?_⟩
                              · unfold wX11_parse_295
                                unfold wX11_parse_297
                                exact ⟨⟨(Ch.wk (Ch.tr (Ch.tr hS51h hS240) hS247) (by decide) (by decide)), by omega, by omega, by omega, by omega, by omega, n247_2, n247_3, n247_4, (PE_new (PE.mv i51_8 (hS240.1 43 (by decide)) (hS240.2 88 (by decide))) hbr n247_6), n247_7, (n247_5.elim (fun h => Or.inl (by omega)) (fun h => Or.inr (Or.inl (by omega)))), by omega, by omega⟩, show (2 * (3020 - r247) + min 1 (max 0 (-1 - (S247.1 54 59)))).toNat < (2 * (3020 - v51_1) + min 1 (max 0 (-1 - (S51h.1 54 59)))).toNat by omega⟩
                              · unfold wX11_parse_295
                                unfold wX11_parse_297
                                exact ⟨⟨(Ch.wk (Ch.tr (Ch.tr hS51h hS240) hS247) (by decide) (by decide)), by omega, by omega, by omega, by omega, by omega, n247_2, n247_3, n247_4, (PE_new (PE.mv i51_8 (hS240.1 43 (by decide)) (hS240.2 88 (by decide))) hbr n247_6), n247_7, (n247_5.elim (fun h => Or.inl (by omega)) (fun h => Or.inr (Or.inl (by omega)))), by omega, by omega⟩, show (2 * (3020 - r247) + min 1 (max 0 (-1 - (S247.1 54 59)))).toNat < (2 * (3020 - v51_1) + min 1 (max 0 (-1 - (S51h.1 54 59)))).toNat by omega⟩
                            · intro q710
                              unfold wX11_parse_283
                              refine ⟨by omega, ?_⟩
                              refine ⟨fun h287 => ?_, fun h287 => ?_⟩
                              · unfold wX11_parse_295
                                unfold wX11_parse_297
                                exact ⟨⟨(Ch.wk (Ch.tr (Ch.tr hS51h hS240) hS247) (by decide) (by decide)), by omega, by omega, by omega, by omega, by omega, n247_2, n247_3, n247_4, (PE_last (by omega)), n247_7, (n247_5.elim (fun h => Or.inl (by omega)) (fun h => Or.inr (Or.inl (by omega)))), by omega, by omega⟩, show (2 * (3020 - r247) + min 1 (max 0 (-1 - (S247.1 54 59)))).toNat < (2 * (3020 - v51_1) + min 1 (max 0 (-1 - (S51h.1 54 59)))).toNat by omega⟩
                              · unfold wX11_parse_295
                                unfold wX11_parse_297
                                exact ⟨⟨(Ch.wk (Ch.tr (Ch.tr hS51h hS240) hS247) (by decide) (by decide)), by omega, by omega, by omega, by omega, by omega, n247_2, n247_3, n247_4, (PE_last (by omega)), n247_7, (n247_5.elim (fun h => Or.inl (by omega)) (fun h => Or.inr (Or.inl (by omega)))), by omega, by omega⟩, show (2 * (3020 - r247) + min 1 (max 0 (-1 - (S247.1 54 59)))).toNat < (2 * (3020 - v51_1) + min 1 (max 0 (-1 - (S51h.1 54 59)))).toNat by omega⟩
                        · refine ⟨by omega, ?_⟩
                          refine tX11_fail (by omega) (fun r232 S232 hS232 n232_0 => ?_)
                          unfold wX11_parse_297
                          have e711 : S232.1 54 43 = S51h.1 54 43 := hS232.1 43 (by decide)
                          have e712 : S232.1 54 43 = S51h.1 54 43 := hS232.1 43 (by decide)
                          exact ⟨⟨(Ch.wk (Ch.tr hS51h hS232) (by decide) (by decide)), by omega, by omega, by omega, by omega, by omega, (PA.mv3 i51_5 ((hS232).1 51 (by decide)) ((hS232).2 92 (by decide)) ((hS232).2 93 (by decide)) ((hS232).2 94 (by decide)) ((hS232).2 95 (by decide))), (PR.mv i51_6 ((hS232).1 43 (by decide)) ((hS232).1 51 (by decide)) ((hS232).2 86 (by decide)) ((hS232).2 87 (by decide)) ((hS232).2 88 (by decide)) ((hS232).2 90 (by decide)) ((hS232).2 91 (by decide))), (PO.mv i51_7 ((hS232).1 43 (by decide)) ((hS232).2 88 (by decide))), (PE.mv i51_8 ((hS232).1 43 (by decide)) ((hS232).2 88 (by decide))), (by
                                unfold PB
                                have e713 : S232.1 54 41 = S51h.1 54 41 := hS232.1 41 (by decide)
                                have e714 : S51h.1 54 41 = S18.1 54 41 := hS51h.1 41 (by decide)
                                have e715 : S18.1 54 41 = S12.1 54 41 := hS18.1 41 (by decide)
                                have e716 : S12.1 54 41 = S7.1 54 41 := hS12.1 41 (by decide)
                                have e717 : S7.1 54 41 = S2.1 54 41 := hS7.1 41 (by decide)
                                have e718 : S2.1 54 41 = S.1 54 41 := hS2.1 41 (by decide)
                                have e719 : S232.1 54 56 = S51h.1 54 56 := hS232.1 56 (by decide)
                                have e720 : S232.1 54 51 = S51h.1 54 51 := hS232.1 51 (by decide)
                                first
                                | exact Or.inl (by omega)
                                | exact (Classical.em (-1 ≤ S232.1 54 59)).elim (fun hb => Or.inl hb) (fun hb => Or.inr ⟨by omega, by omega, by omega⟩)), (by
                                unfold P1
                                have e721 : S232.1 54 43 = S51h.1 54 43 := hS232.1 43 (by decide)
                                first | exact Or.inr (Or.inl (by omega)) | exact Or.inl (by omega)), by omega, by omega⟩, show (2 * (3020 - v51_1) + min 1 (max 0 (-1 - (S232.1 54 59)))).toNat < (2 * (3020 - v51_1) + min 1 (max 0 (-1 - (S51h.1 54 59)))).toNat by omega⟩
                      · refine ⟨by omega, ?_⟩
                        refine ⟨by omega, ?_⟩
                        have e722 : S51h.1 54 41 = S18.1 54 41 := hS51h.1 41 (by decide)
                        have e723 : S18.1 54 41 = S12.1 54 41 := hS18.1 41 (by decide)
                        have e724 : S12.1 54 41 = S7.1 54 41 := hS12.1 41 (by decide)
                        have e725 : S7.1 54 41 = S2.1 54 41 := hS7.1 41 (by decide)
                        have e726 : S2.1 54 41 = S.1 54 41 := hS2.1 41 (by decide)
                        have e727 : S51h.1 54 41 = S18.1 54 41 := hS51h.1 41 (by decide)
                        have e728 : S18.1 54 41 = S12.1 54 41 := hS18.1 41 (by decide)
                        have e729 : S12.1 54 41 = S7.1 54 41 := hS12.1 41 (by decide)
                        have e730 : S7.1 54 41 = S2.1 54 41 := hS7.1 41 (by decide)
                        have e731 : S2.1 54 41 = S.1 54 41 := hS2.1 41 (by decide)
                        have e732 : S51h.1 54 41 = S18.1 54 41 := hS51h.1 41 (by decide)
                        have e733 : S18.1 54 41 = S12.1 54 41 := hS18.1 41 (by decide)
                        have e734 : S12.1 54 41 = S7.1 54 41 := hS12.1 41 (by decide)
                        have e735 : S7.1 54 41 = S2.1 54 41 := hS7.1 41 (by decide)
                        have e736 : S2.1 54 41 = S.1 54 41 := hS2.1 41 (by decide)
                        refine tX11_section (by omega) (by omega) (by omega) (by omega) (by omega) (by omega) (fun r218 S218 hS218 n218_0 n218_1 n218_2 n218_3 => ?_)
                        unfold wX11_parse_297
                        have e737 : S218.1 54 43 = S51h.1 54 43 := hS218.1 43 (by decide)
                        have e738 : S218.1 54 43 = S51h.1 54 43 := hS218.1 43 (by decide)
                        exact ⟨⟨(Ch.wk (Ch.tr hS51h hS218) (by decide) (by decide)), by omega, by omega, by omega, by omega, by omega, (PA.mv3 i51_5 ((hS218).1 51 (by decide)) ((hS218).2 92 (by decide)) ((hS218).2 93 (by decide)) ((hS218).2 94 (by decide)) ((hS218).2 95 (by decide))), (PR.mv i51_6 ((hS218).1 43 (by decide)) ((hS218).1 51 (by decide)) ((hS218).2 86 (by decide)) ((hS218).2 87 (by decide)) ((hS218).2 88 (by decide)) ((hS218).2 90 (by decide)) ((hS218).2 91 (by decide))), (PO.mv i51_7 ((hS218).1 43 (by decide)) ((hS218).2 88 (by decide))), (PE.mv i51_8 ((hS218).1 43 (by decide)) ((hS218).2 88 (by decide))), (by
                              unfold PB
                              have e739 : S218.1 54 41 = S51h.1 54 41 := hS218.1 41 (by decide)
                              have e740 : S51h.1 54 41 = S18.1 54 41 := hS51h.1 41 (by decide)
                              have e741 : S18.1 54 41 = S12.1 54 41 := hS18.1 41 (by decide)
                              have e742 : S12.1 54 41 = S7.1 54 41 := hS12.1 41 (by decide)
                              have e743 : S7.1 54 41 = S2.1 54 41 := hS7.1 41 (by decide)
                              have e744 : S2.1 54 41 = S.1 54 41 := hS2.1 41 (by decide)
                              have e745 : S218.1 54 51 = S51h.1 54 51 := hS218.1 51 (by decide)
                              first
                              | exact Or.inl (by omega)
                              | exact (Classical.em (-1 ≤ S218.1 54 59)).elim (fun hb => Or.inl hb) (fun hb => Or.inr ⟨by omega, by omega, by omega⟩)), (by
                              unfold P1
                              have e746 : S218.1 54 43 = S51h.1 54 43 := hS218.1 43 (by decide)
                              first | exact Or.inr (Or.inl (by omega)) | exact Or.inl (by omega)), by omega, by omega⟩, show (2 * (3020 - r218) + min 1 (max 0 (-1 - (S218.1 54 59)))).toNat < (2 * (3020 - v51_1) + min 1 (max 0 (-1 - (S51h.1 54 59)))).toNat by omega⟩
                  · refine ⟨by omega, ?_⟩
                    refine ⟨fun h164 => ?_, fun h164 => ?_⟩
                    · unfold wX11_parse_200
                      refine ⟨by omega, ?_⟩
                      refine ⟨fun h204 => ?_, fun h204 => ?_⟩
                      · unfold wX11_parse_225
                        refine ⟨by omega, ?_⟩
                        refine ⟨fun h227 => ?_, fun h227 => ?_⟩
                        · intro S240 hS240e
                          have hS240 : Ch [60] [] S51h S240 := Ch_I hS240e
                          have hS240v : S240.1 54 60 = 0 := pI_at hS240e
                          refine ⟨by omega, ?_⟩
                          refine ⟨by omega, ?_⟩
                          refine ⟨by omega, ?_⟩
                          have e747 : S240.1 54 41 = S51h.1 54 41 := hS240.1 41 (by decide)
                          have e748 : S51h.1 54 41 = S18.1 54 41 := hS51h.1 41 (by decide)
                          have e749 : S18.1 54 41 = S12.1 54 41 := hS18.1 41 (by decide)
                          have e750 : S12.1 54 41 = S7.1 54 41 := hS12.1 41 (by decide)
                          have e751 : S7.1 54 41 = S2.1 54 41 := hS7.1 41 (by decide)
                          have e752 : S2.1 54 41 = S.1 54 41 := hS2.1 41 (by decide)
                          have e753 : S240.1 54 41 = S51h.1 54 41 := hS240.1 41 (by decide)
                          have e754 : S51h.1 54 41 = S18.1 54 41 := hS51h.1 41 (by decide)
                          have e755 : S18.1 54 41 = S12.1 54 41 := hS18.1 41 (by decide)
                          have e756 : S12.1 54 41 = S7.1 54 41 := hS12.1 41 (by decide)
                          have e757 : S7.1 54 41 = S2.1 54 41 := hS7.1 41 (by decide)
                          have e758 : S2.1 54 41 = S.1 54 41 := hS2.1 41 (by decide)
                          have e759 : S240.1 54 56 = S51h.1 54 56 := hS240.1 56 (by decide)
                          have e760 : S240.1 54 51 = S51h.1 54 51 := hS240.1 51 (by decide)
                          have e761 : S240.1 54 43 = S51h.1 54 43 := hS240.1 43 (by decide)
                          have e762 : S240.1 54 43 = S51h.1 54 43 := hS240.1 43 (by decide)
                          refine tX11_beginTag (by omega) (by omega) (by omega) (by omega) (by omega) (by omega) (PA.mv2 i51_5 ((hS240).1 51 (by decide)) ((hS240).1 56 (by decide)) ((hS240).2 92 (by decide)) ((hS240).2 93 (by decide)) ((hS240).2 94 (by decide)) ((hS240).2 95 (by decide))) (PR.mv i51_6 ((hS240).1 43 (by decide)) ((hS240).1 51 (by decide)) ((hS240).2 86 (by decide)) ((hS240).2 87 (by decide)) ((hS240).2 88 (by decide)) ((hS240).2 90 (by decide)) ((hS240).2 91 (by decide))) (PO.mv i51_7 ((hS240).1 43 (by decide)) ((hS240).2 88 (by decide))) (PE.mv i51_8 ((hS240).1 43 (by decide)) ((hS240).2 88 (by decide))) (by omega) (fun r247 S247 hS247 n247_0 n247_1 n247_2 n247_3 n247_4 n247_5 n247_6 n247_7 => ?_)
                          have hbr : (S247.1 54 43 = S240.1 54 43 + 1 ∧ S247.2 88 (S240.1 54 43) = v51_2) ∨ S247.1 54 43 = S240.1 54 43 := by
                            rcases n247_5 with h | h
                            · exact Or.inl h
                            · exact Or.inr h.1
                          intro q763
                          refine ⟨fun h255 => ?_, fun h255 => ?_⟩
                          · unfold wX11_parse_265
                            intro q764
                            refine ⟨fun h270 => ?_, fun h270 => ?_⟩
                            · unfold wX11_parse_283
                              refine ⟨by omega, ?_⟩
                              refine ⟨fun h287 => ?_, fun h287 => ?_⟩
                              · unfold wX11_parse_295
                                unfold wX11_parse_297
                                exact ⟨⟨(Ch.wk (Ch.tr (Ch.tr hS51h hS240) hS247) (by decide) (by decide)), by omega, by omega, by omega, by omega, by omega, n247_2, n247_3, n247_4, (PE_new (PE.mv i51_8 (hS240.1 43 (by decide)) (hS240.2 88 (by decide))) hbr n247_6), n247_7, (n247_5.elim (fun h => Or.inl (by omega)) (fun h => Or.inr (Or.inl (by omega)))), by omega, by omega⟩, show (2 * (3020 - r247) + min 1 (max 0 (-1 - (S247.1 54 59)))).toNat < (2 * (3020 - v51_1) + min 1 (max 0 (-1 - (S51h.1 54 59)))).toNat by omega⟩
                              · unfold wX11_parse_295
                                unfold wX11_parse_297
                                exact ⟨⟨(Ch.wk (Ch.tr (Ch.tr hS51h hS240) hS247) (by decide) (by decide)), by omega, by omega, by omega, by omega, by omega, n247_2, n247_3, n247_4, (PE_new (PE.mv i51_8 (hS240.1 43 (by decide)) (hS240.2 88 (by decide))) hbr n247_6), n247_7, (n247_5.elim (fun h => Or.inl (by omega)) (fun h => Or.inr (Or.inl (by omega)))), by omega, by omega⟩, show (2 * (3020 - r247) + min 1 (max 0 (-1 - (S247.1 54 59)))).toNat < (2 * (3020 - v51_1) + min 1 (max 0 (-1 - (S51h.1 54 59)))).toNat by omega⟩
                            · intro q765
                              unfold wX11_parse_283
                              refine ⟨by omega, ?_⟩
                              refine ⟨fun h287 => ?_, fun h287 => ?_⟩
                              · unfold wX11_parse_295
                                unfold wX11_parse_297
                                exact ⟨⟨(Ch.wk (Ch.tr (Ch.tr hS51h hS240) hS247) (by decide) (by decide)), by omega, by omega, by omega, by omega, by omega, n247_2, n247_3, n247_4, (PE_last (by omega)), n247_7, (n247_5.elim (fun h => Or.inl (by omega)) (fun h => Or.inr (Or.inl (by omega)))), by omega, by omega⟩, show (2 * (3020 - r247) + min 1 (max 0 (-1 - (S247.1 54 59)))).toNat < (2 * (3020 - v51_1) + min 1 (max 0 (-1 - (S51h.1 54 59)))).toNat by omega⟩
                              · unfold wX11_parse_295
                                unfold wX11_parse_297
                                exact ⟨⟨(Ch.wk (Ch.tr (Ch.tr hS51h hS240) hS247) (by decide) (by decide)), by omega, by omega, by omega, by omega, by omega, n247_2, n247_3, n247_4, (PE_last (by omega)), n247_7, (n247_5.elim (fun h => Or.inl (by omega)) (fun h => Or.inr (Or.inl (by omega)))), by omega, by omega⟩, show (2 * (3020 - r247) + min 1 (max 0 (-1 - (S247.1 54 59)))).toNat < (2 * (3020 - v51_1) + min 1 (max 0 (-1 - (S51h.1 54 59)))).toNat by omega⟩
                          · unfold wX11_parse_265
                            intro q766
                            refine ⟨fun h270 => ?_, fun h270 => ?_⟩
                            · unfold wX11_parse_283
                              refine ⟨by omega, ?_⟩
                              refine ⟨fun h287 => ?_, fun h287 => ?_⟩
                              · unfold wX11_parse_295
                                unfold wX11_parse_297
                                exact ⟨⟨(Ch.wk (Ch.tr (Ch.tr hS51h hS240) hS247) (by decide) (by decide)), by omega, by omega, by omega, by omega, by omega, n247_2, n247_3, n247_4, (PE_new (PE.mv i51_8 (hS240.1 43 (by decide)) (hS240.2 88 (by decide))) hbr n247_6), n247_7, (n247_5.elim (fun h => Or.inl (by omega)) (fun h => Or.inr (Or.inl (by omega)))), by omega, by omega⟩, show (2 * (3020 - r247) + min 1 (max 0 (-1 - (S247.1 54 59)))).toNat < (2 * (3020 - v51_1) + min 1 (max 0 (-1 - (S51h.1 54 59)))).toNat by omega⟩
                              · unfold wX11_parse_295
                                unfold wX11_parse_297
                                exact ⟨⟨(Ch.wk (Ch.tr (Ch.tr hS51h hS240) hS247) (by decide) (by decide)), by omega, by omega, by omega, by omega, by omega, n247_2, n247_3, n247_4, (PE_new (PE.mv i51_8 (hS240.1 43 (by decide)) (hS240.2 88 (by decide))) hbr n247_6), n247_7, (n247_5.elim (fun h => Or.inl (by omega)) (fun h => Or.inr (Or.inl (by omega)))), by omega, by omega⟩, show (2 * (3020 - r247) + min 1 (max 0 (-1 - (S247.1 54 59)))).toNat < (2 * (3020 - v51_1) + min 1 (max 0 (-1 - (S51h.1 54 59)))).toNat by omega⟩
                            · intro q767
                              unfold wX11_parse_283
                              refine ⟨by omega, ?_⟩
                              refine ⟨fun h287 => ?_, fun h287 => ?_⟩
                              · unfold wX11_parse_295
                                unfold wX11_parse_297
                                exact ⟨⟨(Ch.wk (Ch.tr (Ch.tr hS51h hS240) hS247) (by decide) (by decide)), by omega, by omega, by omega, by omega, by omega, n247_2, n247_3, n247_4, (PE_last (by omega)), n247_7, (n247_5.elim (fun h => Or.inl (by omega)) (fun h => Or.inr (Or.inl (by omega)))), by omega, by omega⟩, show (2 * (3020 - r247) + min 1 (max 0 (-1 - (S247.1 54 59)))).toNat < (2 * (3020 - v51_1) + min 1 (max 0 (-1 - (S51h.1 54 59)))).toNat by omega⟩
                              · unfold wX11_parse_295
                                unfold wX11_parse_297
                                exact ⟨⟨(Ch.wk (Ch.tr (Ch.tr hS51h hS240) hS247) (by decide) (by decide)), by omega, by omega, by omega, by omega, by omega, n247_2, n247_3, n247_4, (PE_last (by omega)), n247_7, (n247_5.elim (fun h => Or.inl (by omega)) (fun h => Or.inr (Or.inl (by omega)))), by omega, by omega⟩, show (2 * (3020 - r247) + min 1 (max 0 (-1 - (S247.1 54 59)))).toNat < (2 * (3020 - v51_1) + min 1 (max 0 (-1 - (S51h.1 54 59)))).toNat by omega⟩
                        · refine ⟨by omega, ?_⟩
                          refine tX11_fail (by omega) (fun r232 S232 hS232 n232_0 => ?_)
                          unfold wX11_parse_297
                          have e768 : S232.1 54 43 = S51h.1 54 43 := hS232.1 43 (by decide)
                          have e769 : S232.1 54 43 = S51h.1 54 43 := hS232.1 43 (by decide)
                          exact ⟨⟨(Ch.wk (Ch.tr hS51h hS232) (by decide) (by decide)), by omega, by omega, by omega, by omega, by omega, (PA.mv3 i51_5 ((hS232).1 51 (by decide)) ((hS232).2 92 (by decide)) ((hS232).2 93 (by decide)) ((hS232).2 94 (by decide)) ((hS232).2 95 (by decide))), (PR.mv i51_6 ((hS232).1 43 (by decide)) ((hS232).1 51 (by decide)) ((hS232).2 86 (by decide)) ((hS232).2 87 (by decide)) ((hS232).2 88 (by decide)) ((hS232).2 90 (by decide)) ((hS232).2 91 (by decide))), (PO.mv i51_7 ((hS232).1 43 (by decide)) ((hS232).2 88 (by decide))), (PE.mv i51_8 ((hS232).1 43 (by decide)) ((hS232).2 88 (by decide))), (by
                                unfold PB
                                have e770 : S232.1 54 41 = S51h.1 54 41 := hS232.1 41 (by decide)
                                have e771 : S51h.1 54 41 = S18.1 54 41 := hS51h.1 41 (by decide)
                                have e772 : S18.1 54 41 = S12.1 54 41 := hS18.1 41 (by decide)
                                have e773 : S12.1 54 41 = S7.1 54 41 := hS12.1 41 (by decide)
                                have e774 : S7.1 54 41 = S2.1 54 41 := hS7.1 41 (by decide)
                                have e775 : S2.1 54 41 = S.1 54 41 := hS2.1 41 (by decide)
                                have e776 : S232.1 54 56 = S51h.1 54 56 := hS232.1 56 (by decide)
                                have e777 : S232.1 54 51 = S51h.1 54 51 := hS232.1 51 (by decide)
                                first
                                | exact Or.inl (by omega)
                                | exact (Classical.em (-1 ≤ S232.1 54 59)).elim (fun hb => Or.inl hb) (fun hb => Or.inr ⟨by omega, by omega, by omega⟩)), (by
                                unfold P1
                                have e778 : S232.1 54 43 = S51h.1 54 43 := hS232.1 43 (by decide)
                                first | exact Or.inr (Or.inl (by omega)) | exact Or.inl (by omega)), by omega, by omega⟩, show (2 * (3020 - v51_1) + min 1 (max 0 (-1 - (S232.1 54 59)))).toNat < (2 * (3020 - v51_1) + min 1 (max 0 (-1 - (S51h.1 54 59)))).toNat by omega⟩
                      · refine ⟨by omega, ?_⟩
                        refine ⟨fun h210 => ?_, fun h210 => ?_⟩
                        · unfold wX11_parse_225
                          refine ⟨by omega, ?_⟩
                          refine ⟨fun h227 => ?_, fun h227 => ?_⟩
                          · intro S240 hS240e
                            have hS240 : Ch [60] [] S51h S240 := Ch_I hS240e
                            have hS240v : S240.1 54 60 = 0 := pI_at hS240e
                            refine ⟨by omega, ?_⟩
                            refine ⟨by omega, ?_⟩
                            refine ⟨by omega, ?_⟩
                            have e779 : S240.1 54 41 = S51h.1 54 41 := hS240.1 41 (by decide)
                            have e780 : S51h.1 54 41 = S18.1 54 41 := hS51h.1 41 (by decide)
                            have e781 : S18.1 54 41 = S12.1 54 41 := hS18.1 41 (by decide)
                            have e782 : S12.1 54 41 = S7.1 54 41 := hS12.1 41 (by decide)
                            have e783 : S7.1 54 41 = S2.1 54 41 := hS7.1 41 (by decide)
                            have e784 : S2.1 54 41 = S.1 54 41 := hS2.1 41 (by decide)
                            have e785 : S240.1 54 41 = S51h.1 54 41 := hS240.1 41 (by decide)
                            have e786 : S51h.1 54 41 = S18.1 54 41 := hS51h.1 41 (by decide)
                            have e787 : S18.1 54 41 = S12.1 54 41 := hS18.1 41 (by decide)
                            have e788 : S12.1 54 41 = S7.1 54 41 := hS12.1 41 (by decide)
                            have e789 : S7.1 54 41 = S2.1 54 41 := hS7.1 41 (by decide)
                            have e790 : S2.1 54 41 = S.1 54 41 := hS2.1 41 (by decide)
                            have e791 : S240.1 54 56 = S51h.1 54 56 := hS240.1 56 (by decide)
                            have e792 : S240.1 54 51 = S51h.1 54 51 := hS240.1 51 (by decide)
                            have e793 : S240.1 54 43 = S51h.1 54 43 := hS240.1 43 (by decide)
                            have e794 : S240.1 54 43 = S51h.1 54 43 := hS240.1 43 (by decide)
                            refine tX11_beginTag (by omega) (by omega) (by omega) (by omega) (by omega) (by omega) (PA.mv2 i51_5 ((hS240).1 51 (by decide)) ((hS240).1 56 (by decide)) ((hS240).2 92 (by decide)) ((hS240).2 93 (by decide)) ((hS240).2 94 (by decide)) ((hS240).2 95 (by decide))) (PR.mv i51_6 ((hS240).1 43 (by decide)) ((hS240).1 51 (by decide)) ((hS240).2 86 (by decide)) ((hS240).2 87 (by decide)) ((hS240).2 88 (by decide)) ((hS240).2 90 (by decide)) ((hS240).2 91 (by decide))) (PO.mv i51_7 ((hS240).1 43 (by decide)) ((hS240).2 88 (by decide))) (PE.mv i51_8 ((hS240).1 43 (by decide)) ((hS240).2 88 (by decide))) (by omega) (fun r247 S247 hS247 n247_0 n247_1 n247_2 n247_3 n247_4 n247_5 n247_6 n247_7 => ?_)
                            have hbr : (S247.1 54 43 = S240.1 54 43 + 1 ∧ S247.2 88 (S240.1 54 43) = v51_2) ∨ S247.1 54 43 = S240.1 54 43 := by
                              rcases n247_5 with h | h
                              · exact Or.inl h
                              · exact Or.inr h.1
                            intro q795
                            refine ⟨fun h255 => ?_, fun h255 => ?_⟩
                            · unfold wX11_parse_265
                              intro q796
                              refine ⟨fun h270 => ?_, fun h270 => ?_⟩
                              · unfold wX11_parse_283
                                refine ⟨by omega, ?_⟩
                                refine ⟨fun h287 => ?_, fun h287 => ?_⟩
                                · unfold wX11_parse_295
                                  unfold wX11_parse_297
                                  exact ⟨⟨(Ch.wk (Ch.tr (Ch.tr hS51h hS240) hS247) (by decide) (by decide)), by omega, by omega, by omega, by omega, by omega, n247_2, n247_3, n247_4, (PE_new (PE.mv i51_8 (hS240.1 43 (by decide)) (hS240.2 88 (by decide))) hbr n247_6), n247_7, (n247_5.elim (fun h => Or.inl (by omega)) (fun h => Or.inr (Or.inl (by omega)))), by omega, by omega⟩, show (2 * (3020 - r247) + min 1 (max 0 (-1 - (S247.1 54 59)))).toNat < (2 * (3020 - v51_1) + min 1 (max 0 (-1 - (S51h.1 54 59)))).toNat by omega⟩
                                · unfold wX11_parse_295
                                  unfold wX11_parse_297
                                  exact ⟨⟨(Ch.wk (Ch.tr (Ch.tr hS51h hS240) hS247) (by decide) (by decide)), by omega, by omega, by omega, by omega, by omega, n247_2, n247_3, n247_4, (PE_new (PE.mv i51_8 (hS240.1 43 (by decide)) (hS240.2 88 (by decide))) hbr n247_6), n247_7, (n247_5.elim (fun h => Or.inl (by omega)) (fun h => Or.inr (Or.inl (by omega)))), by omega, by omega⟩, show (2 * (3020 - r247) + min 1 (max 0 (-1 - (S247.1 54 59)))).toNat < (2 * (3020 - v51_1) + min 1 (max 0 (-1 - (S51h.1 54 59)))).toNat by omega⟩
                              · intro q797
                                unfold wX11_parse_283
                                refine ⟨by omega, ?_⟩
                                refine ⟨fun h287 => ?_, fun h287 => ?_⟩
                                · unfold wX11_parse_295
                                  unfold wX11_parse_297
                                  exact ⟨⟨(Ch.wk (Ch.tr (Ch.tr hS51h hS240) hS247) (by decide) (by decide)), by omega, by omega, by omega, by omega, by omega, n247_2, n247_3, n247_4, (PE_last (by omega)), n247_7, (n247_5.elim (fun h => Or.inl (by omega)) (fun h => Or.inr (Or.inl (by omega)))), by omega, by omega⟩, show (2 * (3020 - r247) + min 1 (max 0 (-1 - (S247.1 54 59)))).toNat < (2 * (3020 - v51_1) + min 1 (max 0 (-1 - (S51h.1 54 59)))).toNat by omega⟩
                                · unfold wX11_parse_295
                                  unfold wX11_parse_297
                                  exact ⟨⟨(Ch.wk (Ch.tr (Ch.tr hS51h hS240) hS247) (by decide) (by decide)), by omega, by omega, by omega, by omega, by omega, n247_2, n247_3, n247_4, (PE_last (by omega)), n247_7, (n247_5.elim (fun h => Or.inl (by omega)) (fun h => Or.inr (Or.inl (by omega)))), by omega, by omega⟩, show (2 * (3020 - r247) + min 1 (max 0 (-1 - (S247.1 54 59)))).toNat < (2 * (3020 - v51_1) + min 1 (max 0 (-1 - (S51h.1 54 59)))).toNat by omega⟩
                            · unfold wX11_parse_265
                              intro q798
                              refine ⟨fun h270 => ?_, fun h270 => ?_⟩
                              · unfold wX11_parse_283
                                refine ⟨by omega, ?_⟩
                                refine ⟨fun h287 => ?_, fun h287 => ?_⟩
                                · unfold wX11_parse_295
                                  unfold wX11_parse_297
                                  exact ⟨⟨(Ch.wk (Ch.tr (Ch.tr hS51h hS240) hS247) (by decide) (by decide)), by omega, by omega, by omega, by omega, by omega, n247_2, n247_3, n247_4, (PE_new (PE.mv i51_8 (hS240.1 43 (by decide)) (hS240.2 88 (by decide))) hbr n247_6), n247_7, (n247_5.elim (fun h => Or.inl (by omega)) (fun h => Or.inr (Or.inl (by omega)))), by omega, by omega⟩, show (2 * (3020 - r247) + min 1 (max 0 (-1 - (S247.1 54 59)))).toNat < (2 * (3020 - v51_1) + min 1 (max 0 (-1 - (S51h.1 54 59)))).toNat by omega⟩
                                · unfold wX11_parse_295
                                  unfold wX11_parse_297
                                  exact ⟨⟨(Ch.wk (Ch.tr (Ch.tr hS51h hS240) hS247) (by decide) (by decide)), by omega, by omega, by omega, by omega, by omega, n247_2, n247_3, n247_4, (PE_new (PE.mv i51_8 (hS240.1 43 (by decide)) (hS240.2 88 (by decide))) hbr n247_6), n247_7, (n247_5.elim (fun h => Or.inl (by omega)) (fun h => Or.inr (Or.inl (by omega)))), by omega, by omega⟩, show (2 * (3020 - r247) + min 1 (max 0 (-1 - (S247.1 54 59)))).toNat < (2 * (3020 - v51_1) + min 1 (max 0 (-1 - (S51h.1 54 59)))).toNat by omega⟩
                              · intro q799
                                unfold wX11_parse_283
                                refine ⟨by omega, ?_⟩
                                refine ⟨fun h287 => ?_, fun h287 => ?_⟩
                                · unfold wX11_parse_295
                                  unfold wX11_parse_297
                                  exact ⟨⟨(Ch.wk (Ch.tr (Ch.tr hS51h hS240) hS247) (by decide) (by decide)), by omega, by omega, by omega, by omega, by omega, n247_2, n247_3, n247_4, (PE_last (by omega)), n247_7, (n247_5.elim (fun h => Or.inl (by omega)) (fun h => Or.inr (Or.inl (by omega)))), by omega, by omega⟩, show (2 * (3020 - r247) + min 1 (max 0 (-1 - (S247.1 54 59)))).toNat < (2 * (3020 - v51_1) + min 1 (max 0 (-1 - (S51h.1 54 59)))).toNat by omega⟩
                                · unfold wX11_parse_295
                                  unfold wX11_parse_297
                                  exact ⟨⟨(Ch.wk (Ch.tr (Ch.tr hS51h hS240) hS247) (by decide) (by decide)), by omega, by omega, by omega, by omega, by omega, n247_2, n247_3, n247_4, (PE_last (by omega)), n247_7, (n247_5.elim (fun h => Or.inl (by omega)) (fun h => Or.inr (Or.inl (by omega)))), by omega, by omega⟩, show (2 * (3020 - r247) + min 1 (max 0 (-1 - (S247.1 54 59)))).toNat < (2 * (3020 - v51_1) + min 1 (max 0 (-1 - (S51h.1 54 59)))).toNat by omega⟩
                          · refine ⟨by omega, ?_⟩
                            refine tX11_fail (by omega) (fun r232 S232 hS232 n232_0 => ?_)
                            unfold wX11_parse_297
                            have e800 : S232.1 54 43 = S51h.1 54 43 := hS232.1 43 (by decide)
                            have e801 : S232.1 54 43 = S51h.1 54 43 := hS232.1 43 (by decide)
                            exact ⟨⟨(Ch.wk (Ch.tr hS51h hS232) (by decide) (by decide)), by omega, by omega, by omega, by omega, by omega, (PA.mv3 i51_5 ((hS232).1 51 (by decide)) ((hS232).2 92 (by decide)) ((hS232).2 93 (by decide)) ((hS232).2 94 (by decide)) ((hS232).2 95 (by decide))), (PR.mv i51_6 ((hS232).1 43 (by decide)) ((hS232).1 51 (by decide)) ((hS232).2 86 (by decide)) ((hS232).2 87 (by decide)) ((hS232).2 88 (by decide)) ((hS232).2 90 (by decide)) ((hS232).2 91 (by decide))), (PO.mv i51_7 ((hS232).1 43 (by decide)) ((hS232).2 88 (by decide))), (PE.mv i51_8 ((hS232).1 43 (by decide)) ((hS232).2 88 (by decide))), (by
                                  unfold PB
                                  have e802 : S232.1 54 41 = S51h.1 54 41 := hS232.1 41 (by decide)
                                  have e803 : S51h.1 54 41 = S18.1 54 41 := hS51h.1 41 (by decide)
                                  have e804 : S18.1 54 41 = S12.1 54 41 := hS18.1 41 (by decide)
                                  have e805 : S12.1 54 41 = S7.1 54 41 := hS12.1 41 (by decide)
                                  have e806 : S7.1 54 41 = S2.1 54 41 := hS7.1 41 (by decide)
                                  have e807 : S2.1 54 41 = S.1 54 41 := hS2.1 41 (by decide)
                                  have e808 : S232.1 54 56 = S51h.1 54 56 := hS232.1 56 (by decide)
                                  have e809 : S232.1 54 51 = S51h.1 54 51 := hS232.1 51 (by decide)
                                  first
                                  | exact Or.inl (by omega)
                                  | exact (Classical.em (-1 ≤ S232.1 54 59)).elim (fun hb => Or.inl hb) (fun hb => Or.inr ⟨by omega, by omega, by omega⟩)), (by
                                  unfold P1
                                  have e810 : S232.1 54 43 = S51h.1 54 43 := hS232.1 43 (by decide)
                                  first | exact Or.inr (Or.inl (by omega)) | exact Or.inl (by omega)), by omega, by omega⟩, show (2 * (3020 - v51_1) + min 1 (max 0 (-1 - (S232.1 54 59)))).toNat < (2 * (3020 - v51_1) + min 1 (max 0 (-1 - (S51h.1 54 59)))).toNat by omega⟩
                        · refine ⟨by omega, ?_⟩
                          refine ⟨by omega, ?_⟩
                          have e811 : S51h.1 54 41 = S18.1 54 41 := hS51h.1 41 (by decide)
                          have e812 : S18.1 54 41 = S12.1 54 41 := hS18.1 41 (by decide)
                          have e813 : S12.1 54 41 = S7.1 54 41 := hS12.1 41 (by decide)
                          have e814 : S7.1 54 41 = S2.1 54 41 := hS7.1 41 (by decide)
                          have e815 : S2.1 54 41 = S.1 54 41 := hS2.1 41 (by decide)
                          have e816 : S51h.1 54 41 = S18.1 54 41 := hS51h.1 41 (by decide)
                          have e817 : S18.1 54 41 = S12.1 54 41 := hS18.1 41 (by decide)
                          have e818 : S12.1 54 41 = S7.1 54 41 := hS12.1 41 (by decide)
                          have e819 : S7.1 54 41 = S2.1 54 41 := hS7.1 41 (by decide)
                          have e820 : S2.1 54 41 = S.1 54 41 := hS2.1 41 (by decide)
                          have e821 : S51h.1 54 41 = S18.1 54 41 := hS51h.1 41 (by decide)
                          have e822 : S18.1 54 41 = S12.1 54 41 := hS18.1 41 (by decide)
                          have e823 : S12.1 54 41 = S7.1 54 41 := hS12.1 41 (by decide)
                          have e824 : S7.1 54 41 = S2.1 54 41 := hS7.1 41 (by decide)
                          have e825 : S2.1 54 41 = S.1 54 41 := hS2.1 41 (by decide)
                          refine tX11_section (by omega) (by omega) (by omega) (by omega) (by omega) (by omega) (fun r218 S218 hS218 n218_0 n218_1 n218_2 n218_3 => ?_)
                          unfold wX11_parse_297
                          have e826 : S218.1 54 43 = S51h.1 54 43 := hS218.1 43 (by decide)
                          have e827 : S218.1 54 43 = S51h.1 54 43 := hS218.1 43 (by decide)
                          exact ⟨⟨(Ch.wk (Ch.tr hS51h hS218) (by decide) (by decide)), by omega, by omega, by omega, by omega, by omega, (PA.mv3 i51_5 ((hS218).1 51 (by decide)) ((hS218).2 92 (by decide)) ((hS218).2 93 (by decide)) ((hS218).2 94 (by decide)) ((hS218).2 95 (by decide))), (PR.mv i51_6 ((hS218).1 43 (by decide)) ((hS218).1 51 (by decide)) ((hS218).2 86 (by decide)) ((hS218).2 87 (by decide)) ((hS218).2 88 (by decide)) ((hS218).2 90 (by decide)) ((hS218).2 91 (by decide))), (PO.mv i51_7 ((hS218).1 43 (by decide)) ((hS218).2 88 (by decide))), (PE.mv i51_8 ((hS218).1 43 (by decide)) ((hS218).2 88 (by decide))), (by
                                unfold PB
                                have e828 : S218.1 54 41 = S51h.1 54 41 := hS218.1 41 (by decide)
                                have e829 : S51h.1 54 41 = S18.1 54 41 := hS51h.1 41 (by decide)
                                have e830 : S18.1 54 41 = S12.1 54 41 := hS18.1 41 (by decide)
                                have e831 : S12.1 54 41 = S7.1 54 41 := hS12.1 41 (by decide)
                                have e832 : S7.1 54 41 = S2.1 54 41 := hS7.1 41 (by decide)
                                have e833 : S2.1 54 41 = S.1 54 41 := hS2.1 41 (by decide)
                                have e834 : S218.1 54 51 = S51h.1 54 51 := hS218.1 51 (by decide)
                                first
                                | exact Or.inl (by omega)
                                | exact (Classical.em (-1 ≤ S218.1 54 59)).elim (fun hb => Or.inl hb) (fun hb => Or.inr ⟨by omega, by omega, by omega⟩)), (by
                                unfold P1
                                have e835 : S218.1 54 43 = S51h.1 54 43 := hS218.1 43 (by decide)
                                first | exact Or.inr (Or.inl (by omega)) | exact Or.inl (by omega)), by omega, by omega⟩, show (2 * (3020 - r218) + min 1 (max 0 (-1 - (S218.1 54 59)))).toNat < (2 * (3020 - v51_1) + min 1 (max 0 (-1 - (S51h.1 54 59)))).toNat by omega⟩
                    · have hE2 := hE.2.resolve_left (by omega)
                      have hpr := i51_6.at (x := v51_2) (by omega) (by omega)
                      refine ⟨by omega, ?_⟩
                      have e836 : S51h.1 54 41 = S18.1 54 41 := hS51h.1 41 (by decide)
                      have e837 : S18.1 54 41 = S12.1 54 41 := hS18.1 41 (by decide)
                      have e838 : S12.1 54 41 = S7.1 54 41 := hS12.1 41 (by decide)
                      have e839 : S7.1 54 41 = S2.1 54 41 := hS7.1 41 (by decide)
                      have e840 : S2.1 54 41 = S.1 54 41 := hS2.1 41 (by decide)
                      have e841 : S51h.1 54 41 = S18.1 54 41 := hS51h.1 41 (by decide)
                      have e842 : S18.1 54 41 = S12.1 54 41 := hS18.1 41 (by decide)
                      have e843 : S12.1 54 41 = S7.1 54 41 := hS12.1 41 (by decide)
                      have e844 : S7.1 54 41 = S2.1 54 41 := hS7.1 41 (by decide)
                      have e845 : S2.1 54 41 = S.1 54 41 := hS2.1 41 (by decide)
                      have e846 : S51h.1 54 41 = S18.1 54 41 := hS51h.1 41 (by decide)
                      have e847 : S18.1 54 41 = S12.1 54 41 := hS18.1 41 (by decide)
                      have e848 : S12.1 54 41 = S7.1 54 41 := hS12.1 41 (by decide)
                      have e849 : S7.1 54 41 = S2.1 54 41 := hS7.1 41 (by decide)
                      have e850 : S2.1 54 41 = S.1 54 41 := hS2.1 41 (by decide)
                      refine tX11_endTag (by omega) (by omega) (by omega) (by omega) (by omega) (fun r170 S170 hS170 n170_0 n170_1 n170_2 => ?_)
                      refine ⟨by omega, by omega, ?_⟩
                      intro q851
                      have e852 : S170.2 88 (v51_2) = S51h.2 88 (v51_2) := congrFun (hS170.2 88 (by decide)) _
                      intro x180 hx180
                      subst hx180
                      refine ⟨fun h187 => ?_, fun h187 => ?_⟩
                      · unfold wX11_parse_195
                        unfold wX11_parse_297
                        have e853 : S170.1 54 43 = S51h.1 54 43 := hS170.1 43 (by decide)
                        have e854 : S170.1 54 43 = S51h.1 54 43 := hS170.1 43 (by decide)
                        exact ⟨⟨(Ch.wk (Ch.tr hS51h hS170) (by decide) (by decide)), by omega, by omega, by omega, by omega, by omega, (PA.mv3 i51_5 ((hS170).1 51 (by decide)) ((hS170).2 92 (by decide)) ((hS170).2 93 (by decide)) ((hS170).2 94 (by decide)) ((hS170).2 95 (by decide))), (PR.mv i51_6 ((hS170).1 43 (by decide)) ((hS170).1 51 (by decide)) ((hS170).2 86 (by decide)) ((hS170).2 87 (by decide)) ((hS170).2 88 (by decide)) ((hS170).2 90 (by decide)) ((hS170).2 91 (by decide))), (PO.mv i51_7 ((hS170).1 43 (by decide)) ((hS170).2 88 (by decide))), (by
                              rw [show S170.2 88 v51_2 = S51h.2 88 v51_2 from congrFun (hS170.2 88 (by decide)) _]
                              exact (PE_up (e := v51_2) i51_6 i51_7 (by omega) (by omega)).mv (hS170.1 43 (by decide)) (hS170.2 88 (by decide))), (by
                              unfold PB
                              have e855 : S170.1 54 41 = S51h.1 54 41 := hS170.1 41 (by decide)
                              have e856 : S51h.1 54 41 = S18.1 54 41 := hS51h.1 41 (by decide)
                              have e857 : S18.1 54 41 = S12.1 54 41 := hS18.1 41 (by decide)
                              have e858 : S12.1 54 41 = S7.1 54 41 := hS12.1 41 (by decide)
                              have e859 : S7.1 54 41 = S2.1 54 41 := hS7.1 41 (by decide)
                              have e860 : S2.1 54 41 = S.1 54 41 := hS2.1 41 (by decide)
                              have e861 : S170.1 54 56 = S51h.1 54 56 := hS170.1 56 (by decide)
                              have e862 : S170.1 54 51 = S51h.1 54 51 := hS170.1 51 (by decide)
                              first
                              | exact Or.inl (by omega)
                              | exact (Classical.em (-1 ≤ S170.1 54 59)).elim (fun hb => Or.inl hb) (fun hb => Or.inr ⟨by omega, by omega, by omega⟩)), (by
                              unfold P1
                              have e863 : S170.1 54 43 = S51h.1 54 43 := hS170.1 43 (by decide)
                              first | exact Or.inr (Or.inl (by omega)) | exact Or.inl (by omega)), by omega, by omega⟩, show (2 * (3020 - r170) + min 1 (max 0 (-1 - (S170.1 54 59)))).toNat < (2 * (3020 - v51_1) + min 1 (max 0 (-1 - (S51h.1 54 59)))).toNat by omega⟩
                      · unfold wX11_parse_195
                        unfold wX11_parse_297
                        have e864 : S170.1 54 43 = S51h.1 54 43 := hS170.1 43 (by decide)
                        have e865 : S170.1 54 43 = S51h.1 54 43 := hS170.1 43 (by decide)
                        exact ⟨⟨(Ch.wk (Ch.tr hS51h hS170) (by decide) (by decide)), by omega, by omega, by omega, by omega, by omega, (PA.mv3 i51_5 ((hS170).1 51 (by decide)) ((hS170).2 92 (by decide)) ((hS170).2 93 (by decide)) ((hS170).2 94 (by decide)) ((hS170).2 95 (by decide))), (PR.mv i51_6 ((hS170).1 43 (by decide)) ((hS170).1 51 (by decide)) ((hS170).2 86 (by decide)) ((hS170).2 87 (by decide)) ((hS170).2 88 (by decide)) ((hS170).2 90 (by decide)) ((hS170).2 91 (by decide))), (PO.mv i51_7 ((hS170).1 43 (by decide)) ((hS170).2 88 (by decide))), (by
                              rw [show S170.2 88 v51_2 = S51h.2 88 v51_2 from congrFun (hS170.2 88 (by decide)) _]
                              exact (PE_up (e := v51_2) i51_6 i51_7 (by omega) (by omega)).mv (hS170.1 43 (by decide)) (hS170.2 88 (by decide))), (by
                              unfold PB
                              have e866 : S170.1 54 41 = S51h.1 54 41 := hS170.1 41 (by decide)
                              have e867 : S51h.1 54 41 = S18.1 54 41 := hS51h.1 41 (by decide)
                              have e868 : S18.1 54 41 = S12.1 54 41 := hS18.1 41 (by decide)
                              have e869 : S12.1 54 41 = S7.1 54 41 := hS12.1 41 (by decide)
                              have e870 : S7.1 54 41 = S2.1 54 41 := hS7.1 41 (by decide)
                              have e871 : S2.1 54 41 = S.1 54 41 := hS2.1 41 (by decide)
                              have e872 : S170.1 54 56 = S51h.1 54 56 := hS170.1 56 (by decide)
                              have e873 : S170.1 54 51 = S51h.1 54 51 := hS170.1 51 (by decide)
                              first
                              | exact Or.inl (by omega)
                              | exact (Classical.em (-1 ≤ S170.1 54 59)).elim (fun hb => Or.inl hb) (fun hb => Or.inr ⟨by omega, by omega, by omega⟩)), (by
                              unfold P1
                              have e874 : S170.1 54 43 = S51h.1 54 43 := hS170.1 43 (by decide)
                              first | exact Or.inr (Or.inl (by omega)) | exact Or.inl (by omega)), by omega, by omega⟩, show (2 * (3020 - r170) + min 1 (max 0 (-1 - (S170.1 54 59)))).toNat < (2 * (3020 - v51_1) + min 1 (max 0 (-1 - (S51h.1 54 59)))).toNat by omega⟩
                · refine ⟨by omega, ?_⟩
                  refine tX11_keep (by omega) (by omega) (fun r145 S145 hS145 n145_0 => ?_)
                  unfold wX11_parse_297
                  have e875 : S145.1 54 43 = S51h.1 54 43 := hS145.1 43 (by decide)
                  have e876 : S145.1 54 43 = S51h.1 54 43 := hS145.1 43 (by decide)
                  have e877 : S145.1 54 59 = S51h.1 54 59 := hS145.1 59 (by decide)
                  have e878 : S145.1 54 59 = S51h.1 54 59 := hS145.1 59 (by decide)
                  exact ⟨⟨(Ch.wk (Ch.tr hS51h hS145) (by decide) (by decide)), by omega, by omega, by omega, by omega, by omega, (PA.mv3 i51_5 ((hS145).1 51 (by decide)) ((hS145).2 92 (by decide)) ((hS145).2 93 (by decide)) ((hS145).2 94 (by decide)) ((hS145).2 95 (by decide))), (PR.mv i51_6 ((hS145).1 43 (by decide)) ((hS145).1 51 (by decide)) ((hS145).2 86 (by decide)) ((hS145).2 87 (by decide)) ((hS145).2 88 (by decide)) ((hS145).2 90 (by decide)) ((hS145).2 91 (by decide))), (PO.mv i51_7 ((hS145).1 43 (by decide)) ((hS145).2 88 (by decide))), (PE.mv i51_8 ((hS145).1 43 (by decide)) ((hS145).2 88 (by decide))), (by
                        unfold PB
                        have e879 : S145.1 54 59 = S51h.1 54 59 := hS145.1 59 (by decide)
                        have e880 : S145.1 54 41 = S51h.1 54 41 := hS145.1 41 (by decide)
                        have e881 : S51h.1 54 41 = S18.1 54 41 := hS51h.1 41 (by decide)
                        have e882 : S18.1 54 41 = S12.1 54 41 := hS18.1 41 (by decide)
                        have e883 : S12.1 54 41 = S7.1 54 41 := hS12.1 41 (by decide)
                        have e884 : S7.1 54 41 = S2.1 54 41 := hS7.1 41 (by decide)
                        have e885 : S2.1 54 41 = S.1 54 41 := hS2.1 41 (by decide)
                        have e886 : S145.1 54 51 = S51h.1 54 51 := hS145.1 51 (by decide)
                        first
                        | exact Or.inl (by omega)
                        | exact (Classical.em (-1 ≤ S145.1 54 59)).elim (fun hb => Or.inl hb) (fun hb => Or.inr ⟨by omega, by omega, by omega⟩)), (by
                        unfold P1
                        have e887 : S145.1 54 43 = S51h.1 54 43 := hS145.1 43 (by decide)
                        have e888 : S145.1 54 59 = S51h.1 54 59 := hS145.1 59 (by decide)
                        first | exact Or.inr (Or.inl (by omega)) | exact Or.inl (by omega)), by omega, by omega⟩, show (2 * (3020 - ((v51_1 + 1))) + min 1 (max 0 (-1 - (S145.1 54 59)))).toNat < (2 * (3020 - v51_1) + min 1 (max 0 (-1 - (S51h.1 54 59)))).toNat by omega⟩
              · refine ⟨by omega, ?_⟩
                refine ⟨by omega, ?_⟩
                have e889 : S51h.1 54 41 = S18.1 54 41 := hS51h.1 41 (by decide)
                have e890 : S18.1 54 41 = S12.1 54 41 := hS18.1 41 (by decide)
                have e891 : S12.1 54 41 = S7.1 54 41 := hS12.1 41 (by decide)
                have e892 : S7.1 54 41 = S2.1 54 41 := hS7.1 41 (by decide)
                have e893 : S2.1 54 41 = S.1 54 41 := hS2.1 41 (by decide)
                have e894 : S51h.1 54 41 = S18.1 54 41 := hS51h.1 41 (by decide)
                have e895 : S18.1 54 41 = S12.1 54 41 := hS18.1 41 (by decide)
                have e896 : S12.1 54 41 = S7.1 54 41 := hS12.1 41 (by decide)
                have e897 : S7.1 54 41 = S2.1 54 41 := hS7.1 41 (by decide)
                have e898 : S2.1 54 41 = S.1 54 41 := hS2.1 41 (by decide)
                have e899 : S51h.1 54 41 = S18.1 54 41 := hS51h.1 41 (by decide)
                have e900 : S18.1 54 41 = S12.1 54 41 := hS18.1 41 (by decide)
                have e901 : S12.1 54 41 = S7.1 54 41 := hS12.1 41 (by decide)
                have e902 : S7.1 54 41 = S2.1 54 41 := hS7.1 41 (by decide)
                have e903 : S2.1 54 41 = S.1 54 41 := hS2.1 41 (by decide)
                refine tX11_reference (by omega) (by omega) (by omega) (by omega) (by omega) (fun r127 S127 hS127 n127_0 n127_1 n127_2 n127_3 => ?_)
                unfold wX11_parse_297
                have e904 : S127.1 54 43 = S51h.1 54 43 := hS127.1 43 (by decide)
                have e905 : S127.1 54 43 = S51h.1 54 43 := hS127.1 43 (by decide)
                exact ⟨⟨(Ch.wk (Ch.tr hS51h hS127) (by decide) (by decide)), by omega, by omega, by omega, by omega, by omega, (PA.mv3 i51_5 ((hS127).1 51 (by decide)) ((hS127).2 92 (by decide)) ((hS127).2 93 (by decide)) ((hS127).2 94 (by decide)) ((hS127).2 95 (by decide))), (PR.mv i51_6 ((hS127).1 43 (by decide)) ((hS127).1 51 (by decide)) ((hS127).2 86 (by decide)) ((hS127).2 87 (by decide)) ((hS127).2 88 (by decide)) ((hS127).2 90 (by decide)) ((hS127).2 91 (by decide))), (PO.mv i51_7 ((hS127).1 43 (by decide)) ((hS127).2 88 (by decide))), (PE.mv i51_8 ((hS127).1 43 (by decide)) ((hS127).2 88 (by decide))), (by
                      unfold PB
                      have e906 : S127.1 54 41 = S51h.1 54 41 := hS127.1 41 (by decide)
                      have e907 : S51h.1 54 41 = S18.1 54 41 := hS51h.1 41 (by decide)
                      have e908 : S18.1 54 41 = S12.1 54 41 := hS18.1 41 (by decide)
                      have e909 : S12.1 54 41 = S7.1 54 41 := hS12.1 41 (by decide)
                      have e910 : S7.1 54 41 = S2.1 54 41 := hS7.1 41 (by decide)
                      have e911 : S2.1 54 41 = S.1 54 41 := hS2.1 41 (by decide)
                      have e912 : S127.1 54 51 = S51h.1 54 51 := hS127.1 51 (by decide)
                      first
                      | exact Or.inl (by omega)
                      | exact (Classical.em (-1 ≤ S127.1 54 59)).elim (fun hb => Or.inl hb) (fun hb => Or.inr ⟨by omega, by omega, by omega⟩)), (by
                      unfold P1
                      have e913 : S127.1 54 43 = S51h.1 54 43 := hS127.1 43 (by decide)
                      first | exact Or.inr (Or.inl (by omega)) | exact Or.inl (by omega)), by omega, by omega⟩, show (2 * (3020 - r127) + min 1 (max 0 (-1 - (S127.1 54 59)))).toNat < (2 * (3020 - v51_1) + min 1 (max 0 (-1 - (S51h.1 54 59)))).toNat by omega⟩
            · refine ⟨by omega, ?_⟩
              refine tX11_fail (by omega) (fun r111 S111 hS111 n111_0 => ?_)
              unfold wX11_parse_297
              have e914 : S111.1 54 43 = S51h.1 54 43 := hS111.1 43 (by decide)
              have e915 : S111.1 54 43 = S51h.1 54 43 := hS111.1 43 (by decide)
              exact ⟨⟨(Ch.wk (Ch.tr hS51h hS111) (by decide) (by decide)), by omega, by omega, by omega, by omega, by omega, (PA.mv3 i51_5 ((hS111).1 51 (by decide)) ((hS111).2 92 (by decide)) ((hS111).2 93 (by decide)) ((hS111).2 94 (by decide)) ((hS111).2 95 (by decide))), (PR.mv i51_6 ((hS111).1 43 (by decide)) ((hS111).1 51 (by decide)) ((hS111).2 86 (by decide)) ((hS111).2 87 (by decide)) ((hS111).2 88 (by decide)) ((hS111).2 90 (by decide)) ((hS111).2 91 (by decide))), (PO.mv i51_7 ((hS111).1 43 (by decide)) ((hS111).2 88 (by decide))), (PE.mv i51_8 ((hS111).1 43 (by decide)) ((hS111).2 88 (by decide))), (by
                    unfold PB
                    have e916 : S111.1 54 41 = S51h.1 54 41 := hS111.1 41 (by decide)
                    have e917 : S51h.1 54 41 = S18.1 54 41 := hS51h.1 41 (by decide)
                    have e918 : S18.1 54 41 = S12.1 54 41 := hS18.1 41 (by decide)
                    have e919 : S12.1 54 41 = S7.1 54 41 := hS12.1 41 (by decide)
                    have e920 : S7.1 54 41 = S2.1 54 41 := hS7.1 41 (by decide)
                    have e921 : S2.1 54 41 = S.1 54 41 := hS2.1 41 (by decide)
                    have e922 : S111.1 54 56 = S51h.1 54 56 := hS111.1 56 (by decide)
                    have e923 : S111.1 54 51 = S51h.1 54 51 := hS111.1 51 (by decide)
                    first
                    | exact Or.inl (by omega)
                    | exact (Classical.em (-1 ≤ S111.1 54 59)).elim (fun hb => Or.inl hb) (fun hb => Or.inr ⟨by omega, by omega, by omega⟩)), (by
                    unfold P1
                    have e924 : S111.1 54 43 = S51h.1 54 43 := hS111.1 43 (by decide)
                    first | exact Or.inr (Or.inl (by omega)) | exact Or.inl (by omega)), by omega, by omega⟩, show (2 * (3020 - v51_1) + min 1 (max 0 (-1 - (S111.1 54 59)))).toNat < (2 * (3020 - v51_1) + min 1 (max 0 (-1 - (S51h.1 54 59)))).toNat by omega⟩
  · refine tX11_fail (by omega) (fun r39 S39 hS39 n39_0 => ?_)
    have e925 : S39.1 54 43 = S18.1 54 43 := hS39.1 43 (by decide)
    have e926 : S18.1 54 43 = S12.1 54 43 := hS18.1 43 (by decide)
    have e927 : S12.1 54 43 = S7.1 54 43 := hS12.1 43 (by decide)
    have e928 : S7.1 54 43 = S2.1 54 43 := hS7.1 43 (by decide)
    exact hK (0) S39 (Ch.wk (Ch.tr (Ch.tr (Ch.tr (Ch.tr hS2 hS7) hS12) hS18) hS39) (by decide) (by decide)) (by
          unfold PA
          intro x
          have e929 : S39.1 54 51 = S18.1 54 51 := hS39.1 51 (by decide)
          have e930 : S18.1 54 51 = S12.1 54 51 := hS18.1 51 (by decide)
          have e931 : S12.1 54 51 = S7.1 54 51 := hS12.1 51 (by decide)
          omega) (by
          unfold PR
          intro x
          have e932 : S39.1 54 43 = S18.1 54 43 := hS39.1 43 (by decide)
          have e933 : S18.1 54 43 = S12.1 54 43 := hS18.1 43 (by decide)
          have e934 : S12.1 54 43 = S7.1 54 43 := hS12.1 43 (by decide)
          have e935 : S7.1 54 43 = S2.1 54 43 := hS7.1 43 (by decide)
          omega) (by
          unfold PO
          intro x
          have e936 : S39.1 54 43 = S18.1 54 43 := hS39.1 43 (by decide)
          have e937 : S18.1 54 43 = S12.1 54 43 := hS18.1 43 (by decide)
          have e938 : S12.1 54 43 = S7.1 54 43 := hS12.1 43 (by decide)
          have e939 : S7.1 54 43 = S2.1 54 43 := hS7.1 43 (by decide)
          omega) (by omega)
