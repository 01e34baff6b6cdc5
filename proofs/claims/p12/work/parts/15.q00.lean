set_option maxRecDepth 100000 in
set_option maxHeartbeats 4000000 in
theorem tX11_parse {S : St} {K : Int → St → Prop} (p1 : iv 0 3000 ((S.1 54 41))) (hK : ∀ (r : Int) (S' : St), Ch [43, 51, 56, 59, 60] [85, 86, 87, 88, 89, 90, 91, 92, 93, 94, 95, 96, 97] S S' → (PA S') → (PR S') → (PO S') → (-1 ≤ (S'.1 54 59) ∨ 1 ≤ (S'.1 54 43)) → ((S'.1 54 43) ≤ 200) → (-1 ≤ (S'.1 54 59) ∨ ((S'.1 54 51) ≤ 600 ∧ (S'.1 54 56) ≤ 3000)) → K r S') : wX11_parse  S K := by
  unfold wX11_parse
  intro S2 hS2e
  have hS2 : Ch [43] [] S S2 := Ch_I hS2e
  have hS2v : S2.1 54 43 = 0 := pI_at hS2e
  intro S7 hS7e
  have hS7 : Ch [51] [] S2 S7 := Ch_I hS7e
  have hS7v : S7.1 54 51 = 0 := pI_at hS7e
  intro S12 hS12e
  have hS12 : Ch [56] [] S7 S12 := Ch_I hS12e
  have hS12v : S12.1 54 56 = 0 := pI_at hS12e
  intro S18 hS18e
  have hS18 : Ch [59] [] S12 S18 := Ch_I hS18e
  have hS18v : S18.1 54 59 = (-2) := pI_at hS18e
  have e1 : S18.1 54 41 = S12.1 54 41 := hS18.1 41 (by decide)
  have e2 : S12.1 54 41 = S7.1 54 41 := hS12.1 41 (by decide)
  have e3 : S7.1 54 41 = S2.1 54 41 := hS7.1 41 (by decide)
  have e4 : S2.1 54 41 = S.1 54 41 := hS2.1 41 (by decide)
  have e5 : S18.1 54 41 = S12.1 54 41 := hS18.1 41 (by decide)
  have e6 : S12.1 54 41 = S7.1 54 41 := hS12.1 41 (by decide)
  have e7 : S7.1 54 41 = S2.1 54 41 := hS7.1 41 (by decide)
  have e8 : S2.1 54 41 = S.1 54 41 := hS2.1 41 (by decide)
  have e9 : S18.1 54 41 = S12.1 54 41 := hS18.1 41 (by decide)
  have e10 : S12.1 54 41 = S7.1 54 41 := hS12.1 41 (by decide)
  have e11 : S7.1 54 41 = S2.1 54 41 := hS7.1 41 (by decide)
  have e12 : S2.1 54 41 = S.1 54 41 := hS2.1 41 (by decide)
  refine tX11_blanksFrom (by omega) (by omega) (by omega) (fun r23 n23_0 n23_1 => ?_)
  refine ⟨by omega, ?_⟩
  have e13 : S18.1 54 41 = S12.1 54 41 := hS18.1 41 (by decide)
  have e14 : S12.1 54 41 = S7.1 54 41 := hS12.1 41 (by decide)
  have e15 : S7.1 54 41 = S2.1 54 41 := hS7.1 41 (by decide)
  have e16 : S2.1 54 41 = S.1 54 41 := hS2.1 41 (by decide)
  have e17 : S18.2 84 (r23) = S12.2 84 (r23) := congrFun (hS18.2 84 (by decide)) _
  have e18 : S12.2 84 (r23) = S7.2 84 (r23) := congrFun (hS12.2 84 (by decide)) _
  have e19 : S7.2 84 (r23) = S2.2 84 (r23) := congrFun (hS7.2 84 (by decide)) _
  have e20 : S2.2 84 (r23) = S.2 84 (r23) := congrFun (hS2.2 84 (by decide)) _
  have e21 : S18.1 54 41 = S12.1 54 41 := hS18.1 41 (by decide)
  have e22 : S12.1 54 41 = S7.1 54 41 := hS12.1 41 (by decide)
  have e23 : S7.1 54 41 = S2.1 54 41 := hS7.1 41 (by decide)
  have e24 : S2.1 54 41 = S.1 54 41 := hS2.1 41 (by decide)
  refine tX11_docAt (by omega) (fun r29 n29_0 n29_1 n29_2 => ?_)
  refine ⟨by omega, ?_⟩
  refine ⟨fun h34 => ?_, fun h34 => ?_⟩
  · unfold wX11_parse_51
    have e25 : S18.1 54 43 = S12.1 54 43 := hS18.1 43 (by decide)
    have e26 : S12.1 54 43 = S7.1 54 43 := hS12.1 43 (by decide)
    have e27 : S7.1 54 43 = S2.1 54 43 := hS7.1 43 (by decide)
    have e28 : S18.1 54 43 = S12.1 54 43 := hS18.1 43 (by decide)
    have e29 : S12.1 54 43 = S7.1 54 43 := hS12.1 43 (by decide)
    have e30 : S7.1 54 43 = S2.1 54 43 := hS7.1 43 (by decide)
    refine ⟨fun u1 u2 u3 u4 Sx => Ch [43, 51, 56, 59, 60] [85, 86, 87, 88, 89, 90, 91, 92, 93, 94, 95, 96, 97] S18 Sx ∧ (iv 0 3010 u1) ∧ (iv (-2) 199 u2) ∧ (u3 ≤ u1) ∧ (-u3 ≤ u1) ∧ (iv 0 1 u4) ∧ (PA Sx) ∧ (PR Sx) ∧ (PO Sx) ∧ (PE Sx u2) ∧ (PB Sx u1) ∧ (P1 Sx u1 u2) ∧ ((Sx.1 54 43) ≤ 200) ∧ (u4 = 1 ∨ 1 ≤ (Sx.1 54 43) ∨ -1 ≤ (Sx.1 54 59)), fun u1 u2 u3 u4 Sx => (2 * (3020 - u1) + min 1 (max 0 (-1 - (Sx.1 54 59)))).toNat, ?_, fun v51_1 v51_2 v51_3 v51_4 S51h hI => ?_⟩
    · exact ⟨Ch.re, by omega, by omega, by omega, by omega, by omega, (by
          unfold PA
          intro x
          have e31 : S18.1 54 51 = S12.1 54 51 := hS18.1 51 (by decide)
          have e32 : S12.1 54 51 = S7.1 54 51 := hS12.1 51 (by decide)
          omega), (by
          unfold PR
          intro x
          have e33 : S18.1 54 43 = S12.1 54 43 := hS18.1 43 (by decide)
          have e34 : S12.1 54 43 = S7.1 54 43 := hS12.1 43 (by decide)
          have e35 : S7.1 54 43 = S2.1 54 43 := hS7.1 43 (by decide)
          omega), (by
          unfold PO
          intro x
          have e36 : S18.1 54 43 = S12.1 54 43 := hS18.1 43 (by decide)
          have e37 : S12.1 54 43 = S7.1 54 43 := hS12.1 43 (by decide)
          have e38 : S7.1 54 43 = S2.1 54 43 := hS7.1 43 (by decide)
          omega), ⟨by omega, Or.inl rfl⟩, (by
          unfold PB
          have e39 : S18.1 54 41 = S12.1 54 41 := hS18.1 41 (by decide)
          have e40 : S12.1 54 41 = S7.1 54 41 := hS12.1 41 (by decide)
          have e41 : S7.1 54 41 = S2.1 54 41 := hS7.1 41 (by decide)
          have e42 : S2.1 54 41 = S.1 54 41 := hS2.1 41 (by decide)
          have e43 : S18.1 54 56 = S12.1 54 56 := hS18.1 56 (by decide)
          have e44 : S18.1 54 51 = S12.1 54 51 := hS18.1 51 (by decide)
          have e45 : S12.1 54 51 = S7.1 54 51 := hS12.1 51 (by decide)
          exact Or.inr ⟨by omega, by omega, by omega⟩), (by
          unfold P1
          refine Or.inr (Or.inr ⟨rfl, by omega, ?_⟩)
          have e84 : S18.2 84 = S.2 84 := ((Ch.tr (Ch.tr (Ch.tr hS2 hS7) hS12) hS18)).2 84 (by decide)
          omega), by omega, by omega⟩
    obtain ⟨hS51h, i51_0, i51_1, i51_2, i51_3, i51_4, i51_5, i51_6, i51_7, i51_8, i51_9, i51_10, i51_11, i51_12⟩ := hI
    unfold wX11_parse_51'
    refine ⟨by omega, ?_⟩
    refine ⟨fun h53 => ?_, fun h53 => ?_⟩
    · unfold wX11_parse_300
      intro q46
      refine ⟨fun h306 => ?_, fun h306 => ?_⟩
      · have hib : PB S51h (v51_1) := i51_9
        unfold PB at hib
        have hib := hib.resolve_left (by omega)
        refine ⟨by omega, ?_⟩
        have e47 : S51h.1 54 41 = S18.1 54 41 := hS51h.1 41 (by decide)
        have e48 : S18.1 54 41 = S12.1 54 41 := hS18.1 41 (by decide)
        have e49 : S12.1 54 41 = S7.1 54 41 := hS12.1 41 (by decide)
        have e50 : S7.1 54 41 = S2.1 54 41 := hS7.1 41 (by decide)
        have e51 : S2.1 54 41 = S.1 54 41 := hS2.1 41 (by decide)
        have e52 : S51h.1 54 41 = S18.1 54 41 := hS51h.1 41 (by decide)
        have e53 : S18.1 54 41 = S12.1 54 41 := hS18.1 41 (by decide)
        have e54 : S12.1 54 41 = S7.1 54 41 := hS12.1 41 (by decide)
        have e55 : S7.1 54 41 = S2.1 54 41 := hS7.1 41 (by decide)
        have e56 : S2.1 54 41 = S.1 54 41 := hS2.1 41 (by decide)
        have e57 : S51h.1 54 41 = S18.1 54 41 := hS51h.1 41 (by decide)
        have e58 : S18.1 54 41 = S12.1 54 41 := hS18.1 41 (by decide)
        have e59 : S12.1 54 41 = S7.1 54 41 := hS12.1 41 (by decide)
        have e60 : S7.1 54 41 = S2.1 54 41 := hS7.1 41 (by decide)
        have e61 : S2.1 54 41 = S.1 54 41 := hS2.1 41 (by decide)
        refine tX11_blanksFrom (by omega) (by omega) (by omega) (fun r312 n312_0 n312_1 => ?_)
        intro q62
        have e63 : S51h.1 54 41 = S18.1 54 41 := hS51h.1 41 (by decide)
        have e64 : S18.1 54 41 = S12.1 54 41 := hS18.1 41 (by decide)
        have e65 : S12.1 54 41 = S7.1 54 41 := hS12.1 41 (by decide)
        have e66 : S7.1 54 41 = S2.1 54 41 := hS7.1 41 (by decide)
        have e67 : S2.1 54 41 = S.1 54 41 := hS2.1 41 (by decide)
        refine ⟨by omega, ?_⟩
        refine ⟨fun h321 => ?_, fun h321 => ?_⟩
        · exact hK (0) S51h (Ch.wk (Ch.tr (Ch.tr (Ch.tr (Ch.tr hS2 hS7) hS12) hS18) hS51h) (by decide) (by decide)) i51_5 i51_6 i51_7 (by omega) (by omega) (by omega)
        · refine tX11_fail (by omega) (fun r326 S326 hS326 n326_0 => ?_)
          have e68 : S326.1 54 43 = S51h.1 54 43 := hS326.1 43 (by decide)
          have e69 : S326.1 54 43 = S51h.1 54 43 := hS326.1 43 (by decide)
          have e70 : S326.1 54 51 = S51h.1 54 51 := hS326.1 51 (by decide)
          have e71 : S326.1 54 56 = S51h.1 54 56 := hS326.1 56 (by decide)
          exact hK (0) S326 (Ch.wk (Ch.tr (Ch.tr (Ch.tr (Ch.tr (Ch.tr hS2 hS7) hS12) hS18) hS51h) hS326) (by decide) (by decide)) (PA.mv2 i51_5 ((hS326).1 51 (by decide)) ((hS326).1 56 (by decide)) ((hS326).2 92 (by decide)) ((hS326).2 93 (by decide)) ((hS326).2 94 (by decide)) ((hS326).2 95 (by decide))) (PR.mv i51_6 ((hS326).1 43 (by decide)) ((hS326).1 51 (by decide)) ((hS326).2 86 (by decide)) ((hS326).2 87 (by decide)) ((hS326).2 88 (by decide)) ((hS326).2 90 (by decide)) ((hS326).2 91 (by decide))) (PO.mv i51_7 ((hS326).1 43 (by decide)) ((hS326).2 88 (by decide))) (by omega) (by omega) (by omega)
      · exact hK (0) S51h (Ch.wk (Ch.tr (Ch.tr (Ch.tr (Ch.tr hS2 hS7) hS12) hS18) hS51h) (by decide) (by decide)) i51_5 i51_6 i51_7 (by omega) (by omega) (by omega)
    · intro q72
      refine ⟨fun h62 => ?_, fun h62 => ?_⟩
      · unfold wX11_parse_300
        intro q73
        refine ⟨fun h306 => ?_, fun h306 => ?_⟩
        · have hib : PB S51h (v51_1) := i51_9
          unfold PB at hib
          have hib := hib.resolve_left (by omega)
          refine ⟨by omega, ?_⟩
          have e74 : S51h.1 54 41 = S18.1 54 41 := hS51h.1 41 (by decide)
          have e75 : S18.1 54 41 = S12.1 54 41 := hS18.1 41 (by decide)
          have e76 : S12.1 54 41 = S7.1 54 41 := hS12.1 41 (by decide)
          have e77 : S7.1 54 41 = S2.1 54 41 := hS7.1 41 (by decide)
          have e78 : S2.1 54 41 = S.1 54 41 := hS2.1 41 (by decide)
          have e79 : S51h.1 54 41 = S18.1 54 41 := hS51h.1 41 (by decide)
          have e80 : S18.1 54 41 = S12.1 54 41 := hS18.1 41 (by decide)
          have e81 : S12.1 54 41 = S7.1 54 41 := hS12.1 41 (by decide)
          have e82 : S7.1 54 41 = S2.1 54 41 := hS7.1 41 (by decide)
          have e83 : S2.1 54 41 = S.1 54 41 := hS2.1 41 (by decide)
          have e84 : S51h.1 54 41 = S18.1 54 41 := hS51h.1 41 (by decide)
          have e85 : S18.1 54 41 = S12.1 54 41 := hS18.1 41 (by decide)
          have e86 : S12.1 54 41 = S7.1 54 41 := hS12.1 41 (by decide)
          have e87 : S7.1 54 41 = S2.1 54 41 := hS7.1 41 (by decide)
          have e88 : S2.1 54 41 = S.1 54 41 := hS2.1 41 (by decide)
          refine tX11_blanksFrom (by omega) (by omega) (by omega) (fun r312 n312_0 n312_1 => ?_)
          intro q89
          have e90 : S51h.1 54 41 = S18.1 54 41 := hS51h.1 41 (by decide)
          have e91 : S18.1 54 41 = S12.1 54 41 := hS18.1 41 (by decide)
          have e92 : S12.1 54 41 = S7.1 54 41 := hS12.1 41 (by decide)
          have e93 : S7.1 54 41 = S2.1 54 41 := hS7.1 41 (by decide)
          have e94 : S2.1 54 41 = S.1 54 41 := hS2.1 41 (by decide)
          refine ⟨by omega, ?_⟩
          refine ⟨fun h321 => ?_, fun h321 => ?_⟩
          · exact hK (0) S51h (Ch.wk (Ch.tr (Ch.tr (Ch.tr (Ch.tr hS2 hS7) hS12) hS18) hS51h) (by decide) (by decide)) i51_5 i51_6 i51_7 (by omega) (by omega) (by omega)
          · refine tX11_fail (by omega) (fun r326 S326 hS326 n326_0 => ?_)
            have e95 : S326.1 54 43 = S51h.1 54 43 := hS326.1 43 (by decide)
            have e96 : S326.1 54 43 = S51h.1 54 43 := hS326.1 43 (by decide)
            have e97 : S326.1 54 51 = S51h.1 54 51 := hS326.1 51 (by decide)
            have e98 : S326.1 54 56 = S51h.1 54 56 := hS326.1 56 (by decide)
            exact hK (0) S326 (Ch.wk (Ch.tr (Ch.tr (Ch.tr (Ch.tr (Ch.tr hS2 hS7) hS12) hS18) hS51h) hS326) (by decide) (by decide)) (PA.mv2 i51_5 ((hS326).1 51 (by decide)) ((hS326).1 56 (by decide)) ((hS326).2 92 (by decide)) ((hS326).2 93 (by decide)) ((hS326).2 94 (by decide)) ((hS326).2 95 (by decide))) (PR.mv i51_6 ((hS326).1 43 (by decide)) ((hS326).1 51 (by decide)) ((hS326).2 86 (by decide)) ((hS326).2 87 (by decide)) ((hS326).2 88 (by decide)) ((hS326).2 90 (by decide)) ((hS326).2 91 (by decide))) (PO.mv i51_7 ((hS326).1 43 (by decide)) ((hS326).2 88 (by decide))) (by omega) (by omega) (by omega)
        · exact hK (0) S51h (Ch.wk (Ch.tr (Ch.tr (Ch.tr (Ch.tr hS2 hS7) hS12) hS18) hS51h) (by decide) (by decide)) i51_5 i51_6 i51_7 (by omega) (by omega) (by omega)
      · have hib : PB S51h (v51_1) := i51_9
        unfold PB at hib
        have hib := hib.resolve_left (by omega)
        have hE : PE S51h (v51_2) := i51_8
        have hE1 := hE.1
        have h1 : P1 S51h (v51_1) (v51_2) := i51_10
        unfold P1 at h1
        refine ⟨by omega, ?_⟩
        have e99 : S51h.1 54 41 = S18.1 54 41 := hS51h.1 41 (by decide)
        have e100 : S18.1 54 41 = S12.1 54 41 := hS18.1 41 (by decide)
        have e101 : S12.1 54 41 = S7.1 54 41 := hS12.1 41 (by decide)
        have e102 : S7.1 54 41 = S2.1 54 41 := hS7.1 41 (by decide)
        have e103 : S2.1 54 41 = S.1 54 41 := hS2.1 41 (by decide)
        have e104 : S51h.2 84 (v51_1) = S18.2 84 (v51_1) := congrFun (hS51h.2 84 (by decide)) _
        have e105 : S18.2 84 (v51_1) = S12.2 84 (v51_1) := congrFun (hS18.2 84 (by decide)) _
        have e106 : S12.2 84 (v51_1) = S7.2 84 (v51_1) := congrFun (hS12.2 84 (by decide)) _
        have e107 : S7.2 84 (v51_1) = S2.2 84 (v51_1) := congrFun (hS7.2 84 (by decide)) _
        have e108 : S2.2 84 (v51_1) = S.2 84 (v51_1) := congrFun (hS2.2 84 (by decide)) _
        have e109 : S51h.1 54 41 = S18.1 54 41 := hS51h.1 41 (by decide)
        have e110 : S18.1 54 41 = S12.1 54 41 := hS18.1 41 (by decide)
        have e111 : S12.1 54 41 = S7.1 54 41 := hS12.1 41 (by decide)
        have e112 : S7.1 54 41 = S2.1 54 41 := hS7.1 41 (by decide)
        have e113 : S2.1 54 41 = S.1 54 41 := hS2.1 41 (by decide)
        refine tX11_docAt (by omega) (fun r67 n67_0 n67_1 n67_2 => ?_)
        refine ⟨by omega, ?_⟩
        have e114 : S51h.1 54 41 = S18.1 54 41 := hS51h.1 41 (by decide)
        have e115 : S18.1 54 41 = S12.1 54 41 := hS18.1 41 (by decide)
        have e116 : S12.1 54 41 = S7.1 54 41 := hS12.1 41 (by decide)
        have e117 : S7.1 54 41 = S2.1 54 41 := hS7.1 41 (by decide)
        have e118 : S2.1 54 41 = S.1 54 41 := hS2.1 41 (by decide)
        have e119 : S51h.2 84 ((v51_1 + 1)) = S18.2 84 ((v51_1 + 1)) := congrFun (hS51h.2 84 (by decide)) _
        have e120 : S18.2 84 ((v51_1 + 1)) = S12.2 84 ((v51_1 + 1)) := congrFun (hS18.2 84 (by decide)) _
        have e121 : S12.2 84 ((v51_1 + 1)) = S7.2 84 ((v51_1 + 1)) := congrFun (hS12.2 84 (by decide)) _
        have e122 : S7.2 84 ((v51_1 + 1)) = S2.2 84 ((v51_1 + 1)) := congrFun (hS7.2 84 (by decide)) _
        have e123 : S2.2 84 ((v51_1 + 1)) = S.2 84 ((v51_1 + 1)) := congrFun (hS2.2 84 (by decide)) _
        have e124 : S51h.1 54 41 = S18.1 54 41 := hS51h.1 41 (by decide)
        have e125 : S18.1 54 41 = S12.1 54 41 := hS18.1 41 (by decide)
        have e126 : S12.1 54 41 = S7.1 54 41 := hS12.1 41 (by decide)
        have e127 : S7.1 54 41 = S2.1 54 41 := hS7.1 41 (by decide)
        have e128 : S2.1 54 41 = S.1 54 41 := hS2.1 41 (by decide)
        refine tX11_docAt (by omega) (fun r76 n76_0 n76_1 n76_2 => ?_)
        refine ⟨by omega, ?_⟩
        refine ⟨fun h84 => ?_, fun h84 => ?_⟩
        · unfold wX11_parse_97
          unfold wX11_parse_102
          refine ⟨by omega, ?_⟩
          refine ⟨fun h106 => ?_, fun h106 => ?_⟩
          · refine ⟨fun h121 => ?_, fun h121 => ?_⟩
            · refine ⟨fun h138 => ?_, fun h138 => ?_⟩
              · refine ⟨by omega, ?_⟩
                refine ⟨fun h158 => ?_, fun h158 => ?_⟩
                · unfold wX11_parse_200
                  refine ⟨by omega, ?_⟩
                  refine ⟨fun h204 => ?_, fun h204 => ?_⟩
                  · unfold wX11_parse_225
                    refine ⟨by omega, ?_⟩
                    refine ⟨fun h227 => ?_, fun h227 => ?_⟩
                    · intro S240 hS240e
                      have hS240 : Ch [60] [] S51h S240 := Ch_I hS240e
                      have hS240v : S240.1 54 60 = 0 := pI_at hS240e
                      refine ⟨by omega, ?_⟩
                      refine ⟨by omega, ?_⟩
                      refine ⟨by omega, ?_⟩
                      have e129 : S240.1 54 41 = S51h.1 54 41 := hS240.1 41 (by decide)
                      have e130 : S51h.1 54 41 = S18.1 54 41 := hS51h.1 41 (by decide)
                      have e131 : S18.1 54 41 = S12.1 54 41 := hS18.1 41 (by decide)
                      have e132 : S12.1 54 41 = S7.1 54 41 := hS12.1 41 (by decide)
                      have e133 : S7.1 54 41 = S2.1 54 41 := hS7.1 41 (by decide)
                      have e134 : S2.1 54 41 = S.1 54 41 := hS2.1 41 (by decide)
                      have e135 : S240.1 54 41 = S51h.1 54 41 := hS240.1 41 (by decide)
                      have e136 : S51h.1 54 41 = S18.1 54 41 := hS51h.1 41 (by decide)
                      have e137 : S18.1 54 41 = S12.1 54 41 := hS18.1 41 (by decide)
                      have e138 : S12.1 54 41 = S7.1 54 41 := hS12.1 41 (by decide)
                      have e139 : S7.1 54 41 = S2.1 54 41 := hS7.1 41 (by decide)
                      have e140 : S2.1 54 41 = S.1 54 41 := hS2.1 41 (by decide)
                      have e141 : S240.1 54 56 = S51h.1 54 56 := hS240.1 56 (by decide)
                      have e142 : S240.1 54 51 = S51h.1 54 51 := hS240.1 51 (by decide)
                      have e143 : S240.1 54 43 = S51h.1 54 43 := hS240.1 43 (by decide)
                      have e144 : S240.1 54 43 = S51h.1 54 43 := hS240.1 43 (by decide)
                      refine tX11_beginTag (by omega) (by omega) (by omega) (by omega) (by omega) (by omega) (PA.mv2 i51_5 ((hS240).1 51 (by decide)) ((hS240).1 56 (by decide)) ((hS240).2 92 (by decide)) ((hS240).2 93 (by decide)) ((hS240).2 94 (by decide)) ((hS240).2 95 (by decide))) (PR.mv i51_6 ((hS240).1 43 (by decide)) ((hS240).1 51 (by decide)) ((hS240).2 86 (by decide)) ((hS240).2 87 (by decide)) ((hS240).2 88 (by decide)) ((hS240).2 90 (by decide)) ((hS240).2 91 (by decide))) (PO.mv i51_7 ((hS240).1 43 (by decide)) ((hS240).2 88 (by decide))) (PE.mv i51_8 ((hS240).1 43 (by decide)) ((hS240).2 88 (by decide))) (by omega) (fun r247 S247 hS247 n247_0 n247_1 n247_2 n247_3 n247_4 n247_5 n247_6 n247_7 => ?_)
                      have hbr : (S247.1 54 43 = S240.1 54 43 + 1 ∧ S247.2 88 (S240.1 54 43) = v51_2) ∨ S247.1 54 43 = S240.1 54 43 := by
                        rcases n247_5 with h | h
                        · exact Or.inl h
                        · exact Or.inr h.1
                      intro q145
                      refine ⟨fun h255 => ?_, fun h255 => ?_⟩
                      · unfold wX11_parse_265
                        intro q146
                        refine ⟨fun h270 => ?_, fun h270 => ?_⟩
                        · unfold wX11_parse_283
                          refine ⟨by omega, ?_⟩
                          refine ⟨fun h287 => ?_, fun h287 => ?_⟩
                          · unfold wX11_parse_295
                            unfold wX11_parse_297
                            exact ⟨⟨(Ch.wk (Ch.tr (Ch.tr hS51h hS240) hS247) (by decide) (by decide)), by omega, by omega, by omega, by omega, by omega, n247_2, n247_3, n247_4, (PE_new (PE.mv i51_8 (hS240.1 43 (by decide)) (hS240.2 88 (by decide))) hbr n247_6), n247_7, (n247_5.elim (fun h => Or.inl (by omega)) (fun h => Or.inr (Or.inl (by omega)))), by omega, by omega⟩, show (2 * (3020 - r247) + min 1 (max 0 (-1 - (S247.1 54 59)))).toNat < (2 * (3020 - v51_1) + min 1 (max 0 (-1 - (S51h.1 54 59)))).toNat by omega⟩
                          · unfold wX11_parse_295
                            unfold wX11_parse_297
                            exact ⟨⟨(Ch.wk (Ch.tr (Ch.tr hS51h hS240) hS247) (by decide) (by decide)), by omega, by omega, by omega, by omega, by omega, n247_2, n247_3, n247_4, (PE_new (PE.mv i51_8 (hS240.1 43 (by decide)) (hS240.2 88 (by decide))) hbr n247_6), n247_7, (n247_5.elim (fun h => Or.inl (by omega)) (fun h => Or.inr (Or.inl (by omega)))), by omega, by omega⟩, show (2 * (3020 - r247) + min 1 (max 0 (-1 - (S247.1 54 59)))).toNat < (2 * (3020 - v51_1) + min 1 (max 0 (-1 - (S51h.1 54 59)))).toNat by omega⟩
                        · intro q147
                          unfold wX11_parse_283
                          refine ⟨by omega, ?_⟩
                          refine ⟨fun h287 => ?_, fun h287 => ?_⟩
                          · unfold wX11_parse_295
                            unfold wX11_parse_297
                            exact ⟨⟨(Ch.wk (Ch.tr (Ch.tr hS51h hS240) hS247) (by decide) (by decide)), by omega, by omega, by omega, by omega, by omega, n247_2, n247_3, n247_4, (PE_last (by omega)), n247_7, (n247_5.elim (fun h => Or.inl (by omega)) (fun h => Or.inr (Or.inl (by omega)))), by omega, by omega⟩, show (2 * (3020 - r247) + min 1 (max 0 (-1 - (S247.1 54 59)))).toNat < (2 * (3020 - v51_1) + min 1 (max 0 (-1 - (S51h.1 54 59)))).toNat by omega⟩
                          · unfold wX11_parse_295
                            unfold wX11_parse_297
                            exact ⟨⟨(Ch.wk (Ch.tr (Ch.tr hS51h hS240) hS247) (by decide) (by decide)), by omega, by omega, by omega, by omega, by omega, n247_2, n247_3, n247_4, (PE_last (by omega)), n247_7, (n247_5.elim (fun h => Or.inl (by omega)) (fun h => Or.inr (Or.inl (by omega)))), by omega, by omega⟩, show (2 * (3020 - r247) + min 1 (max 0 (-1 - (S247.1 54 59)))).toNat < (2 * (3020 - v51_1) + min 1 (max 0 (-1 - (S51h.1 54 59)))).toNat by omega⟩
                      · unfold wX11_parse_265
                        intro q148
                        refine ⟨fun h270 => ?_, fun h270 => ?_⟩
                        · unfold wX11_parse_283
                          refine ⟨by omega, ?_⟩
                          refine ⟨fun h287 => ?_, fun h287 => ?_⟩
                          · unfold wX11_parse_295
                            unfold wX11_parse_297
                            exact ⟨⟨(Ch.wk (Ch.tr (Ch.tr hS51h hS240) hS247) (by decide) (by decide)), by omega, by omega, by omega, by omega, by omega, n247_2, n247_3, n247_4, (PE_new (PE.mv i51_8 (hS240.1 43 (by decide)) (hS240.2 88 (by decide))) hbr n247_6), n247_7, (n247_5.elim (fun h => Or.inl (by omega)) (fun h => Or.inr (Or.inl (by omega)))), by omega, by omega⟩, show (2 * (3020 - r247) + min 1 (max 0 (-1 - (S247.1 54 59)))).toNat < (2 * (3020 - v51_1) + min 1 (max 0 (-1 - (S51h.1 54 59)))).toNat by omega⟩
                          · unfold wX11_parse_295
                            unfold wX11_parse_297
                            exact ⟨⟨(Ch.wk (Ch.tr (Ch.tr hS51h hS240) hS247) (by decide) (by decide)), by omega, by omega, by omega, by omega, by omega, n247_2, n247_3, n247_4, (PE_new (PE.mv i51_8 (hS240.1 43 (by decide)) (hS240.2 88 (by decide))) hbr n247_6), n247_7, (n247_5.elim (fun h => Or.inl (by omega)) (fun h => Or.inr (Or.inl (by omega)))), by omega, by omega⟩, show (2 * (3020 - r247) + min 1 (max 0 (-1 - (S247.1 54 59)))).toNat < (2 * (3020 - v51_1) + min 1 (max 0 (-1 - (S51h.1 54 59)))).toNat by omega⟩
                        · intro q149
                          unfold wX11_parse_283
                          refine ⟨by omega, ?_⟩
                          refine ⟨fun h287 => ?_, fun h287 => ?_⟩
                          · unfold wX11_parse_295
                            unfold wX11_parse_297
                            exact ⟨⟨(Ch.wk (Ch.tr (Ch.tr hS51h hS240) hS247) (by decide) (by decide)), by omega, by omega, by omega, by omega, by omega, n247_2, n247_3, n247_4, (PE_last (by omega)), n247_7, (n247_5.elim (fun h => Or.inl (by omega)) (fun h => Or.inr (Or.inl (by omega)))), by omega, by omega⟩, show (2 * (3020 - r247) + min 1 (max 0 (-1 - (S247.1 54 59)))).toNat < (2 * (3020 - v51_1) + min 1 (max 0 (-1 - (S51h.1 54 59)))).toNat by omega⟩
                          · unfold wX11_parse_295
                            unfold wX11_parse_297
                            exact ⟨⟨(Ch.wk (Ch.tr (Ch.tr hS51h hS240) hS247) (by decide) (by decide)), by omega, by omega, by omega, by omega, by omega, n247_2, n247_3, n247_4, (PE_last (by omega)), n247_7, (n247_5.elim (fun h => Or.inl (by omega)) (fun h => Or.inr (Or.inl (by omega)))), by omega, by omega⟩, show (2 * (3020 - r247) + min 1 (max 0 (-1 - (S247.1 54 59)))).toNat < (2 * (3020 - v51_1) + min 1 (max 0 (-1 - (S51h.1 54 59)))).toNat by omega⟩
                    · refine ⟨by omega, ?_⟩
                      refine tX11_fail (by omega) (fun r232 S232 hS232 n232_0 => ?_)
                      unfold wX11_parse_297
                      have e150 : S232.1 54 43 = S51h.1 54 43 := hS232.1 43 (by decide)
                      have e151 : S232.1 54 43 = S51h.1 54 43 := hS232.1 43 (by decide)
                      exact ⟨⟨(Ch.wk (Ch.tr hS51h hS232) (by decide) (by decide)), by omega, by omega, by omega, by omega, by omega, (PA.mv i51_5 ((hS232).1 51 (by decide)) (by have e152 : S232.1 54 56 = S51h.1 54 56 := hS232.1 56 (by decide); omega) ((hS232).2 92 (by decide)) ((hS232).2 93 (by decide)) ((hS232).2 94 (by decide)) ((hS232).2 95 (by decide))), (PR.mv i51_6 ((hS232).1 43 (by decide)) ((hS232).1 51 (by decide)) ((hS232).2 86 (by decide)) ((hS232).2 87 (by decide)) ((hS232).2 88 (by decide)) ((hS232).2 90 (by decide)) ((hS232).2 91 (by decide))), (PO.mv i51_7 ((hS232).1 43 (by decide)) ((hS232).2 88 (by decide))), (PE.mv i51_8 ((hS232).1 43 (by decide)) ((hS232).2 88 (by decide))), (by
                            unfold PB
                            have e153 : S232.1 54 41 = S51h.1 54 41 := hS232.1 41 (by decide)
                            have e154 : S51h.1 54 41 = S18.1 54 41 := hS51h.1 41 (by decide)
                            have e155 : S18.1 54 41 = S12.1 54 41 := hS18.1 41 (by decide)
                            have e156 : S12.1 54 41 = S7.1 54 41 := hS12.1 41 (by decide)
                            have e157 : S7.1 54 41 = S2.1 54 41 := hS7.1 41 (by decide)
                            have e158 : S2.1 54 41 = S.1 54 41 := hS2.1 41 (by decide)
                            have e159 : S232.1 54 56 = S51h.1 54 56 := hS232.1 56 (by decide)
                            have e160 : S232.1 54 51 = S51h.1 54 51 := hS232.1 51 (by decide)
                            first
                            | exact Or.inl (by omega)
                            | exact (Classical.em (-1 ≤ S232.1 54 59)).elim (fun hb => Or.inl hb) (fun hb => Or.inr ⟨by omega, by omega, by omega⟩)), (by
                            unfold P1
                            have e161 : S232.1 54 43 = S51h.1 54 43 := hS232.1 43 (by decide)
                            first | exact Or.inr (Or.inl (by omega)) | exact Or.inl (by omega)), by omega, by omega⟩, show (2 * (3020 - v51_1) + min 1 (max 0 (-1 - (S232.1 54 59)))).toNat < (2 * (3020 - v51_1) + min 1 (max 0 (-1 - (S51h.1 54 59)))).toNat by omega⟩
                  · refine ⟨by omega, ?_⟩
                    refine ⟨fun h210 => ?_, fun h210 => ?_⟩
                    · unfold wX11_parse_225
                      refine ⟨by omega, ?_⟩
                      refine ⟨fun h227 => ?_, fun h227 => ?_⟩
                      · intro S240 hS240e
                        have hS240 : Ch [60] [] S51h S240 := Ch_I hS240e
                        have hS240v : S240.1 54 60 = 0 := pI_at hS240e
                        refine ⟨by omega, ?_⟩
                        refine ⟨by omega, ?_⟩
                        refine ⟨by omega, ?_⟩
                        have e162 : S240.1 54 41 = S51h.1 54 41 := hS240.1 41 (by decide)
                        have e163 : S51h.1 54 41 = S18.1 54 41 := hS51h.1 41 (by decide)
                        have e164 : S18.1 54 41 = S12.1 54 41 := hS18.1 41 (by decide)
                        have e165 : S12.1 54 41 = S7.1 54 41 := hS12.1 41 (by decide)
                        have e166 : S7.1 54 41 = S2.1 54 41 := hS7.1 41 (by decide)
                        have e167 : S2.1 54 41 = S.1 54 41 := hS2.1 41 (by decide)
                        have e168 : S240.1 54 41 = S51h.1 54 41 := hS240.1 41 (by decide)
                        have e169 : S51h.1 54 41 = S18.1 54 41 := hS51h.1 41 (by decide)
                        have e170 : S18.1 54 41 = S12.1 54 41 := hS18.1 41 (by decide)
                        have e171 : S12.1 54 41 = S7.1 54 41 := hS12.1 41 (by decide)
                        have e172 : S7.1 54 41 = S2.1 54 41 := hS7.1 41 (by decide)
                        have e173 : S2.1 54 41 = S.1 54 41 := hS2.1 41 (by decide)
                        have e174 : S240.1 54 56 = S51h.1 54 56 := hS240.1 56 (by decide)
                        have e175 : S240.1 54 51 = S51h.1 54 51 := hS240.1 51 (by decide)
                        have e176 : S240.1 54 43 = S51h.1 54 43 := hS240.1 43 (by decide)
                        have e177 : S240.1 54 43 = S51h.1 54 43 := hS240.1 43 (by decide)
                        refine tX11_beginTag (by omega) (by omega) (by omega) (by omega) (by omega) (by omega) (PA.mv2 i51_5 ((hS240).1 51 (by decide)) ((hS240).1 56 (by decide)) ((hS240).2 92 (by decide)) ((hS240).2 93 (by decide)) ((hS240).2 94 (by decide)) ((hS240).2 95 (by decide))) (PR.mv i51_6 ((hS240).1 43 (by decide)) ((hS240).1 51 (by decide)) ((hS240).2 86 (by decide)) ((hS240).2 87 (by decide)) ((hS240).2 88 (by decide)) ((hS240).2 90 (by decide)) ((hS240).2 91 (by decide))) (PO.mv i51_7 ((hS240).1 43 (by decide)) ((hS240).2 88 (by decide))) (PE.mv i51_8 ((hS240).1 43 (by decide)) ((hS240).2 88 (by decide))) (by omega) (fun r247 S247 hS247 n247_0 n247_1 n247_2 n247_3 n247_4 n247_5 n247_6 n247_7 => ?_)
                        have hbr : (S247.1 54 43 = S240.1 54 43 + 1 ∧ S247.2 88 (S240.1 54 43) = v51_2) ∨ S247.1 54 43 = S240.1 54 43 := by
                          rcases n247_5 with h | h
                          · exact Or.inl h
                          · exact Or.inr h.1
                        intro q178
                        refine ⟨fun h255 => ?_, fun h255 => ?_⟩
                        · unfold wX11_parse_265
                          intro q179
                          refine ⟨fun h270 => ?_, fun h270 => ?_⟩
                          · unfold wX11_parse_283
                            refine ⟨by omega, ?_⟩
                            refine ⟨fun h287 => ?_, fun h287 => ?_⟩
                            · unfold wX11_parse_295
                              unfold wX11_parse_297
                              exact ⟨⟨(Ch.wk (Ch.tr (Ch.tr hS51h hS240) hS247) (by decide) (by decide)), by omega, by omega, by omega, by omega, by omega, n247_2, n247_3, n247_4, (PE_new (PE.mv i51_8 (hS240.1 43 (by decide)) (hS240.2 88 (by decide))) hbr n247_6), n247_7, (n247_5.elim (fun h => Or.inl (by omega)) (fun h => Or.inr (Or.inl (by omega)))), by omega, by omega⟩, show (2 * (3020 - r247) + min 1 (max 0 (-1 - (S247.1 54 59)))).toNat < (2 * (3020 - v51_1) + min 1 (max 0 (-1 - (S51h.1 54 59)))).toNat by omega⟩
                            · unfold wX11_parse_295
                              unfold wX11_parse_297
                              exact ⟨⟨(Ch.wk (Ch.tr (Ch.tr hS51h hS240) hS247) (by decide) (by decide)), by omega, by omega, by omega, by omega, by omega, n247_2, n247_3, n247_4, (PE_new (PE.mv i51_8 (hS240.1 43 (by decide)) (hS240.2 88 (by decide))) hbr n247_6), n247_7, (n247_5.elim (fun h => Or.inl (by omega)) (fun h => Or.inr (Or.inl (by omega)))), by omega, by omega⟩, show (2 * (3020 - r247) + min 1 (max 0 (-1 - (S247.1 54 59)))).toNat < (2 * (3020 - v51_1) + min 1 (max 0 (-1 - (S51h.1 54 59)))).toNat by omega⟩
                          · intro q180
                            unfold wX11_parse_283
                            refine ⟨by omega, ?_⟩
                            refine ⟨fun h287 => ?_, fun h287 => ?_⟩
                            · unfold wX11_parse_295
                              unfold wX11_parse_297
                              exact ⟨⟨(Ch.wk (Ch.tr (Ch.tr hS51h hS240) hS247) (by decide) (by decide)), by omega, by omega, by omega, by omega, by omega, n247_2, n247_3, n247_4, (PE_last (by omega)), n247_7, (n247_5.elim (fun h => Or.inl (by omega)) (fun h => Or.inr (Or.inl (by omega)))), by omega, by omega⟩, show (2 * (3020 - r247) + min 1 (max 0 (-1 - (S247.1 54 59)))).toNat < (2 * (3020 - v51_1) + min 1 (max 0 (-1 - (S51h.1 54 59)))).toNat by omega⟩
                            · unfold wX11_parse_295
                              unfold wX11_parse_297
                              exact ⟨⟨(Ch.wk (Ch.tr (Ch.tr hS51h hS240) hS247) (by decide) (by decide)), by omega, by omega, by omega, by omega, by omega, n247_2, n247_3, n247_4, (PE_last (by omega)), n247_7, (n247_5.elim (fun h => Or.inl (by omega)) (fun h => Or.inr (Or.inl (by omega)))), by omega, by omega⟩, show (2 * (3020 - r247) + min 1 (max 0 (-1 - (S247.1 54 59)))).toNat < (2 * (3020 - v51_1) + min 1 (max 0 (-1 - (S51h.1 54 59)))).toNat by omega⟩
                        · unfold wX11_parse_265
                          intro q181
                          refine ⟨fun h270 => ?_, fun h270 => ?_⟩
                          · unfold wX11_parse_283
                            refine ⟨by omega, ?_⟩
                            refine ⟨fun h287 => ?_, fun h287 => ?_⟩
                            · unfold wX11_parse_295
                              unfold wX11_parse_297
                              exact ⟨⟨(Ch.wk (Ch.tr (Ch.tr hS51h hS240) hS247) (by decide) (by decide)), by omega, by omega, by omega, by omega, by omega, n247_2, n247_3, n247_4, (PE_new (PE.mv i51_8 (hS240.1 43 (by decide)) (hS240.2 88 (by decide))) hbr n247_6), n247_7, (n247_5.elim (fun h => Or.inl (by omega)) (fun h => Or.inr (Or.inl (by omega)))), by omega, by omega⟩, show (2 * (3020 - r247) + min 1 (max 0 (-1 - (S247.1 54 59)))).toNat < (2 * (3020 - v51_1) + min 1 (max 0 (-1 - (S51h.1 54 59)))).toNat by omega⟩
                            · unfold wX11_parse_295
                              unfold wX11_parse_297
                              exact ⟨⟨(Ch.wk (Ch.tr (Ch.tr hS51h hS240) hS247) (by decide) (by decide)), by omega, by omega, by omega, by omega, by omega, n247_2, n247_3, n247_4, (PE_new (PE.mv i51_8 (hS240.1 43 (by decide)) (hS240.2 88 (by decide))) hbr n247_6), n247_7, (n247_5.elim (fun h => Or.inl (by omega)) (fun h => Or.inr (Or.inl (by omega)))), by omega, by omega⟩, show (2 * (3020 - r247) + min 1 (max 0 (-1 - (S247.1 54 59)))).toNat < (2 * (3020 - v51_1) + min 1 (max 0 (-1 - (S51h.1 54 59)))).toNat by omega⟩
                          · intro q182
                            unfold wX11_parse_283
                            refine ⟨by omega, ?_⟩
                            refine ⟨fun h287 => ?_, fun h287 => ?_⟩
                            · unfold wX11_parse_295
                              unfold wX11_parse_297
                              exact ⟨⟨(Ch.wk (Ch.tr (Ch.tr hS51h hS240) hS247) (by decide) (by decide)), by omega, by omega, by omega, by omega, by omega, n247_2, n247_3, n247_4, (PE_last (by omega)), n247_7, (n247_5.elim (fun h => Or.inl (by omega)) (fun h => Or.inr (Or.inl (by omega)))), by omega, by omega⟩, show (2 * (3020 - r247) + min 1 (max 0 (-1 - (S247.1 54 59)))).toNat < (2 * (3020 - v51_1) + min 1 (max 0 (-1 - (S51h.1 54 59)))).toNat by omega⟩
                            · unfold wX11_parse_295
                              unfold wX11_parse_297
                              exact ⟨⟨(Ch.wk (Ch.tr (Ch.tr hS51h hS240) hS247) (by decide) (by decide)), by omega, by omega, by omega, by omega, by omega, n247_2, n247_3, n247_4, (PE_last (by omega)), n247_7, (n247_5.elim (fun h => Or.inl (by omega)) (fun h => Or.inr (Or.inl (by omega)))), by omega, by omega⟩, show (2 * (3020 - r247) + min 1 (max 0 (-1 - (S247.1 54 59)))).toNat < (2 * (3020 - v51_1) + min 1 (max 0 (-1 - (S51h.1 54 59)))).toNat by omega⟩
                      · refine ⟨by omega, ?_⟩
                        refine tX11_fail (by omega) (fun r232 S232 hS232 n232_0 => ?_)
                        unfold wX11_parse_297
                        have e183 : S232.1 54 43 = S51h.1 54 43 := hS232.1 43 (by decide)
                        have e184 : S232.1 54 43 = S51h.1 54 43 := hS232.1 43 (by decide)
                        exact ⟨⟨(Ch.wk (Ch.tr hS51h hS232) (by decide) (by decide)), by omega, by omega, by omega, by omega, by omega, (PA.mv i51_5 ((hS232).1 51 (by decide)) (by have e185 : S232.1 54 56 = S51h.1 54 56 := hS232.1 56 (by decide); omega) ((hS232).2 92 (by decide)) ((hS232).2 93 (by decide)) ((hS232).2 94 (by decide)) ((hS232).2 95 (by decide))), (PR.mv i51_6 ((hS232).1 43 (by decide)) ((hS232).1 51 (by decide)) ((hS232).2 86 (by decide)) ((hS232).2 87 (by decide)) ((hS232).2 88 (by decide)) ((hS232).2 90 (by decide)) ((hS232).2 91 (by decide))), (PO.mv i51_7 ((hS232).1 43 (by decide)) ((hS232).2 88 (by decide))), (PE.mv i51_8 ((hS232).1 43 (by decide)) ((hS232).2 88 (by decide))), (by
                              unfold PB
                              have e186 : S232.1 54 41 = S51h.1 54 41 := hS232.1 41 (by decide)
                              have e187 : S51h.1 54 41 = S18.1 54 41 := hS51h.1 41 (by decide)
                              have e188 : S18.1 54 41 = S12.1 54 41 := hS18.1 41 (by decide)
                              have e189 : S12.1 54 41 = S7.1 54 41 := hS12.1 41 (by decide)
                              have e190 : S7.1 54 41 = S2.1 54 41 := hS7.1 41 (by decide)
                              have e191 : S2.1 54 41 = S.1 54 41 := hS2.1 41 (by decide)
                              have e192 : S232.1 54 56 = S51h.1 54 56 := hS232.1 56 (by decide)
                              have e193 : S232.1 54 51 = S51h.1 54 51 := hS232.1 51 (by decide)
                              first
                              | exact Or.inl (by omega)
                              | exact (Classical.em (-1 ≤ S232.1 54 59)).elim (fun hb => Or.inl hb) (fun hb => Or.inr ⟨by omega, by omega, by omega⟩)), (by
                              unfold P1
                              have e194 : S232.1 54 43 = S51h.1 54 43 := hS232.1 43 (by decide)
                              first | exact Or.inr (Or.inl (by omega)) | exact Or.inl (by omega)), by omega, by omega⟩, show (2 * (3020 - v51_1) + min 1 (max 0 (-1 - (S232.1 54 59)))).toNat < (2 * (3020 - v51_1) + min 1 (max 0 (-1 - (S51h.1 54 59)))).toNat by omega⟩
                    · refine ⟨by omega, ?_⟩
                      refine ⟨by omega, ?_⟩
                      have e195 : S51h.1 54 41 = S18.1 54 41 := hS51h.1 41 (by decide)
                      have e196 : S18.1 54 41 = S12.1 54 41 := hS18.1 41 (by decide)
                      have e197 : S12.1 54 41 = S7.1 54 41 := hS12.1 41 (by decide)
                      have e198 : S7.1 54 41 = S2.1 54 41 := hS7.1 41 (by decide)
                      have e199 : S2.1 54 41 = S.1 54 41 := hS2.1 41 (by decide)
                      have e200 : S51h.1 54 41 = S18.1 54 41 := hS51h.1 41 (by decide)
                      have e201 : S18.1 54 41 = S12.1 54 41 := hS18.1 41 (by decide)
                      have e202 : S12.1 54 41 = S7.1 54 41 := hS12.1 41 (by decide)
                      have e203 : S7.1 54 41 = S2.1 54 41 := hS7.1 41 (by decide)
                      have e204 : S2.1 54 41 = S.1 54 41 := hS2.1 41 (by decide)
                      have e205 : S51h.1 54 41 = S18.1 54 41 := hS51h.1 41 (by decide)
                      have e206 : S18.1 54 41 = S12.1 54 41 := hS18.1 41 (by decide)
                      have e207 : S12.1 54 41 = S7.1 54 41 := hS12.1 41 (by decide)
                      have e208 : S7.1 54 41 = S2.1 54 41 := hS7.1 41 (by decide)
                      have e209 : S2.1 54 41 = S.1 54 41 := hS2.1 41 (by decide)
                      refine tX11_section (by omega) (by omega) (by omega) (by omega) (by omega) (by omega) (fun r218 S218 hS218 n218_0 n218_1 n218_2 n218_3 => ?_)
                      unfold wX11_parse_297
                      have e210 : S218.1 54 43 = S51h.1 54 43 := hS218.1 43 (by decide)
                      have e211 : S218.1 54 43 = S51h.1 54 43 := hS218.1 43 (by decide)
                      exact ⟨⟨(Ch.wk (Ch.tr hS51h hS218) (by decide) (by decide)), by omega, by omega, by omega, by omega, by omega, (PA.mv i51_5 ((hS218).1 51 (by decide)) (by omega) ((hS218).2 92 (by decide)) ((hS218).2 93 (by decide)) ((hS218).2 94 (by decide)) ((hS218).2 95 (by decide))), (PR.mv i51_6 ((hS218).1 43 (by decide)) ((hS218).1 51 (by decide)) ((hS218).2 86 (by decide)) ((hS218).2 87 (by decide)) ((hS218).2 88 (by decide)) ((hS218).2 90 (by decide)) ((hS218).2 91 (by decide))), (PO.mv i51_7 ((hS218).1 43 (by decide)) ((hS218).2 88 (by decide))), (PE.mv i51_8 ((hS218).1 43 (by decide)) ((hS218).2 88 (by decide))), (by
                            unfold PB
                            have e212 : S218.1 54 41 = S51h.1 54 41 := hS218.1 41 (by decide)
                            have e213 : S51h.1 54 41 = S18.1 54 41 := hS51h.1 41 (by decide)
                            have e214 : S18.1 54 41 = S12.1 54 41 := hS18.1 41 (by decide)
                            have e215 : S12.1 54 41 = S7.1 54 41 := hS12.1 41 (by decide)
                            have e216 : S7.1 54 41 = S2.1 54 41 := hS7.1 41 (by decide)
                            have e217 : S2.1 54 41 = S.1 54 41 := hS2.1 41 (by decide)
                            have e218 : S218.1 54 51 = S51h.1 54 51 := hS218.1 51 (by decide)
                            first
                            | exact Or.inl (by omega)
                            | exact (Classical.em (-1 ≤ S218.1 54 59)).elim (fun hb => Or.inl hb) (fun hb => Or.inr ⟨by omega, by omega, by omega⟩)), (by
                            unfold P1
                            have e219 : S218.1 54 43 = S51h.1 54 43 := hS218.1 43 (by decide)
                            first | exact Or.inr (Or.inl (by omega)) | exact Or.inl (by omega)), by omega, by omega⟩, show (2 * (3020 - r218) + min 1 (max 0 (-1 - (S218.1 54 59)))).toNat < (2 * (3020 - v51_1) + min 1 (max 0 (-1 - (S51h.1 54 59)))).toNat by omega⟩
                · refine ⟨by omega, ?_⟩
                  refine ⟨fun h164 => ?_, fun h164 => ?_⟩
                  · unfold wX11_parse_200
                    refine ⟨by omega, ?_⟩
                    refine ⟨fun h204 => ?_, fun h204 => ?_⟩
                    · unfold wX11_parse_225
                      refine ⟨by omega, ?_⟩
                      refine ⟨fun h227 => ?_, fun h227 => ?_⟩
                      · intro S240 hS240e
                        have hS240 : Ch [60] [] S51h S240 := Ch_I hS240e
                        have hS240v : S240.1 54 60 = 0 := pI_at hS240e
                        refine ⟨by omega, ?_⟩
                        refine ⟨by omega, ?_⟩
                        refine ⟨by omega, ?_⟩
                        have e220 : S240.1 54 41 = S51h.1 54 41 := hS240.1 41 (by decide)
                        have e221 : S51h.1 54 41 = S18.1 54 41 := hS51h.1 41 (by decide)
                        have e222 : S18.1 54 41 = S12.1 54 41 := hS18.1 41 (by decide)
                        have e223 : S12.1 54 41 = S7.1 54 41 := hS12.1 41 (by decide)
                        have e224 : S7.1 54 41 = S2.1 54 41 := hS7.1 41 (by decide)
                        have e225 : S2.1 54 41 = S.1 54 41 := hS2.1 41 (by decide)
                        have e226 : S240.1 54 41 = S51h.1 54 41 := hS240.1 41 (by decide)
                        have e227 : S51h.1 54 41 = S18.1 54 41 := hS51h.1 41 (by decide)
                        have e228 : S18.1 54 41 = S12.1 54 41 := hS18.1 41 (by decide)
                        have e229 : S12.1 54 41 = S7.1 54 41 := hS12.1 41 (by decide)
                        have e230 : S7.1 54 41 = S2.1 54 41 := hS7.1 41 (by decide)
                        have e231 : S2.1 54 41 = S.1 54 41 := hS2.1 41 (by decide)
                        have e232 : S240.1 54 56 = S51h.1 54 56 := hS240.1 56 (by decide)
                        have e233 : S240.1 54 51 = S51h.1 54 51 := hS240.1 51 (by decide)
                        have e234 : S240.1 54 43 = S51h.1 54 43 := hS240.1 43 (by decide)
                        have e235 : S240.1 54 43 = S51h.1 54 43 := hS240.1 43 (by decide)
                        refine tX11_beginTag (by omega) (by omega) (by omega) (by omega) (by omega) (by omega) (PA.mv2 i51_5 ((hS240).1 51 (by decide)) ((hS240).1 56 (by decide)) ((hS240).2 92 (by decide)) ((hS240).2 93 (by decide)) ((hS240).2 94 (by decide)) ((hS240).2 95 (by decide))) (PR.mv i51_6 ((hS240).1 43 (by decide)) ((hS240).1 51 (by decide)) ((hS240).2 86 (by decide)) ((hS240).2 87 (by decide)) ((hS240).2 88 (by decide)) ((hS240).2 90 (by decide)) ((hS240).2 91 (by decide))) (PO.mv i51_7 ((hS240).1 43 (by decide)) ((hS240).2 88 (by decide))) (PE.mv i51_8 ((hS240).1 43 (by decide)) ((hS240).2 88 (by decide))) (by omega) (fun r247 S247 hS247 n247_0 n247_1 n247_2 n247_3 n247_4 n247_5 n247_6 n247_7 => ?_)
                        have hbr : (S247.1 54 43 = S240.1 54 43 + 1 ∧ S247.2 88 (S240.1 54 43) = v51_2) ∨ S247.1 54 43 = S240.1 54 43 := by
                          rcases n247_5 with h | h
                          · exact Or.inl h
                          · exact Or.inr h.1
                        intro q236
                        refine ⟨fun h255 => ?_, fun h255 => ?_⟩
                        · unfold wX11_parse_265
                          intro q237
                          refine ⟨fun h270 => ?_, fun h270 => ?_⟩
                          · unfold wX11_parse_283
                            refine ⟨by omega, ?_⟩
                            refine ⟨fun h287 => ?_, fun h287 => ?_⟩
                            · unfold wX11_parse_295
                              unfold wX11_parse_297
                              exact ⟨⟨(Ch.wk (Ch.tr (Ch.tr hS51h hS240) hS247) (by decide) (by decide)), by omega, by omega, by omega, by omega, by omega, n247_2, n247_3, n247_4, (PE_new (PE.mv i51_8 (hS240.1 43 (by decide)) (hS240.2 88 (by decide))) hbr n247_6), n247_7, (n247_5.elim (fun h => Or.inl (by omega)) (fun h => Or.inr (Or.inl (by omega)))), by omega, by omega⟩, show (2 * (3020 - r247) + min 1 (max 0 (-1 - (S247.1 54 59)))).toNat < (2 * (3020 - v51_1) + min 1 (max 0 (-1 - (S51h.1 54 59)))).toNat by omega⟩
                            · unfold wX11_parse_295
                              unfold wX11_parse_297
                              exact ⟨⟨(Ch.wk (Ch.tr (Ch.tr hS51h hS240) hS247) (by decide) (by decide)), by omega, by omega, by omega, by omega, by omega, n247_2, n247_3, n247_4, (PE_new (PE.mv i51_8 (hS240.1 43 (by decide)) (hS240.2 88 (by decide))) hbr n247_6), n247_7, (n247_5.elim (fun h => Or.inl (by omega)) (fun h => Or.inr (Or.inl (by omega)))), by omega, by omega⟩, show (2 * (3020 - r247) + min 1 (max 0 (-1 - (S247.1 54 59)))).toNat < (2 * (3020 - v51_1) + min 1 (max 0 (-1 - (S51h.1 54 59)))).toNat by omega⟩
                          · intro q238
                            unfold wX11_parse_283
                            refine ⟨by omega, ?_⟩
                            refine ⟨fun h287 => ?_, fun h287 => ?_⟩
                            · unfold wX11_parse_295
                              unfold wX11_parse_297
                              exact ⟨⟨(Ch.wk (Ch.tr (Ch.tr hS51h hS240) hS247) (by decide) (by decide)), by omega, by omega, by omega, by omega, by omega, n247_2, n247_3, n247_4, (PE_last (by omega)), n247_7, (n247_5.elim (fun h => Or.inl (by omega)) (fun h => Or.inr (Or.inl (by omega)))), by omega, by omega⟩, show (2 * (3020 - r247) + min 1 (max 0 (-1 - (S247.1 54 59)))).toNat < (2 * (3020 - v51_1) + min 1 (max 0 (-1 - (S51h.1 54 59)))).toNat by omega⟩
                            · unfold wX11_parse_295
                              unfold wX11_parse_297
                              exact ⟨⟨(Ch.wk (Ch.tr (Ch.tr hS51h hS240) hS247) (by decide) (by decide)), by omega, by omega, by omega, by omega, by omega, n247_2, n247_3, n247_4, (PE_last (by omega)), n247_7, (n247_5.elim (fun h => Or.inl (by omega)) (fun h => Or.inr (Or.inl (by omega)))), by omega, by omega⟩, show (2 * (3020 - r247) + min 1 (max 0 (-1 - (S247.1 54 59)))).toNat < (2 * (3020 - v51_1) + min 1 (max 0 (-1 - (S51h.1 54 59)))).toNat by omega⟩
                        · unfold wX11_parse_265
                          intro q239
                          refine ⟨fun h270 => ?_, fun h270 => ?_⟩
                          · unfold wX11_parse_283
                            refine ⟨by omega, ?_⟩
                            refine ⟨fun h287 => ?_, fun h287 => ?_⟩
                            · unfold wX11_parse_295
                              unfold wX11_parse_297
                              exact ⟨⟨(Ch.wk (Ch.tr (Ch.tr hS51h hS240) hS247) (by decide) (by decide)), by omega, by omega, by omega, by omega, by omega, n247_2, n247_3, n247_4, (PE_new (PE.mv i51_8 (hS240.1 43 (by decide)) (hS240.2 88 (by decide))) hbr n247_6), n247_7, (n247_5.elim (fun h => Or.inl (by omega)) (fun h => Or.inr (Or.inl (by omega)))), by omega, by omega⟩, show (2 * (3020 - r247) + min 1 (max 0 (-1 - (S247.1 54 59)))).toNat < (2 * (3020 - v51_1) + min 1 (max 0 (-1 - (S51h.1 54 59)))).toNat by omega⟩
                            · unfold wX11_parse_295
                              unfold wX11_parse_297
                              exact ⟨⟨(Ch.wk (Ch.tr (Ch.tr hS51h hS240) hS247) (by decide) (by decide)), by omega, by omega, by omega, by omega, by omega, n247_2, n247_3, n247_4, (PE_new (PE.mv i51_8 (hS240.1 43 (by decide)) (hS240.2 88 (by decide))) hbr n247_6), n247_7, (n247_5.elim (fun h => Or.inl (by omega)) (fun h => Or.inr (Or.inl (by omega)))), by omega, by omega⟩, show (2 * (3020 - r247) + min 1 (max 0 (-1 - (S247.1 54 59)))).toNat < (2 * (3020 - v51_1) + min 1 (max 0 (-1 - (S51h.1 54 59)))).toNat by omega⟩
                          · intro q240
                            unfold wX11_parse_283
                            refine ⟨by omega, ?_⟩
                            refine ⟨fun h287 => ?_, fun h287 => ?_⟩
                            · unfold wX11_parse_295
                              unfold wX11_parse_297
                              exact ⟨⟨(Ch.wk (Ch.tr (Ch.tr hS51h hS240) hS247) (by decide) (by decide)), by omega, by omega, by omega, by omega, by omega, n247_2, n247_3, n247_4, (PE_last (by omega)), n247_7, (n247_5.elim (fun h => Or.inl (by omega)) (fun h => Or.inr (Or.inl (by omega)))), by omega, by omega⟩, show (2 * (3020 - r247) + min 1 (max 0 (-1 - (S247.1 54 59)))).toNat < (2 * (3020 - v51_1) + min 1 (max 0 (-1 - (S51h.1 54 59)))).toNat by omega⟩
                            · unfold wX11_parse_295
                              unfold wX11_parse_297
                              exact ⟨⟨(Ch.wk (Ch.tr (Ch.tr hS51h hS240) hS247) (by decide) (by decide)), by omega, by omega, by omega, by omega, by omega, n247_2, n247_3, n247_4, (PE_last (by omega)), n247_7, (n247_5.elim (fun h => Or.inl (by omega)) (fun h => Or.inr (Or.inl (by omega)))), by omega, by omega⟩, show (2 * (3020 - r247) + min 1 (max 0 (-1 - (S247.1 54 59)))).toNat < (2 * (3020 - v51_1) + min 1 (max 0 (-1 - (S51h.1 54 59)))).toNat by omega⟩
                      · refine ⟨by omega, ?_⟩
                        refine tX11_fail (by omega) (fun r232 S232 hS232 n232_0 => ?_)
                        unfold wX11_parse_297
                        have e241 : S232.1 54 43 = S51h.1 54 43 := hS232.1 43 (by decide)
                        have e242 : S232.1 54 43 = S51h.1 54 43 := hS232.1 43 (by decide)
                        exact ⟨⟨(Ch.wk (Ch.tr hS51h hS232) (by decide) (by decide)), by omega, by omega, by omega, by omega, by omega, (PA.mv i51_5 ((hS232).1 51 (by decide)) (by have e243 : S232.1 54 56 = S51h.1 54 56 := hS232.1 56 (by decide); omega) ((hS232).2 92 (by decide)) ((hS232).2 93 (by decide)) ((hS232).2 94 (by decide)) ((hS232).2 95 (by decide))), (PR.mv i51_6 ((hS232).1 43 (by decide)) ((hS232).1 51 (by decide)) ((hS232).2 86 (by decide)) ((hS232).2 87 (by decide)) ((hS232).2 88 (by decide)) ((hS232).2 90 (by decide)) ((hS232).2 91 (by decide))), (PO.mv i51_7 ((hS232).1 43 (by decide)) ((hS232).2 88 (by decide))), (PE.mv i51_8 ((hS232).1 43 (by decide)) ((hS232).2 88 (by decide))), (by
                              unfold PB
                              have e244 : S232.1 54 41 = S51h.1 54 41 := hS232.1 41 (by decide)
                              have e245 : S51h.1 54 41 = S18.1 54 41 := hS51h.1 41 (by decide)
                              have e246 : S18.1 54 41 = S12.1 54 41 := hS18.1 41 (by decide)
                              have e247 : S12.1 54 41 = S7.1 54 41 := hS12.1 41 (by decide)
                              have e248 : S7.1 54 41 = S2.1 54 41 := hS7.1 41 (by decide)
                              have e249 : S2.1 54 41 = S.1 54 41 := hS2.1 41 (by decide)
                              have e250 : S232.1 54 56 = S51h.1 54 56 := hS232.1 56 (by decide)
                              have e251 : S232.1 54 51 = S51h.1 54 51 := hS232.1 51 (by decide)
                              first
                              | exact Or.inl (by omega)
                              | exact (Classical.em (-1 ≤ S232.1 54 59)).elim (fun hb => Or.inl hb) (fun hb => Or.inr ⟨by omega, by omega, by omega⟩)), (by
                              unfold P1
                              have e252 : S232.1 54 43 = S51h.1 54 43 := hS232.1 43 (by decide)
                              first | exact Or.inr (Or.inl (by omega)) | exact Or.inl (by omega)), by omega, by omega⟩, show (2 * (3020 - v51_1) + min 1 (max 0 (-1 - (S232.1 54 59)))).toNat < (2 * (3020 - v51_1) + min 1 (max 0 (-1 - (S51h.1 54 59)))).toNat by omega⟩
                    · refine ⟨by omega, ?_⟩
                      refine ⟨fun h210 => ?_, fun h210 => ?_⟩
                      · unfold wX11_parse_225
                        refine ⟨by omega, ?_⟩
                        refine ⟨fun h227 => ?_, fun h227 => ?_⟩
                        · intro S240 hS240e
                          have hS240 : Ch [60] [] S51h S240 := Ch_I hS240e
                          have hS240v : S240.1 54 60 = 0 := pI_at hS240e
                          refine ⟨by omega, ?_⟩
                          refine ⟨by omega, ?_⟩
                          refine ⟨by omega, ?_⟩
                          have e253 : S240.1 54 41 = S51h.1 54 41 := hS240.1 41 (by decide)
                          have e254 : S51h.1 54 41 = S18.1 54 41 := hS51h.1 41 (by decide)
                          have e255 : S18.1 54 41 = S12.1 54 41 := hS18.1 41 (by decide)
                          have e256 : S12.1 54 41 = S7.1 54 41 := hS12.1 41 (by decide)
                          have e257 : S7.1 54 41 = S2.1 54 41 := hS7.1 41 (by decide)
                          have e258 : S2.1 54 41 = S.1 54 41 := hS2.1 41 (by decide)
                          have e259 : S240.1 54 41 = S51h.1 54 41 := hS240.1 41 (by decide)
                          have e260 : S51h.1 54 41 = S18.1 54 41 := hS51h.1 41 (by decide)
                          have e261 : S18.1 54 41 = S12.1 54 41 := hS18.1 41 (by decide)
                          have e262 : S12.1 54 41 = S7.1 54 41 := hS12.1 41 (by decide)
                          have e263 : S7.1 54 41 = S2.1 54 41 := hS7.1 41 (by decide)
                          have e264 : S2.1 54 41 = S.1 54 41 := hS2.1 41 (by decide)
                          have e265 : S240.1 54 56 = S51h.1 54 56 := hS240.1 56 (by decide)
                          have e266 : S240.1 54 51 = S51h.1 54 51 := hS240.1 51 (by decide)
                          have e267 : S240.1 54 43 = S51h.1 54 43 := hS240.1 43 (by decide)
                          have e268 : S240.1 54 43 = S51h.1 54 43 := hS240.1 43 (by decide)
                          refine tX11_beginTag (by omega) (by omega) (by omega) (by omega) (by omega) (by omega) (PA.mv2 i51_5 ((hS240).1 51 (by decide)) ((hS240).1 56 (by decide)) ((hS240).2 92 (by decide)) ((hS240).2 93 (by decide)) ((hS240).2 94 (by decide)) ((hS240).2 95 (by decide))) (PR.mv i51_6 ((hS240).1 43 (by decide)) ((hS240).1 51 (by decide)) ((hS240).2 86 (by decide)) ((hS240).2 87 (by decide)) ((hS240).2 88 (by decide)) ((hS240).2 90 (by decide)) ((hS240).2 91 (by decide))) (PO.mv i51_7 ((hS240).1 43 (by decide)) ((hS240).2 88 (by decide))) (PE.mv i51_8 ((hS240).1 43 (by decide)) ((hS240).2 88 (by decide))) (by omega) (fun r247 S247 hS247 n247_0 n247_1 n247_2 n247_3 n247_4 n247_5 n247_6 n247_7 => ?_)
                          have hbr : (S247.1 54 43 = S240.1 54 43 + 1 ∧ S247.2 88 (S240.1 54 43) = v51_2) ∨ S247.1 54 43 = S240.1 54 43 := by
                            rcases n247_5 with h | h
                            · exact Or.inl h
                            · exact Or.inr h.1
                          intro q269
                          refine ⟨fun h255 => ?_, fun h255 => ?_⟩
                          · unfold wX11_parse_265
                            intro q270
                            refine ⟨fun h270 => ?_, fun h270 => ?_⟩
                            · unfold wX11_parse_283
                              refine ⟨by omega, ?_⟩
                              refine ⟨fun h287 => ?_, fun h287 => ?_⟩
                              · unfold wX11_parse_295
                                unfold wX11_parse_297
                                exact ⟨⟨(Ch.wk (Ch.tr (Ch.tr hS51h hS240) hS247) (by decide) (by decide)), by omega, by omega, by omega, by omega, by omega, n247_2, n247_3, n247_4, (PE_new (PE.mv i51_8 (hS240.1 43 (by decide)) (hS240.2 88 (by decide))) hbr n247_6), n247_7, (n247_5.elim (fun h => Or.inl (by omega)) (fun h => Or.inr (Or.inl (by omega)))), by omega, by omega⟩, show (2 * (3020 - r247) + min 1 (max 0 (-1 - (S247.1 54 59)))).toNat < (2 * (3020 - v51_1) + min 1 (max 0 (-1 - (S51h.1 54 59)))).toNat by omega⟩
                              · unfold wX11_parse_295
                                unfold wX11_parse_297
                                exact ⟨⟨(Ch.wk (Ch.tr (Ch.tr hS51h hS240) hS247) (by decide) (by decide)), by omega, by omega, by omega, by omega, by omega, n247_2, n247_3, n247_4, (PE_new (PE.mv i51_8 (hS240.1 43 (by decide)) (hS240.2 88 (by decide))) hbr n247_6), n247_7, (n247_5.elim (fun h => Or.inl (by omega)) (fun h => Or.inr (Or.inl (by omega)))), by omega, by omega⟩, show (2 * (3020 - r247) + min 1 (max 0 (-1 - (S247.1 54 59)))).toNat < (2 * (3020 - v51_1) + min 1 (max 0 (-1 - (S51h.1 54 59)))).toNat by omega⟩
                            · intro q271
                              unfold wX11_parse_283
                              refine ⟨by omega, ?_⟩
                              refine ⟨fun h287 => ?_, fun h287 => ?_⟩
                              · unfold wX11_parse_295
                                unfold wX11_parse_297
                                exact ⟨⟨(Ch.wk (Ch.tr (Ch.tr hS51h hS240) hS247) (by decide) (by decide)), by omega, by omega, by omega, by omega, by omega, n247_2, n247_3, n247_4, (PE_last (by omega)), n247_7, (n247_5.elim (fun h => Or.inl (by omega)) (fun h => Or.inr (Or.inl (by omega)))), by omega, by omega⟩, show (2 * (3020 - r247) + min 1 (max 0 (-1 - (S247.1 54 59)))).toNat < (2 * (3020 - v51_1) + min 1 (max 0 (-1 - (S51h.1 54 59)))).toNat by omega⟩
                              · unfold wX11_parse_295
                                unfold wX11_parse_297
                                exact ⟨⟨(Ch.wk (Ch.tr (Ch.tr hS51h hS240) hS247) (by decide) (by decide)), by omega, by omega, by omega, by omega, by omega, n247_2, n247_3, n247_4, (PE_last (by omega)), n247_7, (n247_5.elim (fun h => Or.inl (by omega)) (fun h => Or.inr (Or.inl (by omega)))), by omega, by omega⟩, show (2 * (3020 - r247) + min 1 (max 0 (-1 - (S247.1 54 59)))).toNat < (2 * (3020 - v51_1) + min 1 (max 0 (-1 - (S51h.1 54 59)))).toNat by omega⟩
                          · unfold wX11_parse_265
                            intro q272
                            refine ⟨fun h270 => ?_, fun h270 => ?_⟩
                            · unfold wX11_parse_283
                              refine ⟨by omega, ?_⟩
                              refine ⟨fun h287 => ?_, fun h287 => ?_⟩
                              · unfold wX11_parse_295
                                unfold wX11_parse_297
                                exact ⟨⟨(Ch.wk (Ch.tr (Ch.tr hS51h hS240) hS247) (by decide) (by decide)), by omega, by omega, by omega, by omega, by omega, n247_2, n247_3, n247_4, (PE_new (PE.mv i51_8 (hS240.1 43 (by decide)) (hS240.2 88 (by decide))) hbr n247_6), n247_7, (n247_5.elim (fun h => Or.inl (by omega)) (fun h => Or.inr (Or.inl (by omega)))), by omega, by omega⟩, show (2 * (3020 - r247) + min 1 (max 0 (-1 - (S247.1 54 59)))).toNat < (2 * (3020 - v51_1) + min 1 (max 0 (-1 - (S51h.1 54 59)))).toNat by omega⟩
                              · unfold wX11_parse_295
                                unfold wX11_parse_297
                                exact ⟨⟨(Ch.wk (Ch.tr (Ch.tr hS51h hS240) hS247) (by decide) (by decide)), by omega, by omega, by omega, by omega, by omega, n247_2, n247_3, n247_4, (PE_new (PE.mv i51_8 (hS240.1 43 (by decide)) (hS240.2 88 (by decide))) hbr n247_6), n247_7, (n247_5.elim (fun h => Or.inl (by omega)) (fun h => Or.inr (Or.inl (by omega)))), by omega, by omega⟩, show (2 * (3020 - r247) + min 1 (max 0 (-1 - (S247.1 54 59)))).toNat < (2 * (3020 - v51_1) + min 1 (max 0 (-1 - (S51h.1 54 59)))).toNat by omega⟩
                            · intro q273
                              unfold wX11_parse_283
                              refine ⟨by omega, ?_⟩
                              refine ⟨fun h287 => ?_, fun h287 => ?_⟩
                              · unfold wX11_parse_295
                                unfold wX11_parse_297
                                exact ⟨⟨(Ch.wk (Ch.tr (Ch.tr hS51h hS240) hS247) (by decide) (by decide)), by omega, by omega, by omega, by omega, by omega, n247_2, n247_3, n247_4, (PE_last (by omega)), n247_7, (n247_5.elim (fun h => Or.inl (by omega)) (fun h => Or.inr (Or.inl (by omega)))), by omega, by omega⟩, show (2 * (3020 - r247) + min 1 (max 0 (-1 - (S247.1 54 59)))).toNat < (2 * (3020 - v51_1) + min 1 (max 0 (-1 - (S51h.1 54 59)))).toNat by omega⟩
                              · unfold wX11_parse_295
                                unfold wX11_parse_297
                                exact ⟨⟨(Ch.wk (Ch.tr (Ch.tr hS51h hS240) hS247) (by decide) (by decide)), by omega, by omega, by omega, by omega, by omega, n247_2, n247_3, n247_4, (PE_last (by omega)), n247_7, (n247_5.elim (fun h => Or.inl (by omega)) (fun h => Or.inr (Or.inl (by omega)))), by omega, by omega⟩, show (2 * (3020 - r247) + min 1 (max 0 (-1 - (S247.1 54 59)))).toNat < (2 * (3020 - v51_1) + min 1 (max 0 (-1 - (S51h.1 54 59)))).toNat by omega⟩
                        · refine ⟨by omega, ?_⟩
                          refine tX11_fail (by omega) (fun r232 S232 hS232 n232_0 => ?_)
                          unfold wX11_parse_297
                          have e274 : S232.1 54 43 = S51h.1 54 43 := hS232.1 43 (by decide)
                          have e275 : S232.1 54 43 = S51h.1 54 43 := hS232.1 43 (by decide)
                          exact ⟨⟨(Ch.wk (Ch.tr hS51h hS232) (by decide) (by decide)), by omega, by omega, by omega, by omega, by omega, (PA.mv i51_5 ((hS232).1 51 (by decide)) (by have e276 : S232.1 54 56 = S51h.1 54 56 := hS232.1 56 (by decide); omega) ((hS232).2 92 (by decide)) ((hS232).2 93 (by decide)) ((hS232).2 94 (by decide)) ((hS232).2 95 (by decide))), (PR.mv i51_6 ((hS232).1 43 (by decide)) ((hS232).1 51 (by decide)) ((hS232).2 86 (by decide)) ((hS232).2 87 (by decide)) ((hS232).2 88 (by decide)) ((hS232).2 90 (by decide)) ((hS232).2 91 (by decide))), (PO.mv i51_7 ((hS232).1 43 (by decide)) ((hS232).2 88 (by decide))), (PE.mv i51_8 ((hS232).1 43 (by decide)) ((hS232).2 88 (by decide))), (by
                                unfold PB
                                have e277 : S232.1 54 41 = S51h.1 54 41 := hS232.1 41 (by decide)
                                have e278 : S51h.1 54 41 = S18.1 54 41 := hS51h.1 41 (by decide)
                                have e279 : S18.1 54 41 = S12.1 54 41 := hS18.1 41 (by decide)
                                have e280 : S12.1 54 41 = S7.1 54 41 := hS12.1 41 (by decide)
                                have e281 : S7.1 54 41 = S2.1 54 41 := hS7.1 41 (by decide)
                                have e282 : S2.1 54 41 = S.1 54 41 := hS2.1 41 (by decide)
                                have e283 : S232.1 54 56 = S51h.1 54 56 := hS232.1 56 (by decide)
                                have e284 : S232.1 54 51 = S51h.1 54 51 := hS232.1 51 (by decide)
                                first
                                | exact Or.inl (by omega)
                                | exact (Classical.em (-1 ≤ S232.1 54 59)).elim (fun hb => Or.inl hb) (fun hb => Or.inr ⟨by omega, by omega, by omega⟩)), (by
                                unfold P1
                                have e285 : S232.1 54 43 = S51h.1 54 43 := hS232.1 43 (by decide)
                                first | exact Or.inr (Or.inl (by omega)) | exact Or.inl (by omega)), by omega, by omega⟩, show (2 * (3020 - v51_1) + min 1 (max 0 (-1 - (S232.1 54 59)))).toNat < (2 * (3020 - v51_1) + min 1 (max 0 (-1 - (S51h.1 54 59)))).toNat by omega⟩
                      · refine ⟨by omega, ?_⟩
                        refine ⟨by omega, ?_⟩
                        have e286 : S51h.1 54 41 = S18.1 54 41 := hS51h.1 41 (by decide)
                        have e287 : S18.1 54 41 = S12.1 54 41 := hS18.1 41 (by decide)
                        have e288 : S12.1 54 41 = S7.1 54 41 := hS12.1 41 (by decide)
                        have e289 : S7.1 54 41 = S2.1 54 41 := hS7.1 41 (by decide)
                        have e290 : S2.1 54 41 = S.1 54 41 := hS2.1 41 (by decide)
                        have e291 : S51h.1 54 41 = S18.1 54 41 := hS51h.1 41 (by decide)
                        have e292 : S18.1 54 41 = S12.1 54 41 := hS18.1 41 (by decide)
                        have e293 : S12.1 54 41 = S7.1 54 41 := hS12.1 41 (by decide)
                        have e294 : S7.1 54 41 = S2.1 54 41 := hS7.1 41 (by decide)
                        have e295 : S2.1 54 41 = S.1 54 41 := hS2.1 41 (by decide)
                        have e296 : S51h.1 54 41 = S18.1 54 41 := hS51h.1 41 (by decide)
                        have e297 : S18.1 54 41 = S12.1 54 41 := hS18.1 41 (by decide)
                        have e298 : S12.1 54 41 = S7.1 54 41 := hS12.1 41 (by decide)
                        have e299 : S7.1 54 41 = S2.1 54 41 := hS7.1 41 (by decide)
                        have e300 : S2.1 54 41 = S.1 54 41 := hS2.1 41 (by decide)
                        refine tX11_section (by omega) (by omega) (by omega) (by omega) (by omega) (by omega) (fun r218 S218 hS218 n218_0 n218_1 n218_2 n218_3 => ?_)
                        unfold wX11_parse_297
                        have e301 : S218.1 54 43 = S51h.1 54 43 := hS218.1 43 (by decide)
                        have e302 : S218.1 54 43 = S51h.1 54 43 := hS218.1 43 (by decide)
                        exact ⟨⟨(Ch.wk (Ch.tr hS51h hS218) (by decide) (by decide)), by omega, by omega, by omega, by omega, by omega, (PA.mv i51_5 ((hS218).1 51 (by decide)) (by omega) ((hS218).2 92 (by decide)) ((hS218).2 93 (by decide)) ((hS218).2 94 (by decide)) ((hS218).2 95 (by decide))), (PR.mv i51_6 ((hS218).1 43 (by decide)) ((hS218).1 51 (by decide)) ((hS218).2 86 (by decide)) ((hS218).2 87 (by decide)) ((hS218).2 88 (by decide)) ((hS218).2 90 (by decide)) ((hS218).2 91 (by decide))), (PO.mv i51_7 ((hS218).1 43 (by decide)) ((hS218).2 88 (by decide))), (PE.mv i51_8 ((hS218).1 43 (by decide)) ((hS218).2 88 (by decide))), (by
                              unfold PB
                              have e303 : S218.1 54 41 = S51h.1 54 41 := hS218.1 41 (by decide)
                              have e304 : S51h.1 54 41 = S18.1 54 41 := hS51h.1 41 (by decide)
                              have e305 : S18.1 54 41 = S12.1 54 41 := hS18.1 41 (by decide)
                              have e306 : S12.1 54 41 = S7.1 54 41 := hS12.1 41 (by decide)
                              have e307 : S7.1 54 41 = S2.1 54 41 := hS7.1 41 (by decide)
                              have e308 : S2.1 54 41 = S.1 54 41 := hS2.1 41 (by decide)
                              have e309 : S218.1 54 51 = S51h.1 54 51 := hS218.1 51 (by decide)
                              first
                              | exact Or.inl (by omega)
                              | exact (Classical.em (-1 ≤ S218.1 54 59)).elim (fun hb => Or.inl hb) (fun hb => Or.inr ⟨by omega, by omega, by omega⟩)), (by
                              unfold P1
                              have e310 : S218.1 54 43 = S51h.1 54 43 := hS218.1 43 (by decide)
                              first | exact Or.inr (Or.inl (by omega)) | exact Or.inl (by omega)), by omega, by omega⟩, show (2 * (3020 - r218) + min 1 (max 0 (-1 - (S218.1 54 59)))).toNat < (2 * (3020 - v51_1) + min 1 (max 0 (-1 - (S51h.1 54 59)))).toNat by omega⟩
                  · have hE2 := hE.2.resolve_left (by omega)
                    have hpr := i51_6.at (x := v51_2) (by omega) (by omega)
                    refine ⟨by omega, ?_⟩
                    have e311 : S51h.1 54 41 = S18.1 54 41 := hS51h.1 41 (by decide)
                    have e312 : S18.1 54 41 = S12.1 54 41 := hS18.1 41 (by decide)
                    have e313 : S12.1 54 41 = S7.1 54 41 := hS12.1 41 (by decide)
                    have e314 : S7.1 54 41 = S2.1 54 41 := hS7.1 41 (by decide)
                    have e315 : S2.1 54 41 = S.1 54 41 := hS2.1 41 (by decide)
                    have e316 : S51h.1 54 41 = S18.1 54 41 := hS51h.1 41 (by decide)
                    have e317 : S18.1 54 41 = S12.1 54 41 := hS18.1 41 (by decide)
                    have e318 : S12.1 54 41 = S7.1 54 41 := hS12.1 41 (by decide)
                    have e319 : S7.1 54 41 = S2.1 54 41 := hS7.1 41 (by decide)
                    have e320 : S2.1 54 41 = S.1 54 41 := hS2.1 41 (by decide)
                    have e321 : S51h.1 54 41 = S18.1 54 41 := hS51h.1 41 (by decide)
                    have e322 : S18.1 54 41 = S12.1 54 41 := hS18.1 41 (by decide)
                    have e323 : S12.1 54 41 = S7.1 54 41 := hS12.1 41 (by decide)
                    have e324 : S7.1 54 41 = S2.1 54 41 := hS7.1 41 (by decide)
                    have e325 : S2.1 54 41 = S.1 54 41 := hS2.1 41 (by decide)
                    refine tX11_endTag (by omega) (by omega) (by omega) (by omega) (by omega) (fun r170 S170 hS170 n170_0 n170_1 n170_2 => ?_)
                    refine ⟨by omega, by omega, ?_⟩
                    intro q326
                    have e327 : S170.2 88 (v51_2) = S51h.2 88 (v51_2) := congrFun (hS170.2 88 (by decide)) _
                    intro x180 hx180
                    subst hx180
                    refine ⟨fun h187 => ?_, fun h187 => ?_⟩
                    · unfold wX11_parse_195
                      unfold wX11_parse_297
                      have e328 : S170.1 54 43 = S51h.1 54 43 := hS170.1 43 (by decide)
                      have e329 : S170.1 54 43 = S51h.1 54 43 := hS170.1 43 (by decide)
                      exact ⟨⟨(Ch.wk (Ch.tr hS51h hS170) (by decide) (by decide)), by omega, by omega, by omega, by omega, by omega, (PA.mv i51_5 ((hS170).1 51 (by decide)) (by have e330 : S170.1 54 56 = S51h.1 54 56 := hS170.1 56 (by decide); omega) ((hS170).2 92 (by decide)) ((hS170).2 93 (by decide)) ((hS170).2 94 (by decide)) ((hS170).2 95 (by decide))), (PR.mv i51_6 ((hS170).1 43 (by decide)) ((hS170).1 51 (by decide)) ((hS170).2 86 (by decide)) ((hS170).2 87 (by decide)) ((hS170).2 88 (by decide)) ((hS170).2 90 (by decide)) ((hS170).2 91 (by decide))), (PO.mv i51_7 ((hS170).1 43 (by decide)) ((hS170).2 88 (by decide))), (by
                            rw [show S170.2 88 v51_2 = S51h.2 88 v51_2 from congrFun (hS170.2 88 (by decide)) _]
                            exact (PE_up (e := v51_2) i51_6 i51_7 (by omega) (by omega)).mv (hS170.1 43 (by decide)) (hS170.2 88 (by decide))), (by
                            unfold PB
                            have e331 : S170.1 54 41 = S51h.1 54 41 := hS170.1 41 (by decide)
                            have e332 : S51h.1 54 41 = S18.1 54 41 := hS51h.1 41 (by decide)
                            have e333 : S18.1 54 41 = S12.1 54 41 := hS18.1 41 (by decide)
                            have e334 : S12.1 54 41 = S7.1 54 41 := hS12.1 41 (by decide)
                            have e335 : S7.1 54 41 = S2.1 54 41 := hS7.1 41 (by decide)
                            have e336 : S2.1 54 41 = S.1 54 41 := hS2.1 41 (by decide)
                            have e337 : S170.1 54 56 = S51h.1 54 56 := hS170.1 56 (by decide)
                            have e338 : S170.1 54 51 = S51h.1 54 51 := hS170.1 51 (by decide)
                            first
                            | exact Or.inl (by omega)
                            | exact (Classical.em (-1 ≤ S170.1 54 59)).elim (fun hb => Or.inl hb) (fun hb => Or.inr ⟨by omega, by omega, by omega⟩)), (by
                            unfold P1
                            have e339 : S170.1 54 43 = S51h.1 54 43 := hS170.1 43 (by decide)
                            first | exact Or.inr (Or.inl (by omega)) | exact Or.inl (by omega)), by omega, by omega⟩, show (2 * (3020 - r170) + min 1 (max 0 (-1 - (S170.1 54 59)))).toNat < (2 * (3020 - v51_1) + min 1 (max 0 (-1 - (S51h.1 54 59)))).toNat by omega⟩
                    · unfold wX11_parse_195
                      unfold wX11_parse_297
                      have e340 : S170.1 54 43 = S51h.1 54 43 := hS170.1 43 (by decide)
                      have e341 : S170.1 54 43 = S51h.1 54 43 := hS170.1 43 (by decide)
                      exact ⟨⟨(Ch.wk (Ch.tr hS51h hS170) (by decide) (by decide)), by omega, by omega, by omega, by omega, by omega, (PA.mv i51_5 ((hS170).1 51 (by decide)) (by have e342 : S170.1 54 56 = S51h.1 54 56 := hS170.1 56 (by decide); omega) ((hS170).2 92 (by decide)) ((hS170).2 93 (by decide)) ((hS170).2 94 (by decide)) ((hS170).2 95 (by decide))), (PR.mv i51_6 ((hS170).1 43 (by decide)) ((hS170).1 51 (by decide)) ((hS170).2 86 (by decide)) ((hS170).2 87 (by decide)) ((hS170).2 88 (by decide)) ((hS170).2 90 (by decide)) ((hS170).2 91 (by decide))), (PO.mv i51_7 ((hS170).1 43 (by decide)) ((hS170).2 88 (by decide))), (by
                            rw [show S170.2 88 v51_2 = S51h.2 88 v51_2 from congrFun (hS170.2 88 (by decide)) _]
                            exact (PE_up (e := v51_2) i51_6 i51_7 (by omega) (by omega)).mv (hS170.1 43 (by decide)) (hS170.2 88 (by decide))), (by
                            unfold PB
                            have e343 : S170.1 54 41 = S51h.1 54 41 := hS170.1 41 (by decide)
                            have e344 : S51h.1 54 41 = S18.1 54 41 := hS51h.1 41 (by decide)
                            have e345 : S18.1 54 41 = S12.1 54 41 := hS18.1 41 (by decide)
                            have e346 : S12.1 54 41 = S7.1 54 41 := hS12.1 41 (by decide)
                            have e347 : S7.1 54 41 = S2.1 54 41 := hS7.1 41 (by decide)
                            have e348 : S2.1 54 41 = S.1 54 41 := hS2.1 41 (by decide)
                            have e349 : S170.1 54 56 = S51h.1 54 56 := hS170.1 56 (by decide)
                            have e350 : S170.1 54 51 = S51h.1 54 51 := hS170.1 51 (by decide)
                            first
                            | exact Or.inl (by omega)
                            | exact (Classical.em (-1 ≤ S170.1 54 59)).elim (fun hb => Or.inl hb) (fun hb => Or.inr ⟨by omega, by omega, by omega⟩)), (by
                            unfold P1
                            have e351 : S170.1 54 43 = S51h.1 54 43 := hS170.1 43 (by decide)
                            first | exact Or.inr (Or.inl (by omega)) | exact Or.inl (by omega)), by omega, by omega⟩, show (2 * (3020 - r170) + min 1 (max 0 (-1 - (S170.1 54 59)))).toNat < (2 * (3020 - v51_1) + min 1 (max 0 (-1 - (S51h.1 54 59)))).toNat by omega⟩
              · refine ⟨by omega, ?_⟩
                refine tX11_keep (by omega) (by omega) (fun r145 S145 hS145 n145_0 => ?_)
                unfold wX11_parse_297
                have e352 : S145.1 54 43 = S51h.1 54 43 := hS145.1 43 (by decide)
                have e353 : S145.1 54 43 = S51h.1 54 43 := hS145.1 43 (by decide)
                have e354 : S145.1 54 59 = S51h.1 54 59 := hS145.1 59 (by decide)
                have e355 : S145.1 54 59 = S51h.1 54 59 := hS145.1 59 (by decide)
                exact ⟨⟨(Ch.wk (Ch.tr hS51h hS145) (by decide) (by decide)), by omega, by omega, by omega, by omega, by omega, (PA.mv i51_5 ((hS145).1 51 (by decide)) (by omega) ((hS145).2 92 (by decide)) ((hS145).2 93 (by decide)) ((hS145).2 94 (by decide)) ((hS145).2 95 (by decide))), (PR.mv i51_6 ((hS145).1 43 (by decide)) ((hS145).1 51 (by decide)) ((hS145).2 86 (by decide)) ((hS145).2 87 (by decide)) ((hS145).2 88 (by decide)) ((hS145).2 90 (by decide)) ((hS145).2 91 (by decide))), (PO.mv i51_7 ((hS145).1 43 (by decide)) ((hS145).2 88 (by decide))), (PE.mv i51_8 ((hS145).1 43 (by decide)) ((hS145).2 88 (by decide))), (by
                      unfold PB
                      have e356 : S145.1 54 59 = S51h.1 54 59 := hS145.1 59 (by decide)
                      have e357 : S145.1 54 41 = S51h.1 54 41 := hS145.1 41 (by decide)
                      have e358 : S51h.1 54 41 = S18.1 54 41 := hS51h.1 41 (by decide)
                      have e359 : S18.1 54 41 = S12.1 54 41 := hS18.1 41 (by decide)
                      have e360 : S12.1 54 41 = S7.1 54 41 := hS12.1 41 (by decide)
                      have e361 : S7.1 54 41 = S2.1 54 41 := hS7.1 41 (by decide)
                      have e362 : S2.1 54 41 = S.1 54 41 := hS2.1 41 (by decide)
                      have e363 : S145.1 54 51 = S51h.1 54 51 := hS145.1 51 (by decide)
                      first
                      | exact Or.inl (by omega)
                      | exact (Classical.em (-1 ≤ S145.1 54 59)).elim (fun hb => Or.inl hb) (fun hb => Or.inr ⟨by omega, by omega, by omega⟩)), (by
                      unfold P1
                      have e364 : S145.1 54 43 = S51h.1 54 43 := hS145.1 43 (by decide)
                      have e365 : S145.1 54 59 = S51h.1 54 59 := hS145.1 59 (by decide)
                      first | exact Or.inr (Or.inl (by omega)) | exact Or.inl (by omega)), by omega, by omega⟩, show (2 * (3020 - ((v51_1 + 1))) + min 1 (max 0 (-1 - (S145.1 54 59)))).toNat < (2 * (3020 - v51_1) + min 1 (max 0 (-1 - (S51h.1 54 59)))).toNat by omega⟩
            · refine ⟨by omega, ?_⟩
              refine ⟨by omega, ?_⟩
              have e366 : S51h.1 54 41 = S18.1 54 41 := hS51h.1 41 (by decide)
              have e367 : S18.1 54 41 = S12.1 54 41 := hS18.1 41 (by decide)
              have e368 : S12.1 54 41 = S7.1 54 41 := hS12.1 41 (by decide)
              have e369 : S7.1 54 41 = S2.1 54 41 := hS7.1 41 (by decide)
              have e370 : S2.1 54 41 = S.1 54 41 := hS2.1 41 (by decide)
              have e371 : S51h.1 54 41 = S18.1 54 41 := hS51h.1 41 (by decide)
              have e372 : S18.1 54 41 = S12.1 54 41 := hS18.1 41 (by decide)
              have e373 : S12.1 54 41 = S7.1 54 41 := hS12.1 41 (by decide)
              have e374 : S7.1 54 41 = S2.1 54 41 := hS7.1 41 (by decide)
              have e375 : S2.1 54 41 = S.1 54 41 := hS2.1 41 (by decide)
              have e376 : S51h.1 54 41 = S18.1 54 41 := hS51h.1 41 (by decide)
              have e377 : S18.1 54 41 = S12.1 54 41 := hS18.1 41 (by decide)
              have e378 : S12.1 54 41 = S7.1 54 41 := hS12.1 41 (by decide)
              have e379 : S7.1 54 41 = S2.1 54 41 := hS7.1 41 (by decide)
              have e380 : S2.1 54 41 = S.1 54 41 := hS2.1 41 (by decide)
              refine tX11_reference (by omega) (by omega) (by omega) (by omega) (by omega) (fun r127 S127 hS127 n127_0 n127_1 n127_2 n127_3 => ?_)
              unfold wX11_parse_297
              have e381 : S127.1 54 43 = S51h.1 54 43 := hS127.1 43 (by decide)
              have e382 : S127.1 54 43 = S51h.1 54 43 := hS127.1 43 (by decide)
              exact ⟨⟨(Ch.wk (Ch.tr hS51h hS127) (by decide) (by decide)), by omega, by omega, by omega, by omega, by omega, (PA.mv i51_5 ((hS127).1 51 (by decide)) (by omega) ((hS127).2 92 (by decide)) ((hS127).2 93 (by decide)) ((hS127).2 94 (by decide)) ((hS127).2 95 (by decide))), (PR.mv i51_6 ((hS127).1 43 (by decide)) ((hS127).1 51 (by decide)) ((hS127).2 86 (by decide)) ((hS127).2 87 (by decide)) ((hS127).2 88 (by decide)) ((hS127).2 90 (by decide)) ((hS127).2 91 (by decide))), (PO.mv i51_7 ((hS127).1 43 (by decide)) ((hS127).2 88 (by decide))), (PE.mv i51_8 ((hS127).1 43 (by decide)) ((hS127).2 88 (by decide))), (by
                    unfold PB
                    have e383 : S127.1 54 41 = S51h.1 54 41 := hS127.1 41 (by decide)
                    have e384 : S51h.1 54 41 = S18.1 54 41 := hS51h.1 41 (by decide)
                    have e385 : S18.1 54 41 = S12.1 54 41 := hS18.1 41 (by decide)
                    have e386 : S12.1 54 41 = S7.1 54 41 := hS12.1 41 (by decide)
                    have e387 : S7.1 54 41 = S2.1 54 41 := hS7.1 41 (by decide)
                    have e388 : S2.1 54 41 = S.1 54 41 := hS2.1 41 (by decide)
                    have e389 : S127.1 54 51 = S51h.1 54 51 := hS127.1 51 (by decide)
                    first
                    | exact Or.inl (by omega)
                    | exact (Classical.em (-1 ≤ S127.1 54 59)).elim (fun hb => Or.inl hb) (fun hb => Or.inr ⟨by omega, by omega, by omega⟩)), (by
                    unfold P1
                    have e390 : S127.1 54 43 = S51h.1 54 43 := hS127.1 43 (by decide)
                    first | exact Or.inr (Or.inl (by omega)) | exact Or.inl (by omega)), by omega, by omega⟩, show (2 * (3020 - r127) + min 1 (max 0 (-1 - (S127.1 54 59)))).toNat < (2 * (3020 - v51_1) + min 1 (max 0 (-1 - (S51h.1 54 59)))).toNat by omega⟩
          · refine ⟨by omega, ?_⟩
            refine tX11_fail (by omega) (fun r111 S111 hS111 n111_0 => ?_)
            unfold wX11_parse_297
            have e391 : S111.1 54 43 = S51h.1 54 43 := hS111.1 43 (by decide)
            have e392 : S111.1 54 43 = S51h.1 54 43 := hS111.1 43 (by decide)
            exact ⟨⟨(Ch.wk (Ch.tr hS51h hS111) (by decide) (by decide)), by omega, by omega, by omega, by omega, by omega, (PA.mv i51_5 ((hS111).1 51 (by decide)) (by have e393 : S111.1 54 56 = S51h.1 54 56 := hS111.1 56 (by decide); omega) ((hS111).2 92 (by decide)) ((hS111).2 93 (by decide)) ((hS111).2 94 (by decide)) ((hS111).2 95 (by decide))), (PR.mv i51_6 ((hS111).1 43 (by decide)) ((hS111).1 51 (by decide)) ((hS111).2 86 (by decide)) ((hS111).2 87 (by decide)) ((hS111).2 88 (by decide)) ((hS111).2 90 (by decide)) ((hS111).2 91 (by decide))), (PO.mv i51_7 ((hS111).1 43 (by decide)) ((hS111).2 88 (by decide))), (PE.mv i51_8 ((hS111).1 43 (by decide)) ((hS111).2 88 (by decide))), (by
                  unfold PB
                  have e394 : S111.1 54 41 = S51h.1 54 41 := hS111.1 41 (by decide)
                  have e395 : S51h.1 54 41 = S18.1 54 41 := hS51h.1 41 (by decide)
                  have e396 : S18.1 54 41 = S12.1 54 41 := hS18.1 41 (by decide)
                  have e397 : S12.1 54 41 = S7.1 54 41 := hS12.1 41 (by decide)
                  have e398 : S7.1 54 41 = S2.1 54 41 := hS7.1 41 (by decide)
                  have e399 : S2.1 54 41 = S.1 54 41 := hS2.1 41 (by decide)
                  have e400 : S111.1 54 56 = S51h.1 54 56 := hS111.1 56 (by decide)
                  have e401 : S111.1 54 51 = S51h.1 54 51 := hS111.1 51 (by decide)
                  first
                  | exact Or.inl (by omega)
                  | exact (Classical.em (-1 ≤ S111.1 54 59)).elim (fun hb => Or.inl hb) (fun hb => Or.inr ⟨by omega, by omega, by omega⟩)), (by
                  unfold P1
                  have e402 : S111.1 54 43 = S51h.1 54 43 := hS111.1 43 (by decide)
                  first | exact Or.inr (Or.inl (by omega)) | exact Or.inl (by omega)), by omega, by omega⟩, show (2 * (3020 - v51_1) + min 1 (max 0 (-1 - (S111.1 54 59)))).toNat < (2 * (3020 - v51_1) + min 1 (max 0 (-1 - (S51h.1 54 59)))).toNat by omega⟩
        · intro q403
          refine ⟨fun h94 => ?_, fun h94 => ?_⟩
          · unfold wX11_parse_102
            refine ⟨by omega, ?_⟩
            refine ⟨fun h106 => ?_, fun h106 => ?_⟩
            · refine ⟨fun h121 => ?_, fun h121 => ?_⟩
              · refine ⟨fun h138 => ?_, fun h138 => ?_⟩
                · refine ⟨by omega, ?_⟩
                  refine ⟨fun h158 => ?_, fun h158 => ?_⟩
                  · unfold wX11_parse_200
                    refine ⟨by omega, ?_⟩
                    refine ⟨fun h204 => ?_, fun h204 => ?_⟩
                    · unfold wX11_parse_225
                      refine ⟨by omega, ?_⟩
                      refine ⟨fun h227 => ?_, fun h227 => ?_⟩
                      · intro S240 hS240e
                        have hS240 : Ch [60] [] S51h S240 := Ch_I hS240e
                        have hS240v : S240.1 54 60 = 0 := pI_at hS240e
                        refine ⟨by omega, ?_⟩
                        refine ⟨by omega, ?_⟩
                        refine ⟨by omega, ?_⟩
                        have e404 : S240.1 54 41 = S51h.1 54 41 := hS240.1 41 (by decide)
                        have e405 : S51h.1 54 41 = S18.1 54 41 := hS51h.1 41 (by decide)
                        have e406 : S18.1 54 41 = S12.1 54 41 := hS18.1 41 (by decide)
                        have e407 : S12.1 54 41 = S7.1 54 41 := hS12.1 41 (by decide)
                        have e408 : S7.1 54 41 = S2.1 54 41 := hS7.1 41 (by decide)
                        have e409 : S2.1 54 41 = S.1 54 41 := hS2.1 41 (by decide)
                        have e410 : S240.1 54 41 = S51h.1 54 41 := hS240.1 41 (by decide)
                        have e411 : S51h.1 54 41 = S18.1 54 41 := hS51h.1 41 (by decide)
                        have e412 : S18.1 54 41 = S12.1 54 41 := hS18.1 41 (by decide)
                        have e413 : S12.1 54 41 = S7.1 54 41 := hS12.1 41 (by decide)
                        have e414 : S7.1 54 41 = S2.1 54 41 := hS7.1 41 (by decide)
                        have e415 : S2.1 54 41 = S.1 54 41 := hS2.1 41 (by decide)
                        have e416 : S240.1 54 56 = S51h.1 54 56 := hS240.1 56 (by decide)
                        have e417 : S240.1 54 51 = S51h.1 54 51 := hS240.1 51 (by decide)
                        have e418 : S240.1 54 43 = S51h.1 54 43 := hS240.1 43 (by decide)
                        have e419 : S240.1 54 43 = S51h.1 54 43 := hS240.1 43 (by decide)
                        refine tX11_beginTag (by omega) (by omega) (by omega) (by omega) (by omega) (by omega) (PA.mv2 i51_5 ((hS240).1 51 (by decide)) ((hS240).1 56 (by decide)) ((hS240).2 92 (by decide)) ((hS240).2 93 (by decide)) ((hS240).2 94 (by decide)) ((hS240).2 95 (by decide))) (PR.mv i51_6 ((hS240).1 43 (by decide)) ((hS240).1 51 (by decide)) ((hS240).2 86 (by decide)) ((hS240).2 87 (by decide)) ((hS240).2 88 (by decide)) ((hS240).2 90 (by decide)) ((hS240).2 91 (by decide))) (PO.mv i51_7 ((hS240).1 43 (by decide)) ((hS240).2 88 (by decide))) (PE.mv i51_8 ((hS240).1 43 (by decide)) ((hS240).2 88 (by decide))) (by omega) (fun r247 S247 hS247 n247_0 n247_1 n247_2 n247_3 n247_4 n247_5 n247_6 n247_7 => ?_)
                        have hbr : (S247.1 54 43 = S240.1 54 43 + 1 ∧ S247.2 88 (S240.1 54 43) = v51_2) ∨ S247.1 54 43 = S240.1 54 43 := by
                          rcases n247_5 with h | h
                          · exact Or.inl h
                          · exact Or.inr h.1
                        intro q420
                        refine ⟨fun h255 => ?_, fun h255 => ?_⟩
                        · unfold wX11_parse_265
                          intro q421
                          refine ⟨fun h270 => ?_, fun h270 => ?_⟩
                          · unfold wX11_parse_283
                            refine ⟨by omega, ?_⟩
                            refine ⟨fun h287 => ?_, fun h287 => ?_⟩
                            · unfold wX11_parse_295
                              unfold wX11_parse_297
                              exact ⟨⟨(Ch.wk (Ch.tr (Ch.tr hS51h hS240) hS247) (by decide) (by decide)), by omega, by omega, by omega, by omega, by omega, n247_2, n247_3, n247_4, (PE_new (PE.mv i51_8 (hS240.1 43 (by decide)) (hS240.2 88 (by decide))) hbr n247_6), n247_7, (n247_5.elim (fun h => Or.inl (by omega)) (fun h => Or.inr (Or.inl (by omega)))), by omega, by omega⟩, show (2 * (3020 - r247) + min 1 (max 0 (-1 - (S247.1 54 59)))).toNat < (2 * (3020 - v51_1) + min 1 (max 0 (-1 - (S51h.1 54 59)))).toNat by omega⟩
                            · unfold wX11_parse_295
                              unfold wX11_parse_297
                              exact ⟨⟨(Ch.wk (Ch.tr (Ch.tr hS51h hS240) hS247) (by decide) (by decide)), by omega, by omega, by omega, by omega, by omega, n247_2, n247_3, n247_4, (PE_new (PE.mv i51_8 (hS240.1 43 (by decide)) (hS240.2 88 (by decide))) hbr n247_6), n247_7, (n247_5.elim (fun h => Or.inl (by omega)) (fun h => Or.inr (Or.inl (by omega)))), by omega, by omega⟩, show (2 * (3020 - r247) + min 1 (max 0 (-1 - (S247.1 54 59)))).toNat < (2 * (3020 - v51_1) + min 1 (max 0 (-1 - (S51h.1 54 59)))).toNat by omega⟩
                          · intro q422
                            unfold wX11_parse_283
                            refine ⟨by omega, ?_⟩
                            refine ⟨fun h287 => ?_, fun h287 => ?_⟩
                            · unfold wX11_parse_295
                              unfold wX11_parse_297
                              exact ⟨⟨(Ch.wk (Ch.tr (Ch.tr hS51h hS240) hS247) (by decide) (by decide)), by omega, by omega, by omega, by omega, by omega, n247_2, n247_3, n247_4, (PE_last (by omega)), n247_7, (n247_5.elim (fun h => Or.inl (by omega)) (fun h => Or.inr (Or.inl (by omega)))), by omega, by omega⟩, show (2 * (3020 - r247) + min 1 (max 0 (-1 - (S247.1 54 59)))).toNat < (2 * (3020 - v51_1) + min 1 (max 0 (-1 - (S51h.1 54 59)))).toNat by omega⟩
                            · unfold wX11_parse_295
                              unfold wX11_parse_297
                              exact ⟨⟨(Ch.wk (Ch.tr (Ch.tr hS51h hS240) hS247) (by decide) (by decide)), by omega, by omega, by omega, by omega, by omega, n247_2, n247_3, n247_4, (PE_last (by omega)), n247_7, (n247_5.elim (fun h => Or.inl (by omega)) (fun h => Or.inr (Or.inl (by omega)))), by omega, by omega⟩, show (2 * (3020 - r247) + min 1 (max 0 (-1 - (S247.1 54 59)))).toNat < (2 * (3020 - v51_1) + min 1 (max 0 (-1 - (S51h.1 54 59)))).toNat by omega⟩
                        · unfold wX11_parse_265
                          intro q423
                          refine ⟨fun h270 => ?_, fun h270 => ?_⟩
                          · unfold wX11_parse_283
                            refine ⟨by omega, ?_⟩
                            refine ⟨fun h287 => ?_, fun h287 => ?_⟩
                            · unfold wX11_parse_295
                              unfold wX11_parse_297
                              exact ⟨⟨(Ch.wk (Ch.tr (Ch.tr hS51h hS240) hS247) (by decide) (by decide)), by omega, by omega, by omega, by omega, by omega, n247_2, n247_3, n247_4, (PE_new (PE.mv i51_8 (hS240.1 43 (by decide)) (hS240.2 88 (by decide))) hbr n247_6), n247_7, (n247_5.elim (fun h => Or.inl (by omega)) (fun h => Or.inr (Or.inl (by omega)))), by omega, by omega⟩, show (2 * (3020 - r247) + min 1 (max 0 (-1 - (S247.1 54 59)))).toNat < (2 * (3020 - v51_1) + min 1 (max 0 (-1 - (S51h.1 54 59)))).toNat by omega⟩
                            · unfold wX11_parse_295
                              unfold wX11_parse_297
                              exact ⟨⟨(Ch.wk (Ch.tr (Ch.tr hS51h hS240) hS247) (by decide) (by decide)), by omega, by omega, by omega, by omega, by omega, n247_2, n247_3, n247_4, (PE_new (PE.mv i51_8 (hS240.1 43 (by decide)) (hS240.2 88 (by decide))) hbr n247_6), n247_7, (n247_5.elim (fun h => Or.inl (by omega)) (fun h => Or.inr (Or.inl (by omega)))), by omega, by omega⟩, show (2 * (3020 - r247) + min 1 (max 0 (-1 - (S247.1 54 59)))).toNat < (2 * (3020 - v51_1) + min 1 (max 0 (-1 - (S51h.1 54 59)))).toNat by omega⟩
                          · intro q424
                            unfold wX11_parse_283
                            refine ⟨by omega, ?_⟩
                            refine ⟨fun h287 => ?_, fun h287 => ?_⟩
                            · unfold wX11_parse_295
                              unfold wX11_parse_297
                              exact ⟨⟨(Ch.wk (Ch.tr (Ch.tr hS51h hS240) hS247) (by decide) (by decide)), by omega, by omega, by omega, by omega, by omega, n247_2, n247_3, n247_4, (PE_last (by omega)), n247_7, (n247_5.elim (fun h => Or.inl (by omega)) (fun h => Or.inr (Or.inl (by omega)))), by omega, by omega⟩, show (2 * (3020 - r247) + min 1 (max 0 (-1 - (S247.1 54 59)))).toNat < (2 * (3020 - v51_1) + min 1 (max 0 (-1 - (S51h.1 54 59)))).toNat by omega⟩
                            · unfold wX11_parse_295
                              unfold wX11_parse_297
                              exact ⟨⟨(Ch.wk (Ch.tr (Ch.tr hS51h hS240) hS247) (by decide) (by decide)), by omega, by omega, by omega, by omega, by omega, n247_2, n247_3, n247_4, (PE_last (by omega)), n247_7, (n247_5.elim (fun h => Or.inl (by omega)) (fun h => Or.inr (Or.inl (by omega)))), by omega, by omega⟩, show (2 * (3020 - r247) + min 1 (max 0 (-1 - (S247.1 54 59)))).toNat < (2 * (3020 - v51_1) + min 1 (max 0 (-1 - (S51h.1 54 59)))).toNat by omega⟩
                      · refine ⟨by omega, ?_⟩
                        refine tX11_fail (by omega) (fun r232 S232 hS232 n232_0 => ?_)
                        unfold wX11_parse_297
                        have e425 : S232.1 54 43 = S51h.1 54 43 := hS232.1 43 (by decide)
                        have e426 : S232.1 54 43 = S51h.1 54 43 := hS232.1 43 (by decide)
                        exact ⟨⟨(Ch.wk (Ch.tr hS51h hS232) (by decide) (by decide)), by omega, by omega, by omega, by omega, by omega, (PA.mv i51_5 ((hS232).1 51 (by decide)) (by have e427 : S232.1 54 56 = S51h.1 54 56 := hS232.1 56 (by decide); omega) ((hS232).2 92 (by decide)) ((hS232).2 93 (by decide)) ((hS232).2 94 (by decide)) ((hS232).2 95 (by decide))), (PR.mv i51_6 ((hS232).1 43 (by decide)) ((hS232).1 51 (by decide)) ((hS232).2 86 (by decide)) ((hS232).2 87 (by decide)) ((hS232).2 88 (by decide)) ((hS232).2 90 (by decide)) ((hS232).2 91 (by decide))), (PO.mv i51_7 ((hS232).1 43 (by decide)) ((hS232).2 88 (by decide))), (PE.mv i51_8 ((hS232).1 43 (by decide)) ((hS232).2 88 (by decide))), (by
                              unfold PB
                              have e428 : S232.1 54 41 = S51h.1 54 41 := hS232.1 41 (by decide)
                              have e429 : S51h.1 54 41 = S18.1 54 41 := hS51h.1 41 (by decide)
                              have e430 : S18.1 54 41 = S12.1 54 41 := hS18.1 41 (by decide)
                              have e431 : S12.1 54 41 = S7.1 54 41 := hS12.1 41 (by decide)
                              have e432 : S7.1 54 41 = S2.1 54 41 := hS7.1 41 (by decide)
                              have e433 : S2.1 54 41 = S.1 54 41 := hS2.1 41 (by decide)
                              have e434 : S232.1 54 56 = S51h.1 54 56 := hS232.1 56 (by decide)
                              have e435 : S232.1 54 51 = S51h.1 54 51 := hS232.1 51 (by decide)
                              first
                              | exact Or.inl (by omega)
                              | exact (Classical.em (-1 ≤ S232.1 54 59)).elim (fun hb => Or.inl hb) (fun hb => Or.inr ⟨by omega, by omega, by omega⟩)), (by
                              unfold P1
                              have e436 : S232.1 54 43 = S51h.1 54 43 := hS232.1 43 (by decide)
                              first | exact Or.inr (Or.inl (by omega)) | exact Or.inl (by omega)), by omega, by omega⟩, show (2 * (3020 - v51_1) + min 1 (max 0 (-1 - (S232.1 54 59)))).toNat < (2 * (3020 - v51_1) + min 1 (max 0 (-1 - (S51h.1 54 59)))).toNat by omega⟩
                    · refine ⟨by omega, ?_⟩
                      refine ⟨fun h210 => ?_, fun h210 => ?_⟩
                      · unfold wX11_parse_225
                        refine ⟨by omega, ?_⟩
                        refine ⟨fun h227 => ?_, fun h227 => ?_⟩
                        · intro S240 hS240e
                          have hS240 : Ch [60] [] S51h S240 := Ch_I hS240e
                          have hS240v : S240.1 54 60 = 0 := pI_at hS240e
                          refine ⟨by omega, ?_⟩
                          refine ⟨by omega, ?_⟩
                          refine ⟨by omega, ?_⟩
                          have e437 : S240.1 54 41 = S51h.1 54 41 := hS240.1 41 (by decide)
                          have e438 : S51h.1 54 41 = S18.1 54 41 := hS51h.1 41 (by decide)
                          have e439 : S18.1 54 41 = S12.1 54 41 := hS18.1 41 (by decide)
                          have e440 : S12.1 54 41 = S7.1 54 41 := hS12.1 41 (by decide)
                          have e441 : S7.1 54 41 = S2.1 54 41 := hS7.1 41 (by decide)
                          have e442 : S2.1 54 41 = S.1 54 41 := hS2.1 41 (by decide)
                          have e443 : S240.1 54 41 = S51h.1 54 41 := hS240.1 41 (by decide)
                          have e444 : S51h.1 54 41 = S18.1 54 41 := hS51h.1 41 (by decide)
                          have e445 : S18.1 54 41 = S12.1 54 41 := hS18.1 41 (by decide)
                          have e446 : S12.1 54 41 = S7.1 54 41 := hS12.1 41 (by decide)
                          have e447 : S7.1 54 41 = S2.1 54 41 := hS7.1 41 (by decide)
                          have e448 : S2.1 54 41 = S.1 54 41 := hS2.1 41 (by decide)
                          have e449 : S240.1 54 56 = S51h.1 54 56 := hS240.1 56 (by decide)
                          have e450 : S240.1 54 51 = S51h.1 54 51 := hS240.1 51 (by decide)
                          have e451 : S240.1 54 43 = S51h.1 54 43 := hS240.1 43 (by decide)
                          have e452 : S240.1 54 43 = S51h.1 54 43 := hS240.1 43 (by decide)
                          refine tX11_beginTag (by omega) (by omega) (by omega) (by omega) (by omega) (by omega) (PA.mv2 i51_5 ((hS240).1 51 (by decide)) ((hS240).1 56 (by decide)) ((hS240).2 92 (by decide)) ((hS240).2 93 (by decide)) ((hS240).2 94 (by decide)) ((hS240).2 95 (by decide))) (PR.mv i51_6 ((hS240).1 43 (by decide)) ((hS240).1 51 (by decide)) ((hS240).2 86 (by decide)) ((hS240).2 87 (by decide)) ((hS240).2 88 (by decide)) ((hS240).2 90 (by decide)) ((hS240).2 91 (by decide))) (PO.mv i51_7 ((hS240).1 43 (by decide)) ((hS240).2 88 (by decide))) (PE.mv i51_8 ((hS240).1 43 (by decide)) ((hS240).2 88 (by decide))) (by omega) (fun r247 S247 hS247 n247_0 n247_1 n247_2 n247_3 n247_4 n247_5 n247_6 n247_7 => ?_)
                          have hbr : (S247.1 54 43 = S240.1 54 43 + 1 ∧ S247.2 88 (S240.1 54 43) = v51_2) ∨ S247.1 54 43 = S240.1 54 43 := by
                            rcases n247_5 with h | h
                            · exact Or.inl h
                            · exact Or.inr h.1
                          intro q453
                          refine ⟨fun h255 => ?_, fun h255 => ?_⟩
                          · unfold wX11_parse_265
                            intro q454
                            refine ⟨fun h270 => ?_, fun h270 => ?_⟩
                            · unfold wX11_parse_283
                              refine ⟨by omega, ?_⟩
                              refine ⟨fun h287 => ?_, fun h287 => ?_⟩
                              · unfold wX11_parse_295
                                unfold wX11_parse_297
                                exact ⟨⟨(Ch.wk (Ch.tr (Ch.tr hS51h hS240) hS247) (by decide) (by decide)), by omega, by omega, by omega, by omega, by omega, n247_2, n247_3, n247_4, (PE_new (PE.mv i51_8 (hS240.1 43 (by decide)) (hS240.2 88 (by decide))) hbr n247_6), n247_7, (n247_5.elim (fun h => Or.inl (by omega)) (fun h => Or.inr (Or.inl (by omega)))), by omega, by omega⟩, show (2 * (3020 - r247) + min 1 (max 0 (-1 - (S247.1 54 59)))).toNat < (2 * (3020 - v51_1) + min 1 (max 0 (-1 - (S51h.1 54 59)))).toNat by omega⟩
                              · unfold wX11_parse_295
                                unfold wX11_parse_297
                                exact ⟨⟨(Ch.wk (Ch.tr (Ch.tr hS51h hS240) hS247) (by decide) (by decide)), by omega, by omega, by omega, by omega, by omega, n247_2, n247_3, n247_4, (PE_new (PE.mv i51_8 (hS240.1 43 (by decide)) (hS240.2 88 (by decide))) hbr n247_6), n247_7, (n247_5.elim (fun h => Or.inl (by omega)) (fun h => Or.inr (Or.inl (by omega)))), by omega, by omega⟩, show (2 * (3020 - r247) + min 1 (max 0 (-1 - (S247.1 54 59)))).toNat < (2 * (3020 - v51_1) + min 1 (max 0 (-1 - (S51h.1 54 59)))).toNat by omega⟩
                            · intro q455
                              unfold wX11_parse_283
                              refine ⟨by omega, ?_⟩
                              refine ⟨fun h287 => ?_, fun h287 => ?_⟩
                              · unfold wX11_parse_295
                                unfold wX11_parse_297
                                exact ⟨⟨(Ch.wk (Ch.tr (Ch.tr hS51h hS240) hS247) (by decide) (by decide)), by omega, by omega, by omega, by omega, by omega, n247_2, n247_3, n247_4, (PE_last (by omega)), n247_7, (n247_5.elim (fun h => Or.inl (by omega)) (fun h => Or.inr (Or.inl (by omega)))), by omega, by omega⟩, show (2 * (3020 - r247) + min 1 (max 0 (-1 - (S247.1 54 59)))).toNat < (2 * (3020 - v51_1) + min 1 (max 0 (-1 - (S51h.1 54 59)))).toNat by omega⟩
                              · unfold wX11_parse_295
                                unfold wX11_parse_297
                                exact ⟨⟨(Ch.wk (Ch.tr (Ch.tr hS51h hS240) hS247) (by decide) (by decide)), by omega, by omega, by omega, by omega, by omega, n247_2, n247_3, n247_4, (PE_last (by omega)), n247_7, (n247_5.elim (fun h => Or.inl (by omega)) (fun h => Or.inr (Or.inl (by omega)))), by omega, by omega⟩, show (2 * (3020 - r247) + min 1 (max 0 (-1 - (S247.1 54 59)))).toNat < (2 * (3020 - v51_1) + min 1 (max 0 (-1 - (S51h.1 54 59)))).toNat by omega⟩
                          · unfold wX11_parse_265
                            intro q456
                            refine ⟨fun h270 => ?_, fun h270 => ?_⟩
                            · unfold wX11_parse_283
                              refine ⟨by omega, ?_⟩
                              refine ⟨fun h287 => ?_, fun h287 => ?_⟩
                              · unfold wX11_parse_295
                                unfold wX11_parse_297
                                exact ⟨⟨(Ch.wk (Ch.tr (Ch.tr hS51h hS240) hS247) (by decide) (by decide)), by omega, by omega, by omega, by omega, by omega, n247_2, n247_3, n247_4, (PE_new (PE.mv i51_8 (hS240.1 43 (by decide)) (hS240.2 88 (by decide))) hbr n247_6), n247_7, (n247_5.elim (fun h => Or.inl (by omega)) (fun h => Or.inr (Or.inl (by omega)))), by omega, by omega⟩, show (2 * (3020 - r247) + min 1 (max 0 (-1 - (S247.1 54 59)))).toNat < (2 * (3020 - v51_1) + min 1 (max 0 (-1 - (S51h.1 54 59)))).toNat by omega⟩
                              · unfold wX11_parse_295
                                unfold wX11_parse_297
                                exact ⟨⟨(Ch.wk (Ch.tr (Ch.tr hS51h hS240) hS247) (by decide) (by decide)), by omega, by omega, by omega, by omega, by omega, n247_2, n247_3, n247_4, (PE_new (PE.mv i51_8 (hS240.1 43 (by decide)) (hS240.2 88 (by decide))) hbr n247_6), n247_7, (n247_5.elim (fun h => Or.inl (by omega)) (fun h => Or.inr (Or.inl (by omega)))), by omega, by omega⟩, show (2 * (3020 - r247) + min 1 (max 0 (-1 - (S247.1 54 59)))).toNat < (2 * (3020 - v51_1) + min 1 (max 0 (-1 - (S51h.1 54 59)))).toNat by omega⟩
                            · intro q457
                              unfold wX11_parse_283
                              refine ⟨by omega, ?_⟩
                              refine ⟨fun h287 => ?_, fun h287 => ?_⟩
                              · unfold wX11_parse_295
                                unfold wX11_parse_297
                                exact ⟨⟨(Ch.wk (Ch.tr (Ch.tr hS51h hS240) hS247) (by decide) (by decide)), by omega, by omega, by omega, by omega, by omega, n247_2, n247_3, n247_4, (PE_last (by omega)), n247_7, (n247_5.elim (fun h => Or.inl (by omega)) (fun h => Or.inr (Or.inl (by omega)))), by omega, by omega⟩, show (2 * (3020 - r247) + min 1 (max 0 (-1 - (S247.1 54 59)))).toNat < (2 * (3020 - v51_1) + min 1 (max 0 (-1 - (S51h.1 54 59)))).toNat by omega⟩
                              · unfold wX11_parse_295
                                unfold wX11_parse_297
                                exact ⟨⟨(Ch.wk (Ch.tr (Ch.tr hS51h hS240) hS247) (by decide) (by decide)), by omega, by omega, by omega, by omega, by omega, n247_2, n247_3, n247_4, (PE_last (by omega)), n247_7, (n247_5.elim (fun h => Or.inl (by omega)) (fun h => Or.inr (Or.inl (by omega)))), by omega, by omega⟩, show (2 * (3020 - r247) + min 1 (max 0 (-1 - (S247.1 54 59)))).toNat < (2 * (3020 - v51_1) + min 1 (max 0 (-1 - (S51h.1 54 59)))).toNat by omega⟩
                        · refine ⟨by omega, ?_⟩
                          refine tX11_fail (by omega) (fun r232 S232 hS232 n232_0 => ?_)
                          unfold wX11_parse_297
                          have e458 : S232.1 54 43 = S51h.1 54 43 := hS232.1 43 (by decide)
                          have e459 : S232.1 54 43 = S51h.1 54 43 := hS232.1 43 (by decide)
                          exact ⟨⟨(Ch.wk (Ch.tr hS51h hS232) (by decide) (by decide)), by omega, by omega, by omega, by omega, by omega, (PA.mv i51_5 ((hS232).1 51 (by decide)) (by have e460 : S232.1 54 56 = S51h.1 54 56 := hS232.1 56 (by decide); omega) ((hS232).2 92 (by decide)) ((hS232).2 93 (by decide)) ((hS232).2 94 (by decide)) ((hS232).2 95 (by decide))), (PR.mv i51_6 ((hS232).1 43 (by decide)) ((hS232).1 51 (by decide)) ((hS232).2 86 (by decide)) ((hS232).2 87 (by decide)) ((hS232).2 88 (by decide)) ((hS232).2 90 (by decide)) ((hS232).2 91 (by decide))), (PO.mv i51_7 ((hS232).1 43 (by decide)) ((hS232).2 88 (by decide))), (PE.mv i51_8 ((hS232).1 43 (by decide)) ((hS232).2 88 (by decide))), (by
                                unfold PB
                                have e461 : S232.1 54 41 = S51h.1 54 41 := hS232.1 41 (by decide)
                                have e462 : S51h.1 54 41 = S18.1 54 41 := hS51h.1 41 (by decide)
                                have e463 : S18.1 54 41 = S12.1 54 41 := hS18.1 41 (by decide)
                                have e464 : S12.1 54 41 = S7.1 54 41 := hS12.1 41 (by decide)
                                have e465 : S7.1 54 41 = S2.1 54 41 := hS7.1 41 (by decide)
                                have e466 : S2.1 54 41 = S.1 54 41 := hS2.1 41 (by decide)
                                have e467 : S232.1 54 56 = S51h.1 54 56 := hS232.1 56 (by decide)
                                have e468 : S232.1 54 51 = S51h.1 54 51 := hS232.1 51 (by decide)
                                first
                                | exact Or.inl (by omega)
                                | exact (Classical.em (-1 ≤ S232.1 54 59)).elim (fun hb => Or.inl hb) (fun hb => Or.inr ⟨by omega, by omega, by omega⟩)), (by
                                unfold P1
                                have e469 : S232.1 54 43 = S51h.1 54 43 := hS232.1 43 (by decide)
                                first | exact Or.inr (Or.inl (by omega)) | exact Or.inl (by omega)), by omega, by omega⟩, show (2 * (3020 - v51_1) + min 1 (max 0 (-1 - (S232.1 54 59)))).toNat < (2 * (3020 - v51_1) + min 1 (max 0 (-1 - (S51h.1 54 59)))).toNat by omega⟩
                      · refine ⟨by omega, ?_⟩
                        refine ⟨by omega, ?_⟩
                        have e470 : S51h.1 54 41 = S18.1 54 41 := hS51h.1 41 (by decide)
                        have e471 : S18.1 54 41 = S12.1 54 41 := hS18.1 41 (by decide)
                        have e472 : S12.1 54 41 = S7.1 54 41 := hS12.1 41 (by decide)
                        have e473 : S7.1 54 41 = S2.1 54 41 := hS7.1 41 (by decide)
                        have e474 : S2.1 54 41 = S.1 54 41 := hS2.1 41 (by decide)
                        have e475 : S51h.1 54 41 = S18.1 54 41 := hS51h.1 41 (by decide)
                        have e476 : S18.1 54 41 = S12.1 54 41 := hS18.1 41 (by decide)
                        have e477 : S12.1 54 41 = S7.1 54 41 := hS12.1 41 (by decide)
                        have e478 : S7.1 54 41 = S2.1 54 41 := hS7.1 41 (by decide)
                        have e479 : S2.1 54 41 = S.1 54 41 := hS2.1 41 (by decide)
                        have e480 : S51h.1 54 41 = S18.1 54 41 := hS51h.1 41 (by decide)
                        have e481 : S18.1 54 41 = S12.1 54 41 := hS18.1 41 (by decide)
                        have e482 : S12.1 54 41 = S7.1 54 41 := hS12.1 41 (by decide)
                        have e483 : S7.1 54 41 = S2.1 54 41 := hS7.1 41 (by decide)
                        have e484 : S2.1 54 41 = S.1 54 41 := hS2.1 41 (by decide)
                        refine tX11_section (by omega) (by omega) (by omega) (by omega) (by omega) (by omega) (fun r218 S218 hS218 n218_0 n218_1 n218_2 n218_3 => ?_)
                        unfold wX11_parse_297
                        have e485 : S218.1 54 43 = S51h.1 54 43 := hS218.1 43 (by decide)
                        have e486 : S218.1 54 43 = S51h.1 54 43 := hS218.1 43 (by decide)
                        exact ⟨⟨(Ch.wk (Ch.tr hS51h hS218) (by decide) (by decide)), by omega, by omega, by omega, by omega, by omega, (PA.mv i51_5 ((hS218).1 51 (by decide)) (by omega) ((hS218).2 92 (by decide)) ((hS218).2 93 (by decide)) ((hS218).2 94 (by decide)) ((hS218).2 95 (by decide))), (PR.mv i51_6 ((hS218).1 43 (by decide)) ((hS218).1 51 (by decide)) ((hS218).2 86 (by decide)) ((hS218).2 87 (by decide)) ((hS218).2 88 (by decide)) ((hS218).2 90 (by decide)) ((hS218).2 91 (by decide))), (PO.mv i51_7 ((hS218).1 43 (by decide)) ((hS218).2 88 (by decide))), (PE.mv i51_8 ((hS218).1 43 (by decide)) ((hS218).2 88 (by decide))), (by
                              unfold PB
                              have e487 : S218.1 54 41 = S51h.1 54 41 := hS218.1 41 (by decide)
                              have e488 : S51h.1 54 41 = S18.1 54 41 := hS51h.1 41 (by decide)
                              have e489 : S18.1 54 41 = S12.1 54 41 := hS18.1 41 (by decide)
                              have e490 : S12.1 54 41 = S7.1 54 41 := hS12.1 41 (by decide)
                              have e491 : S7.1 54 41 = S2.1 54 41 := hS7.1 41 (by decide)
                              have e492 : S2.1 54 41 = S.1 54 41 := hS2.1 41 (by decide)
                              have e493 : S218.1 54 51 = S51h.1 54 51 := hS218.1 51 (by decide)
                              first
                              | exact Or.inl (by omega)
                              | exact (Classical.em (-1 ≤ S218.1 54 59)).elim (fun hb => Or.inl hb) (fun hb => Or.inr ⟨by omega, by omega, by omega⟩)), (by
                              unfold P1
                              have e494 : S218.1 54 43 = S51h.1 54 43 := hS218.1 43 (by decide)
                              first | exact Or.inr (Or.inl (by omega)) | exact Or.inl (by omega)), by omega, by omega⟩, show (2 * (3020 - r218) + min 1 (max 0 (-1 - (S218.1 54 59)))).toNat < (2 * (3020 - v51_1) + min 1 (max 0 (-1 - (S51h.1 54 59)))).toNat by omega⟩
                  · refine ⟨by omega, ?_⟩
                    refine ⟨fun h164 => ?_, fun h164 => ?_⟩
                    · unfold wX11_parse_200
                      refine ⟨by omega, ?_⟩
                      refine ⟨fun h204 => ?_, fun h204 => ?_⟩
                      · unfold wX11_parse_225
                        refine ⟨by omega, ?_⟩
                        refine ⟨fun h227 => ?_, fun h227 => ?_⟩
                        · intro S240 hS240e
                          have hS240 : Ch [60] [] S51h S240 := Ch_I hS240e
                          have hS240v : S240.1 54 60 = 0 := pI_at hS240e
                          refine ⟨by omega, ?_⟩
                          refine ⟨by omega, ?_⟩
                          refine ⟨by omega, ?_⟩
                          have e495 : S240.1 54 41 = S51h.1 54 41 := hS240.1 41 (by decide)
                          have e496 : S51h.1 54 41 = S18.1 54 41 := hS51h.1 41 (by decide)
                          have e497 : S18.1 54 41 = S12.1 54 41 := hS18.1 41 (by decide)
                          have e498 : S12.1 54 41 = S7.1 54 41 := hS12.1 41 (by decide)
                          have e499 : S7.1 54 41 = S2.1 54 41 := hS7.1 41 (by decide)
                          have e500 : S2.1 54 41 = S.1 54 41 := hS2.1 41 (by decide)
                          have e501 : S240.1 54 41 = S51h.1 54 41 := hS240.1 41 (by decide)
                          have e502 : S51h.1 54 41 = S18.1 54 41 := hS51h.1 41 (by decide)
                          have e503 : S18.1 54 41 = S12.1 54 41 := hS18.1 41 (by decide)
                          have e504 : S12.1 54 41 = S7.1 54 41 := hS12.1 41 (by decide)
                          have e505 : S7.1 54 41 = S2.1 54 41 := hS7.1 41 (by decide)
                          have e506 : S2.1 54 41 = S.1 54 41 := hS2.1 41 (by decide)
                          have e507 : S240.1 54 56 = S51h.1 54 56 := hS240.1 56 (by decide)
                          have e508 : S240.1 54 51 = S51h.1 54 51 := hS240.1 51 (by decide)
                          have e509 : S240.1 54 43 = S51h.1 54 43 := hS240.1 43 (by decide)
                          have e510 : S240.1 54 43 = S51h.1 54 43 := hS240.1 43 (by decide)
                          refine tX11_beginTag (by omega) (by omega) (by omega) (by omega) (by omega) (by omega) (PA.mv2 i51_5 ((hS240).1 51 (by decide)) ((hS240).1 56 (by decide)) ((hS240).2 92 (by decide)) ((hS240).2 93 (by decide)) ((hS240).2 94 (by decide)) ((hS240).2 95 (by decide))) (PR.mv i51_6 ((hS240).1 43 (by decide)) ((hS240).1 51 (by decide)) ((hS240).2 86 (by decide)) ((hS240).2 87 (by decide)) ((hS240).2 88 (by decide)) ((hS240).2 90 (by decide)) ((hS240).2 91 (by decide))) (PO.mv i51_7 ((hS240).1 43 (by decide)) ((hS240).2 88 (by decide))) (PE.mv i51_8 ((hS240).1 43 (by decide)) ((hS240).2 88 (by decide))) (by omega) (fun r247 S247 hS247 n247_0 n247_1 n247_2 n247_3 n247_4 n247_5 n247_6 n247_7 => ?_)
                          have hbr : (S247.1 54 43 = S240.1 54 43 + 1 ∧ S247.2 88 (S240.1 54 43) = v51_2) ∨ S247.1 54 43 = S240.1 54 43 := by
                            rcases n247_5 with h | h
                            · exact Or.inl h
                            · exact Or.inr h.1
                          intro q511
                          refine ⟨fun h255 => ?_, fun h255 => ?_⟩
                          · unfold wX11_parse_265
                            intro q512
                            refine ⟨fun h270 => ?_, fun h270 => ?_⟩
                            · unfold wX11_parse_283
                              refine ⟨by omega, ?_⟩
                              refine ⟨fun h287 => ?_, fun h287 => ?_⟩
                              · unfold wX11_parse_295
                                unfold wX11_parse_297
                                exact ⟨⟨(Ch.wk (Ch.tr (Ch.tr hS51h hS240) hS247) (by decide) (by decide)), by omega, by omega, by omega, by omega, by omega, n247_2, n247_3, n247_4, (PE_new (PE.mv i51_8 (hS240.1 43 (by decide)) (hS240.2 88 (by decide))) hbr n247_6), n247_7, (n247_5.elim (fun h => Or.inl (by omega)) (fun h => Or.inr (Or.inl (by omega)))), by omega, by omega⟩, show (2 * (3020 - r247) + min 1 (max 0 (-1 - (S247.1 54 59)))).toNat < (2 * (3020 - v51_1) + min 1 (max 0 (-1 - (S51h.1 54 59)))).toNat by omega⟩
                              · unfold wX11_parse_295
                                unfold wX11_parse_297
                                exact ⟨⟨(Ch.wk (Ch.tr (Ch.tr hS51h hS240) hS247) (by decide) (by decide)), by omega, by omega, by omega, by omega, by omega, n247_2, n247_3, n247_4, (PE_new (PE.mv i51_8 (hS240.1 43 (by decide)) (hS240.2 88 (by decide))) hbr n247_6), n247_7, (n247_5.elim (fun h => Or.inl (by omega)) (fun h => Or.inr (Or.inl (by omega)))), by omega, by omega⟩, show (2 * (3020 - r247) + min 1 (max 0 (-1 - (S247.1 54 59)))).toNat < (2 * (3020 - v51_1) + min 1 (max 0 (-1 - (S51h.1 54 59)))).toNat by omega⟩
                            · intro q513
                              unfold wX11_parse_283
                              refine ⟨by omega, ?_⟩
                              refine ⟨fun h287 => ?_, fun h287 => ?_⟩
                              · unfold wX11_parse_295
                                unfold wX11_parse_297
                                exact ⟨⟨(Ch.wk (Ch.tr (Ch.tr hS51h hS240) hS247) (by decide) (by decide)), by omega, by omega, by omega, by omega, by omega, n247_2, n247_3, n247_4, (PE_last (by omega)), n247_7, (n247_5.elim (fun h => Or.inl (by omega)) (fun h => Or.inr (Or.inl (by omega)))), by omega, by omega⟩, show (2 * (3020 - r247) + min 1 (max 0 (-1 - (S247.1 54 59)))).toNat < (2 * (3020 - v51_1) + min 1 (max 0 (-1 - (S51h.1 54 59)))).toNat by omega⟩
                              · unfold wX11_parse_295
                                unfold wX11_parse_297
                                exact ⟨⟨(Ch.wk (Ch.tr (Ch.tr hS51h hS240) hS247) (by decide) (by decide)), by omega, by omega, by omega, by omega, by omega, n247_2, n247_3, n247_4, (PE_last (by omega)), n247_7, (n247_5.elim (fun h => Or.inl (by omega)) (fun h => Or.inr (Or.inl (by omega)))), by omega, by omega⟩, show (2 * (3020 - r247) + min 1 (max 0 (-1 - (S247.1 54 59)))).toNat < (2 * (3020 - v51_1) + min 1 (max 0 (-1 - (S51h.1 54 59)))).toNat by omega⟩
                          · unfold wX11_parse_265
                            intro q514
                            refine ⟨fun h270 => ?_, fun h270 => ?_⟩
                            · unfold wX11_parse_283
                              refine ⟨by omega, ?_⟩
                              refine ⟨fun h287 => ?_, fun h287 => ?_⟩
                              · unfold wX11_parse_295
                                unfold wX11_parse_297
                                exact ⟨⟨(Ch.wk (Ch.tr (Ch.tr hS51h hS240) hS247) (by decide) (by decide)), by omega, by omega, by omega, by omega, by omega, n247_2, n247_3, n247_4, (PE_new (PE.mv i51_8 (hS240.1 43 (by decide)) (hS240.2 88 (by decide))) hbr n247_6), n247_7, (n247_5.elim (fun h => Or.inl (by omega)) (fun h => Or.inr (Or.inl (by omega)))), by omega, by omega⟩, show (2 * (3020 - r247) + min 1 (max 0 (-1 - (S247.1 54 59)))).toNat < (2 * (3020 - v51_1) + min 1 (max 0 (-1 - (S51h.1 54 59)))).toNat by omega⟩
                              · unfold wX11_parse_295
                                unfold wX11_parse_297
                                exact ⟨⟨(Ch.wk (Ch.tr (Ch.tr hS51h hS240) hS247) (by decide) (by decide)), by omega, by omega, by omega, by omega, by omega, n247_2, n247_3, n247_4, (PE_new (PE.mv i51_8 (hS240.1 43 (by decide)) (hS240.2 88 (by decide))) hbr n247_6), n247_7, (n247_5.elim (fun h => Or.inl (by omega)) (fun h => Or.inr (Or.inl (by omega)))), by omega, by omega⟩, show (2 * (3020 - r247) + min 1 (max 0 (-1 - (S247.1 54 59)))).toNat < (2 * (3020 - v51_1) + min 1 (max 0 (-1 - (S51h.1 54 59)))).toNat by omega⟩
                            · intro q515
                              unfold wX11_parse_283
                              refine ⟨by omega, ?_⟩
                              refine ⟨fun h287 => ?_, fun h287 => ?_⟩
                              · unfold wX11_parse_295
                                unfold wX11_parse_297
                                exact ⟨⟨(Ch.wk (Ch.tr (Ch.tr hS51h hS240) hS247) (by decide) (by decide)), by omega, by omega, by omega, by omega, by omega, n247_2, n247_3, n247_4, (PE_last (by omega)), n247_7, (n247_5.elim (fun h => Or.inl (by omega)) (fun h => Or.inr (Or.inl (by omega)))), by omega, by omega⟩, show (2 * (3020 - r247) + min 1 (max 0 (-1 - (S247.1 54 59)))).toNat < (2 * (3020 - v51_1) + min 1 (max 0 (-1 - (S51h.1 54 59)))).toNat by omega⟩
                              · unfold wX11_parse_295
                                unfold wX11_parse_297
                                exact ⟨⟨(Ch.wk (Ch.tr (Ch.tr hS51h hS240) hS247) (by decide) (by decide)), by omega, by omega, by omega, by omega, by omega, n247_2, n247_3, n247_4, (PE_last (by omega)), n247_7, (n247_5.elim (fun h => Or.inl (by omega)) (fun h => Or.inr (Or.inl (by omega)))), by omega, by omega⟩, show (2 * (3020 - r247) + min 1 (max 0 (-1 - (S247.1 54 59)))).toNat < (2 * (3020 - v51_1) + min 1 (max 0 (-1 - (S51h.1 54 59)))).toNat by omega⟩
                        · refine ⟨by omega, ?_⟩
                          refine tX11_fail (by omega) (fun r232 S232 hS232 n232_0 => ?_)
                          unfold wX11_parse_297
                          have e516 : S232.1 54 43 = S51h.1 54 43 := hS232.1 43 (by decide)
                          have e517 : S232.1 54 43 = S51h.1 54 43 := hS232.1 43 (by decide)
                          exact ⟨⟨(Ch.wk (Ch.tr hS51h hS232) (by decide) (by decide)), by omega, by omega, by omega, by omega, by omega, (PA.mv i51_5 ((hS232).1 51 (by decide)) (by have e518 : S232.1 54 56 = S51h.1 54 56 := hS232.1 56 (by decide); omega) ((hS232).2 92 (by decide)) ((hS232).2 93 (by decide)) ((hS232).2 94 (by decide)) ((hS232).2 95 (by decide))), (PR.mv i51_6 ((hS232).1 43 (by decide)) ((hS232).1 51 (by decide)) ((hS232).2 86 (by decide)) ((hS232).2 87 (by decide)) ((hS232).2 88 (by decide)) ((hS232).2 90 (by decide)) ((hS232).2 91 (by decide))), (PO.mv i51_7 ((hS232).1 43 (by decide)) ((hS232).2 88 (by decide))), (PE.mv i51_8 ((hS232).1 43 (by decide)) ((hS232).2 88 (by decide))), (by
                                unfold PB
                                have e519 : S232.1 54 41 = S51h.1 54 41 := hS232.1 41 (by decide)
                                have e520 : S51h.1 54 41 = S18.1 54 41 := hS51h.1 41 (by decide)
                                have e521 : S18.1 54 41 = S12.1 54 41 := hS18.1 41 (by decide)
                                have e522 : S12.1 54 41 = S7.1 54 41 := hS12.1 41 (by decide)
                                have e523 : S7.1 54 41 = S2.1 54 41 := hS7.1 41 (by decide)
                                have e524 : S2.1 54 41 = S.1 54 41 := hS2.1 41 (by decide)
                                have e525 : S232.1 54 56 = S51h.1 54 56 := hS232.1 56 (by decide)
                                have e526 : S232.1 54 51 = S51h.1 54 51 := hS232.1 51 (by decide)
                                first
                                | exact Or.inl (by omega)
                                | exact (Classical.em (-1 ≤ S232.1 54 59)).elim (fun hb => Or.inl hb) (fun hb => Or.inr ⟨by omega, by omega, by omega⟩)), (by
                                unfold P1
                                have e527 : S232.1 54 43 = S51h.1 54 43 := hS232.1 43 (by decide)
                                first | exact Or.inr (Or.inl (by omega)) | exact Or.inl (by omega)), by omega, by omega⟩, show (2 * (3020 - v51_1) + min 1 (max 0 (-1 - (S232.1 54 59)))).toNat < (2 * (3020 - v51_1) + min 1 (max 0 (-1 - (S51h.1 54 59)))).toNat by omega⟩
                      · refine ⟨by omega, ?_⟩
                        refine ⟨fun h210 => ?_, fun h210 => ?_⟩
                        · unfold wX11_parse_225
                          refine ⟨by omega, ?_⟩
                          refine ⟨fun h227 => ?_, fun h227 => ?_⟩
                          · intro S240 hS240e
                            have hS240 : Ch [60] [] S51h S240 := Ch_I hS240e
                            have hS240v : S240.1 54 60 = 0 := pI_at hS240e
                            refine ⟨by omega, ?_⟩
                            refine ⟨by omega, ?_⟩
                            refine ⟨by omega, ?_⟩
                            have e528 : S240.1 54 41 = S51h.1 54 41 := hS240.1 41 (by decide)
                            have e529 : S51h.1 54 41 = S18.1 54 41 := hS51h.1 41 (by decide)
                            have e530 : S18.1 54 41 = S12.1 54 41 := hS18.1 41 (by decide)
                            have e531 : S12.1 54 41 = S7.1 54 41 := hS12.1 41 (by decide)
                            have e532 : S7.1 54 41 = S2.1 54 41 := hS7.1 41 (by decide)
                            have e533 : S2.1 54 41 = S.1 54 41 := hS2.1 41 (by decide)
                            have e534 : S240.1 54 41 = S51h.1 54 41 := hS240.1 41 (by decide)
                            have e535 : S51h.1 54 41 = S18.1 54 41 := hS51h.1 41 (by decide)
                            have e536 : S18.1 54 41 = S12.1 54 41 := hS18.1 41 (by decide)
                            have e537 : S12.1 54 41 = S7.1 54 41 := hS12.1 41 (by decide)
                            have e538 : S7.1 54 41 = S2.1 54 41 := hS7.1 41 (by decide)
                            have e539 : S2.1 54 41 = S.1 54 41 := hS2.1 41 (by decide)
                            have e540 : S240.1 54 56 = S51h.1 54 56 := hS240.1 56 (by decide)
                            have e541 : S240.1 54 51 = S51h.1 54 51 := hS240.1 51 (by decide)
                            have e542 : S240.1 54 43 = S51h.1 54 43 := hS240.1 43 (by decide)
                            have e543 : S240.1 54 43 = S51h.1 54 43 := hS240.1 43 (by decide)
                            refine tX11_beginTag (by omega) (by omega) (by omega) (by omega) (by omega) (by omega) (PA.mv2 i51_5 ((hS240).1 51 (by decide)) ((hS240).1 56 (by decide)) ((hS240).2 92 (by decide)) ((hS240).2 93 (by decide)) ((hS240).2 94 (by decide)) ((hS240).2 95 (by decide))) (PR.mv i51_6 ((hS240).1 43 (by decide)) ((hS240).1 51 (by decide)) ((hS240).2 86 (by decide)) ((hS240).2 87 (by decide)) ((hS240).2 88 (by decide)) ((hS240).2 90 (by decide)) ((hS240).2 91 (by decide))) (PO.mv i51_7 ((hS240).1 43 (by decide)) ((hS240).2 88 (by decide))) (PE.mv i51_8 ((hS240).1 43 (by decide)) ((hS240).2 88 (by decide))) (by omega) (fun r247 S247 hS247 n247_0 n247_1 n247_2 n247_3 n247_4 n247_5 n247_6 n247_7 => ?_)
                            have hbr : (S247.1 54 43 = S240.1 54 43 + 1 ∧ S247.2 88 (S240.1 54 43) = v51_2) ∨ S247.1 54 43 = S240.1 54 43 := by
                              rcases n247_5 with h | h
                              · exact Or.inl h
                              · exact Or.inr h.1
                            intro q544
                            refine ⟨fun h255 => ?_, fun h255 => ?_⟩
                            · unfold wX11_parse_265
                              intro q545
                              refine ⟨fun h270 => ?_, fun h270 => ?_⟩
                              · unfold wX11_parse_283
                                refine ⟨by omega, ?_⟩
                                refine ⟨fun h287 => ?_, fun h287 => ?_⟩
                                · unfold wX11_parse_295
                                  unfold wX11_parse_297
                                  exact ⟨⟨(Ch.wk (Ch.tr (Ch.tr hS51h hS240) hS247) (by decide) (by decide)), by omega, by omega, by omega, by omega, by omega, n247_2, n247_3, n247_4, (PE_new (PE.mv i51_8 (hS240.1 43 (by decide)) (hS240.2 88 (by decide))) hbr n247_6), n247_7, (n247_5.elim (fun h => Or.inl (by omega)) (fun h => Or.inr (Or.inl (by omega)))), by omega, by omega⟩, show (2 * (3020 - r247) + min 1 (max 0 (-1 - (S247.1 54 59)))).toNat < (2 * (3020 - v51_1) + min 1 (max 0 (-1 - (S51h.1 54 59)))).toNat by omega⟩
                                · unfold wX11_parse_295
                                  unfold wX11_parse_297
                                  exact ⟨⟨(Ch.wk (Ch.tr (Ch.tr hS51h hS240) hS247) (by decide) (by decide)), by omega, by omega, by omega, by omega, by omega, n247_2, n247_3, n247_4, (PE_new (PE.mv i51_8 (hS240.1 43 (by decide)) (hS240.2 88 (by decide))) hbr n247_6), n247_7, (n247_5.elim (fun h => Or.inl (by omega)) (fun h => Or.inr (Or.inl (by omega)))), by omega, by omega⟩, show (2 * (3020 - r247) + min 1 (max 0 (-1 - (S247.1 54 59)))).toNat < (2 * (3020 - v51_1) + min 1 (max 0 (-1 - (S51h.1 54 59)))).toNat by omega⟩
                              · intro q546
                                unfold wX11_parse_283
                                refine ⟨by omega, ?_⟩
                                refine ⟨fun h287 => ?_, fun h287 => ?_⟩
                                · unfold wX11_parse_295
                                  unfold wX11_parse_297
                                  exact ⟨⟨(Ch.wk (Ch.tr (Ch.tr hS51h hS240) hS247) (by decide) (by decide)), by omega, by omega, by omega, by omega, by omega, n247_2, n247_3, n247_4, (PE_last (by omega)), n247_7, (n247_5.elim (fun h => Or.inl (by omega)) (fun h => Or.inr (Or.inl (by omega)))), by omega, by omega⟩, show (2 * (3020 - r247) + min 1 (max 0 (-1 - (S247.1 54 59)))).toNat < (2 * (3020 - v51_1) + min 1 (max 0 (-1 - (S51h.1 54 59)))).toNat by omega⟩
                                · unfold wX11_parse_295
                                  unfold wX11_parse_297
                                  exact ⟨⟨(Ch.wk (Ch.tr (Ch.tr hS51h hS240) hS247) (by decide) (by decide)), by omega, by omega, by omega, by omega, by omega, n247_2, n247_3, n247_4, (PE_last (by omega)), n247_7, (n247_5.elim (fun h => Or.inl (by omega)) (fun h => Or.inr (Or.inl (by omega)))), by omega, by omega⟩, show (2 * (3020 - r247) + min 1 (max 0 (-1 - (S247.1 54 59)))).toNat < (2 * (3020 - v51_1) + min 1 (max 0 (-1 - (S51h.1 54 59)))).toNat by omega⟩
                            · unfold wX11_parse_265
                              intro q547
                              refine ⟨fun h270 => ?_, fun h270 => ?_⟩
                              · unfold wX11_parse_283
                                refine ⟨by omega, ?_⟩
                                refine ⟨fun h287 => ?_, fun h287 => ?_⟩
                                · unfold wX11_parse_295
                                  unfold wX11_parse_297
                                  exact ⟨⟨(Ch.wk (Ch.tr (Ch.tr hS51h hS240) hS247) (by decide) (by decide)), by omega, by omega, by omega, by omega, by omega, n247_2, n247_3, n247_4, (PE_new (PE.mv i51_8 (hS240.1 43 (by decide)) (hS240.2 88 (by decide))) hbr n247_6), n247_7, (n247_5.elim (fun h => Or.inl (by omega)) (fun h => Or.inr (Or.inl (by omega)))), by omega, by omega⟩, show (2 * (3020 - r247) + min 1 (max 0 (-1 - (S247.1 54 59)))).toNat < (2 * (3020 - v51_1) + min 1 (max 0 (-1 - (S51h.1 54 59)))).toNat by omega⟩
                                · unfold wX11_parse_295
                                  unfold wX11_parse_297
                                  exact ⟨⟨(Ch.wk (Ch.tr (Ch.tr hS51h hS240) hS247) (by decide) (by decide)), by omega, by omega, by omega, by omega, by omega, n247_2, n247_3, n247_4, (PE_new (PE.mv i51_8 (hS240.1 43 (by decide)) (hS240.2 88 (by decide))) hbr n247_6), n247_7, (n247_5.elim (fun h => Or.inl (by omega)) (fun h => Or.inr (Or.inl (by omega)))), by omega, by omega⟩, show (2 * (3020 - r247) + min 1 (max 0 (-1 - (S247.1 54 59)))).toNat < (2 * (3020 - v51_1) + min 1 (max 0 (-1 - (S51h.1 54 59)))).toNat by omega⟩
                              · intro q548
                                unfold wX11_parse_283
                                refine ⟨by omega, ?_⟩
                                refine ⟨fun h287 => ?_, fun h287 => ?_⟩
                                · unfold wX11_parse_295
                                  unfold wX11_parse_297
                                  exact ⟨⟨(Ch.wk (Ch.tr (Ch.tr hS51h hS240) hS247) (by decide) (by decide)), by omega, by omega, by omega, by omega, by omega, n247_2, n247_3, n247_4, (PE_last (by omega)), n247_7, (n247_5.elim (fun h => Or.inl (by omega)) (fun h => Or.inr (Or.inl (by omega)))), by omega, by omega⟩, show (2 * (3020 - r247) + min 1 (max 0 (-1 - (S247.1 54 59)))).toNat < (2 * (3020 - v51_1) + min 1 (max 0 (-1 - (S51h.1 54 59)))).toNat by omega⟩
                                · unfold wX11_parse_295
                                  unfold wX11_parse_297
                                  exact ⟨⟨(Ch.wk (Ch.tr (Ch.tr hS51h hS240) hS247) (by decide) (by decide)), by omega, by omega, by omega, by omega, by omega, n247_2, n247_3, n247_4, (PE_last (by omega)), n247_7, (n247_5.elim (fun h => Or.inl (by omega)) (fun h => Or.inr (Or.inl (by omega)))), by omega, by omega⟩, show (2 * (3020 - r247) + min 1 (max 0 (-1 - (S247.1 54 59)))).toNat < (2 * (3020 - v51_1) + min 1 (max 0 (-1 - (S51h.1 54 59)))).toNat by omega⟩
                          · refine ⟨by omega, ?_⟩
                            refine tX11_fail (by omega) (fun r232 S232 hS232 n232_0 => ?_)
                            unfold wX11_parse_297
                            have e549 : S232.1 54 43 = S51h.1 54 43 := hS232.1 43 (by decide)
                            have e550 : S232.1 54 43 = S51h.1 54 43 := hS232.1 43 (by decide)
                            exact ⟨⟨(Ch.wk (Ch.tr hS51h hS232) (by decide) (by decide)), by omega, by omega, by omega, by omega, by omega, (PA.mv i51_5 ((hS232).1 51 (by decide)) (by have e551 : S232.1 54 56 = S51h.1 54 56 := hS232.1 56 (by decide); omega) ((hS232).2 92 (by decide)) ((hS232).2 93 (by decide)) ((hS232).2 94 (by decide)) ((hS232).2 95 (by decide))), (PR.mv i51_6 ((hS232).1 43 (by decide)) ((hS232).1 51 (by decide)) ((hS232).2 86 (by decide)) ((hS232).2 87 (by decide)) ((hS232).2 88 (by decide)) ((hS232).2 90 (by decide)) ((hS232).2 91 (by decide))), (PO.mv i51_7 ((hS232).1 43 (by decide)) ((hS232).2 88 (by decide))), (PE.mv i51_8 ((hS232).1 43 (by decide)) ((hS232).2 88 (by decide))), (by
                                  unfold PB
                                  have e552 : S232.1 54 41 = S51h.1 54 41 := hS232.1 41 (by decide)
                                  have e553 : S51h.1 54 41 = S18.1 54 41 := hS51h.1 41 (by decide)
                                  have e554 : S18.1 54 41 = S12.1 54 41 := hS18.1 41 (by decide)
                                  have e555 : S12.1 54 41 = S7.1 54 41 := hS12.1 41 (by decide)
                                  have e556 : S7.1 54 41 = S2.1 54 41 := hS7.1 41 (by decide)
                                  have e557 : S2.1 54 41 = S.1 54 41 := hS2.1 41 (by decide)
                                  have e558 : S232.1 54 56 = S51h.1 54 56 := hS232.1 56 (by decide)
                                  have e559 : S232.1 54 51 = S51h.1 54 51 := hS232.1 51 (by decide)
                                  first
                                  | exact Or.inl (by omega)
                                  | exact (Classical.em (-1 ≤ S232.1 54 59)).elim (fun hb => Or.inl hb) (fun hb => Or.inr ⟨by omega, by omega, by omega⟩)), (by
                                  unfold P1
                                  have e560 : S232.1 54 43 = S51h.1 54 43 := hS232.1 43 (by decide)
                                  first | exact Or.inr (Or.inl (by omega)) | exact Or.inl (by omega)), by omega, by omega⟩, show (2 * (3020 - v51_1) + min 1 (max 0 (-1 - (S232.1 54 59)))).toNat < (2 * (3020 - v51_1) + min 1 (max 0 (-1 - (S51h.1 54 59)))).toNat by omega⟩
                        · refine ⟨by omega, ?_⟩
                          refine ⟨by omega, ?_⟩
                          have e561 : S51h.1 54 41 = S18.1 54 41 := hS51h.1 41 (by decide)
                          have e562 : S18.1 54 41 = S12.1 54 41 := hS18.1 41 (by decide)
                          have e563 : S12.1 54 41 = S7.1 54 41 := hS12.1 41 (by decide)
                          have e564 : S7.1 54 41 = S2.1 54 41 := hS7.1 41 (by decide)
                          have e565 : S2.1 54 41 = S.1 54 41 := hS2.1 41 (by decide)
                          have e566 : S51h.1 54 41 = S18.1 54 41 := hS51h.1 41 (by decide)
                          have e567 : S18.1 54 41 = S12.1 54 41 := hS18.1 41 (by decide)
                          have e568 : S12.1 54 41 = S7.1 54 41 := hS12.1 41 (by decide)
                          have e569 : S7.1 54 41 = S2.1 54 41 := hS7.1 41 (by decide)
                          have e570 : S2.1 54 41 = S.1 54 41 := hS2.1 41 (by decide)
                          have e571 : S51h.1 54 41 = S18.1 54 41 := hS51h.1 41 (by decide)
                          have e572 : S18.1 54 41 = S12.1 54 41 := hS18.1 41 (by decide)
                          have e573 : S12.1 54 41 = S7.1 54 41 := hS12.1 41 (by decide)
                          have e574 : S7.1 54 41 = S2.1 54 41 := hS7.1 41 (by decide)
                          have e575 : S2.1 54 41 = S.1 54 41 := hS2.1 41 (by decide)
                          refine tX11_section (by omega) (by omega) (by omega) (by omega) (by omega) (by omega) (fun r218 S218 hS218 n218_0 n218_1 n218_2 n218_3 => ?_)
                          unfold wX11_parse_297
                          have e576 : S218.1 54 43 = S51h.1 54 43 := hS218.1 43 (by decide)
                          have e577 : S218.1 54 43 = S51h.1 54 43 := hS218.1 43 (by decide)
                          exact ⟨⟨(Ch.wk (Ch.tr hS51h hS218) (by decide) (by decide)), by omega, by omega, by omega, by omega, by omega, (PA.mv i51_5 ((hS218).1 51 (by decide)) (by omega) ((hS218).2 92 (by decide)) ((hS218).2 93 (by decide)) ((hS218).2 94 (by decide)) ((hS218).2 95 (by decide))), (PR.mv i51_6 ((hS218).1 43 (by decide)) ((hS218).1 51 (by decide)) ((hS218).2 86 (by decide)) ((hS218).2 87 (by decide)) ((hS218).2 88 (by decide)) ((hS218).2 90 (by decide)) ((hS218).2 91 (by decide))), (PO.mv i51_7 ((hS218).1 43 (by decide)) ((hS218).2 88 (by decide))), (PE.mv i51_8 ((hS218).1 43 (by decide)) ((hS218).2 88 (by decide))), (by
                                unfold PB
                                have e578 : S218.1 54 41 = S51h.1 54 41 := hS218.1 41 (by decide)
                                have e579 : S51h.1 54 41 = S18.1 54 41 := hS51h.1 41 (by decide)
                                have e580 : S18.1 54 41 = S12.1 54 41 := hS18.1 41 (by decide)
                                have e581 : S12.1 54 41 = S7.1 54 41 := hS12.1 41 (by decide)
                                have e582 : S7.1 54 41 = S2.1 54 41 := hS7.1 41 (by decide)
                                have e583 : S2.1 54 41 = S.1 54 41 := hS2.1 41 (by decide)
                                have e584 : S218.1 54 51 = S51h.1 54 51 := hS218.1 51 (by decide)
                                first
                                | exact Or.inl (by omega)
                                | exact (Classical.em (-1 ≤ S218.1 54 59)).elim (fun hb => Or.inl hb) (fun hb => Or.inr ⟨by omega, by omega, by omega⟩)), (by
                                unfold P1
                                have e585 : S218.1 54 43 = S51h.1 54 43 := hS218.1 43 (by decide)
                                first | exact Or.inr (Or.inl (by omega)) | exact Or.inl (by omega)), by omega, by omega⟩, show (2 * (3020 - r218) + min 1 (max 0 (-1 - (S218.1 54 59)))).toNat < (2 * (3020 - v51_1) + min 1 (max 0 (-1 - (S51h.1 54 59)))).toNat by omega⟩
                    · have hE2 := hE.2.resolve_left (by omega)
                      have hpr := i51_6.at (x := v51_2) (by omega) (by omega)
                      refine ⟨by omega, ?_⟩
                      have e586 : S51h.1 54 41 = S18.1 54 41 := hS51h.1 41 (by decide)
                      have e587 : S18.1 54 41 = S12.1 54 41 := hS18.1 41 (by decide)
                      have e588 : S12.1 54 41 = S7.1 54 41 := hS12.1 41 (by decide)
                      have e589 : S7.1 54 41 = S2.1 54 41 := hS7.1 41 (by decide)
                      have e590 : S2.1 54 41 = S.1 54 41 := hS2.1 41 (by decide)
                      have e591 : S51h.1 54 41 = S18.1 54 41 := hS51h.1 41 (by decide)
                      have e592 : S18.1 54 41 = S12.1 54 41 := hS18.1 41 (by decide)
                      have e593 : S12.1 54 41 = S7.1 54 41 := hS12.1 41 (by decide)
                      have e594 : S7.1 54 41 = S2.1 54 41 := hS7.1 41 (by decide)
                      have e595 : S2.1 54 41 = S.1 54 41 := hS2.1 41 (by decide)
                      have e596 : S51h.1 54 41 = S18.1 54 41 := hS51h.1 41 (by decide)
                      have e597 : S18.1 54 41 = S12.1 54 41 := hS18.1 41 (by decide)
                      have e598 : S12.1 54 41 = S7.1 54 41 := hS12.1 41 (by decide)
                      have e599 : S7.1 54 41 = S2.1 54 41 := hS7.1 41 (by decide)
                      have e600 : S2.1 54 41 = S.1 54 41 := hS2.1 41 (by decide)
                      refine tX11_endTag (by omega) (by omega) (by omega) (by omega) (by omega) (fun r170 S170 hS170 n170_0 n170_1 n170_2 => ?_)
                      refine ⟨by omega, by omega, ?_⟩
                      intro q601
                      have e602 : S170.2 88 (v51_2) = S51h.2 88 (v51_2) := congrFun (hS170.2 88 (by decide)) _
                      intro x180 hx180
                      subst hx180
                      refine ⟨fun h187 => ?_, fun h187 => ?_⟩
                      · unfold wX11_parse_195
                        unfold wX11_parse_297
                        have e603 : S170.1 54 43 = S51h.1 54 43 := hS170.1 43 (by decide)
                        have e604 : S170.1 54 43 = S51h.1 54 43 := hS170.1 43 (by decide)
                        exact ⟨⟨(Ch.wk (Ch.tr hS51h hS170) (by decide) (by decide)), by omega, by omega, by omega, by omega, by omega, (PA.mv i51_5 ((hS170).1 51 (by decide)) (by have e605 : S170.1 54 56 = S51h.1 54 56 := hS170.1 56 (by decide); omega) ((hS170).2 92 (by decide)) ((hS170).2 93 (by decide)) ((hS170).2 94 (by decide)) ((hS170).2 95 (by decide))), (PR.mv i51_6 ((hS170).1 43 (by decide)) ((hS170).1 51 (by decide)) ((hS170).2 86 (by decide)) ((hS170).2 87 (by decide)) ((hS170).2 88 (by decide)) ((hS170).2 90 (by decide)) ((hS170).2 91 (by decide))), (PO.mv i51_7 ((hS170).1 43 (by decide)) ((hS170).2 88 (by decide))), (by
                              rw [show S170.2 88 v51_2 = S51h.2 88 v51_2 from congrFun (hS170.2 88 (by decide)) _]
                              exact (PE_up (e := v51_2) i51_6 i51_7 (by omega) (by omega)).mv (hS170.1 43 (by decide)) (hS170.2 88 (by decide))), (by
                              unfold PB
                              have e606 : S170.1 54 41 = S51h.1 54 41 := hS170.1 41 (by decide)
                              have e607 : S51h.1 54 41 = S18.1 54 41 := hS51h.1 41 (by decide)
                              have e608 : S18.1 54 41 = S12.1 54 41 := hS18.1 41 (by decide)
                              have e609 : S12.1 54 41 = S7.1 54 41 := hS12.1 41 (by decide)
                              have e610 : S7.1 54 41 = S2.1 54 41 := hS7.1 41 (by decide)
                              have e611 : S2.1 54 41 = S.1 54 41 := hS2.1 41 (by decide)
                              have e612 : S170.1 54 56 = S51h.1 54 56 := hS170.1 56 (by decide)
                              have e613 : S170.1 54 51 = S51h.1 54 51 := hS170.1 51 (by decide)
                              first
                              | exact Or.inl (by omega)
                              | exact (Classical.em (-1 ≤ S170.1 54 59)).elim (fun hb => Or.inl hb) (fun hb => Or.inr ⟨by omega, by omega, by omega⟩)), (by
                              unfold P1
                              have e614 : S170.1 54 43 = S51h.1 54 43 := hS170.1 43 (by decide)
                              first | exact Or.inr (Or.inl (by omega)) | exact Or.inl (by omega)), by omega, by omega⟩, show (2 * (3020 - r170) + min 1 (max 0 (-1 - (S170.1 54 59)))).toNat < (2 * (3020 - v51_1) + min 1 (max 0 (-1 - (S51h.1 54 59)))).toNat by omega⟩
                      · unfold wX11_parse_195
                        unfold wX11_parse_297
                        have e615 : S170.1 54 43 = S51h.1 54 43 := hS170.1 43 (by decide)
                        have e616 : S170.1 54 43 = S51h.1 54 43 := hS170.1 43 (by decide)
                        exact ⟨⟨(Ch.wk (Ch.tr hS51h hS170) (by decide) (by decide)), by omega, by omega, by omega, by omega, by omega, (PA.mv i51_5 ((hS170).1 51 (by decide)) (by have e617 : S170.1 54 56 = S51h.1 54 56 := hS170.1 56 (by decide); omega) ((hS170).2 92 (by decide)) ((hS170).2 93 (by decide)) ((hS170).2 94 (by decide)) ((hS170).2 95 (by decide))), (PR.mv i51_6 ((hS170).1 43 (by decide)) ((hS170).1 51 (by decide)) ((hS170).2 86 (by decide)) ((hS170).2 87 (by decide)) ((hS170).2 88 (by decide)) ((hS170).2 90 (by decide)) ((hS170).2 91 (by decide))), (PO.mv i51_7 ((hS170).1 43 (by decide)) ((hS170).2 88 (by decide))), (by
                              rw [show S170.2 88 v51_2 = S51h.2 88 v51_2 from congrFun (hS170.2 88 (by decide)) _]
                              exact (PE_up (e := v51_2) i51_6 i51_7 (by omega) (by omega)).mv (hS170.1 43 (by decide)) (hS170.2 88 (by decide))), (by
                              unfold PB
                              have e618 : S170.1 54 41 = S51h.1 54 41 := hS170.1 41 (by decide)
                              have e619 : S51h.1 54 41 = S18.1 54 41 := hS51h.1 41 (by decide)
                              have e620 : S18.1 54 41 = S12.1 54 41 := hS18.1 41 (by decide)
                              have e621 : S12.1 54 41 = S7.1 54 41 := hS12.1 41 (by decide)
                              have e622 : S7.1 54 41 = S2.1 54 41 := hS7.1 41 (by decide)
                              have e623 : S2.1 54 41 = S.1 54 41 := hS2.1 41 (by decide)
                              have e624 : S170.1 54 56 = S51h.1 54 56 := hS170.1 56 (by decide)
                              have e625 : S170.1 54 51 = S51h.1 54 51 := hS170.1 51 (by decide)
                              first
                              | exact Or.inl (by omega)
                              | exact (Classical.em (-1 ≤ S170.1 54 59)).elim (fun hb => Or.inl hb) (fun hb => Or.inr ⟨by omega, by omega, by omega⟩)), (by
                              unfold P1
                              have e626 : S170.1 54 43 = S51h.1 54 43 := hS170.1 43 (by decide)
                              first | exact Or.inr (Or.inl (by omega)) | exact Or.inl (by omega)), by omega, by omega⟩, show (2 * (3020 - r170) + min 1 (max 0 (-1 - (S170.1 54 59)))).toNat < (2 * (3020 - v51_1) + min 1 (max 0 (-1 - (S51h.1 54 59)))).toNat by omega⟩
                · refine ⟨by omega, ?_⟩
                  refine tX11_keep (by omega) (by omega) (fun r145 S145 hS145 n145_0 => ?_)
                  unfold wX11_parse_297
                  have e627 : S145.1 54 43 = S51h.1 54 43 := hS145.1 43 (by decide)
                  have e628 : S145.1 54 43 = S51h.1 54 43 := hS145.1 43 (by decide)
                  have e629 : S145.1 54 59 = S51h.1 54 59 := hS145.1 59 (by decide)
                  have e630 : S145.1 54 59 = S51h.1 54 59 := hS145.1 59 (by decide)
                  exact ⟨⟨(Ch.wk (Ch.tr hS51h hS145) (by decide) (by decide)), by omega, by omega, by omega, by omega, by omega, (PA.mv i51_5 ((hS145).1 51 (by decide)) (by omega) ((hS145).2 92 (by decide)) ((hS145).2 93 (by decide)) ((hS145).2 94 (by decide)) ((hS145).2 95 (by decide))), (PR.mv i51_6 ((hS145).1 43 (by decide)) ((hS145).1 51 (by decide)) ((hS145).2 86 (by decide)) ((hS145).2 87 (by decide)) ((hS145).2 88 (by decide)) ((hS145).2 90 (by decide)) ((hS145).2 91 (by decide))), (PO.mv i51_7 ((hS145).1 43 (by decide)) ((hS145).2 88 (by decide))), (PE.mv i51_8 ((hS145).1 43 (by decide)) ((hS145).2 88 (by decide))), (by
                        unfold PB
                        have e631 : S145.1 54 59 = S51h.1 54 59 := hS145.1 59 (by decide)
                        have e632 : S145.1 54 41 = S51h.1 54 41 := hS145.1 41 (by decide)
                        have e633 : S51h.1 54 41 = S18.1 54 41 := hS51h.1 41 (by decide)
                        have e634 : S18.1 54 41 = S12.1 54 41 := hS18.1 41 (by decide)
                        have e635 : S12.1 54 41 = S7.1 54 41 := hS12.1 41 (by decide)
                        have e636 : S7.1 54 41 = S2.1 54 41 := hS7.1 41 (by decide)
                        have e637 : S2.1 54 41 = S.1 54 41 := hS2.1 41 (by decide)
                        have e638 : S145.1 54 51 = S51h.1 54 51 := hS145.1 51 (by decide)
                        first
                        | exact Or.inl (by omega)
                        | exact (Classical.em (-1 ≤ S145.1 54 59)).elim (fun hb => Or.inl hb) (fun hb => Or.inr ⟨by omega, by omega, by omega⟩)), (by
                        unfold P1
                        have e639 : S145.1 54 43 = S51h.1 54 43 := hS145.1 43 (by decide)
                        have e640 : S145.1 54 59 = S51h.1 54 59 := hS145.1 59 (by decide)
                        first | exact Or.inr (Or.inl (by omega)) | exact Or.inl (by omega)), by omega, by omega⟩, show (2 * (3020 - ((v51_1 + 1))) + min 1 (max 0 (-1 - (S145.1 54 59)))).toNat < (2 * (3020 - v51_1) + min 1 (max 0 (-1 - (S51h.1 54 59)))).toNat by omega⟩
              · refine ⟨by omega, ?_⟩
                refine ⟨by omega, ?_⟩
                have e641 : S51h.1 54 41 = S18.1 54 41 := hS51h.1 41 (by decide)
                have e642 : S18.1 54 41 = S12.1 54 41 := hS18.1 41 (by decide)
                have e643 : S12.1 54 41 = S7.1 54 41 := hS12.1 41 (by decide)
                have e644 : S7.1 54 41 = S2.1 54 41 := hS7.1 41 (by decide)
                have e645 : S2.1 54 41 = S.1 54 41 := hS2.1 41 (by decide)
                have e646 : S51h.1 54 41 = S18.1 54 41 := hS51h.1 41 (by decide)
                have e647 : S18.1 54 41 = S12.1 54 41 := hS18.1 41 (by decide)
                have e648 : S12.1 54 41 = S7.1 54 41 := hS12.1 41 (by decide)
                have e649 : S7.1 54 41 = S2.1 54 41 := hS7.1 41 (by decide)
                have e650 : S2.1 54 41 = S.1 54 41 := hS2.1 41 (by decide)
                have e651 : S51h.1 54 41 = S18.1 54 41 := hS51h.1 41 (by decide)
                have e652 : S18.1 54 41 = S12.1 54 41 := hS18.1 41 (by decide)
                have e653 : S12.1 54 41 = S7.1 54 41 := hS12.1 41 (by decide)
                have e654 : S7.1 54 41 = S2.1 54 41 := hS7.1 41 (by decide)
                have e655 : S2.1 54 41 = S.1 54 41 := hS2.1 41 (by decide)
                refine tX11_reference (by omega) (by omega) (by omega) (by omega) (by omega) (fun r127 S127 hS127 n127_0 n127_1 n127_2 n127_3 => ?_)
                unfold wX11_parse_297
                have e656 : S127.1 54 43 = S51h.1 54 43 := hS127.1 43 (by decide)
                have e657 : S127.1 54 43 = S51h.1 54 43 := hS127.1 43 (by decide)
                exact ⟨⟨(Ch.wk (Ch.tr hS51h hS127) (by decide) (by decide)), by omega, by omega, by omega, by omega, by omega, (PA.mv i51_5 ((hS127).1 51 (by decide)) (by omega) ((hS127).2 92 (by decide)) ((hS127).2 93 (by decide)) ((hS127).2 94 (by decide)) ((hS127).2 95 (by decide))), (PR.mv i51_6 ((hS127).1 43 (by decide)) ((hS127).1 51 (by decide)) ((hS127).2 86 (by decide)) ((hS127).2 87 (by decide)) ((hS127).2 88 (by decide)) ((hS127).2 90 (by decide)) ((hS127).2 91 (by decide))), (PO.mv i51_7 ((hS127).1 43 (by decide)) ((hS127).2 88 (by decide))), (PE.mv i51_8 ((hS127).1 43 (by decide)) ((hS127).2 88 (by decide))), (by
                      unfold PB
                      have e658 : S127.1 54 41 = S51h.1 54 41 := hS127.1 41 (by decide)
                      have e659 : S51h.1 54 41 = S18.1 54 41 := hS51h.1 41 (by decide)
                      have e660 : S18.1 54 41 = S12.1 54 41 := hS18.1 41 (by decide)
                      have e661 : S12.1 54 41 = S7.1 54 41 := hS12.1 41 (by decide)
                      have e662 : S7.1 54 41 = S2.1 54 41 := hS7.1 41 (by decide)
                      have e663 : S2.1 54 41 = S.1 54 41 := hS2.1 41 (by decide)
                      have e664 : S127.1 54 51 = S51h.1 54 51 := hS127.1 51 (by decide)
                      first
                      | exact Or.inl (by omega)
                      | exact (Classical.em (-1 ≤ S127.1 54 59)).elim (fun hb => Or.inl hb) (fun hb => Or.inr ⟨by omega, by omega, by omega⟩)), (by
                      unfold P1
                      have e665 : S127.1 54 43 = S51h.1 54 43 := hS127.1 43 (by decide)
                      first | exact Or.inr (Or.inl (by omega)) | exact Or.inl (by omega)), by omega, by omega⟩, show (2 * (3020 - r127) + min 1 (max 0 (-1 - (S127.1 54 59)))).toNat < (2 * (3020 - v51_1) + min 1 (max 0 (-1 - (S51h.1 54 59)))).toNat by omega⟩
            · refine ⟨by omega, ?_⟩
              refine tX11_fail (by omega) (fun r111 S111 hS111 n111_0 => ?_)
              unfold wX11_parse_297
              have e666 : S111.1 54 43 = S51h.1 54 43 := hS111.1 43 (by decide)
              have e667 : S111.1 54 43 = S51h.1 54 43 := hS111.1 43 (by decide)
              exact ⟨⟨(Ch.wk (Ch.tr hS51h hS111) (by decide) (by decide)), by omega, by omega, by omega, by omega, by omega, (PA.mv i51_5 ((hS111).1 51 (by decide)) (by have e668 : S111.1 54 56 = S51h.1 54 56 := hS111.1 56 (by decide); omega) ((hS111).2 92 (by decide)) ((hS111).2 93 (by decide)) ((hS111).2 94 (by decide)) ((hS111).2 95 (by decide))), (PR.mv i51_6 ((hS111).1 43 (by decide)) ((hS111).1 51 (by decide)) ((hS111).2 86 (by decide)) ((hS111).2 87 (by decide)) ((hS111).2 88 (by decide)) ((hS111).2 90 (by decide)) ((hS111).2 91 (by decide))), (PO.mv i51_7 ((hS111).1 43 (by decide)) ((hS111).2 88 (by decide))), (PE.mv i51_8 ((hS111).1 43 (by decide)) ((hS111).2 88 (by decide))), (by
                    unfold PB
                    have e669 : S111.1 54 41 = S51h.1 54 41 := hS111.1 41 (by decide)
                    have e670 : S51h.1 54 41 = S18.1 54 41 := hS51h.1 41 (by decide)
                    have e671 : S18.1 54 41 = S12.1 54 41 := hS18.1 41 (by decide)
                    have e672 : S12.1 54 41 = S7.1 54 41 := hS12.1 41 (by decide)
                    have e673 : S7.1 54 41 = S2.1 54 41 := hS7.1 41 (by decide)
                    have e674 : S2.1 54 41 = S.1 54 41 := hS2.1 41 (by decide)
                    have e675 : S111.1 54 56 = S51h.1 54 56 := hS111.1 56 (by decide)
                    have e676 : S111.1 54 51 = S51h.1 54 51 := hS111.1 51 (by decide)
                    first
                    | exact Or.inl (by omega)
                    | exact (Classical.em (-1 ≤ S111.1 54 59)).elim (fun hb => Or.inl hb) (fun hb => Or.inr ⟨by omega, by omega, by omega⟩)), (by
                    unfold P1
                    have e677 : S111.1 54 43 = S51h.1 54 43 := hS111.1 43 (by decide)
                    first | exact Or.inr (Or.inl (by omega)) | exact Or.inl (by omega)), by omega, by omega⟩, show (2 * (3020 - v51_1) + min 1 (max 0 (-1 - (S111.1 54 59)))).toNat < (2 * (3020 - v51_1) + min 1 (max 0 (-1 - (S51h.1 54 59)))).toNat by omega⟩
          · unfold wX11_parse_97
            unfold wX11_parse_102
            refine ⟨by omega, ?_⟩
            refine ⟨fun h106 => ?_, fun h106 => ?_⟩
            · refine ⟨fun h121 => ?_, fun h121 => ?_⟩
              · refine ⟨fun h138 => ?_, fun h138 => ?_⟩
                · refine ⟨by omega, ?_⟩
                  refine ⟨fun h158 => ?_, fun h158 => ?_⟩
                  · unfold wX11_parse_200
                    refine ⟨by omega, ?_⟩
                    refine ⟨fun h204 => ?_, fun h204 => ?_⟩
                    · unfold wX11_parse_225
                      refine ⟨by omega, ?_⟩
                      refine ⟨fun h227 => ?_, fun h227 => ?_⟩
                      · intro S240 hS240e
                        have hS240 : Ch [60] [] S51h S240 := Ch_I hS240e
                        have hS240v : S240.1 54 60 = 0 := pI_at hS240e
                        refine ⟨by omega, ?_⟩
                        refine ⟨by omega, ?_⟩
                        refine ⟨by omega, ?_⟩
                        have e678 : S240.1 54 41 = S51h.1 54 41 := hS240.1 41 (by decide)
                        have e679 : S51h.1 54 41 = S18.1 54 41 := hS51h.1 41 (by decide)
                        have e680 : S18.1 54 41 = S12.1 54 41 := hS18.1 41 (by decide)
                        have e681 : S12.1 54 41 = S7.1 54 41 := hS12.1 41 (by decide)
                        have e682 : S7.1 54 41 = S2.1 54 41 := hS7.1 41 (by decide)
                        have e683 : S2.1 54 41 = S.1 54 41 := hS2.1 41 (by decide)
                        have e684 : S240.1 54 41 = S51h.1 54 41 := hS240.1 41 (by decide)
                        have e685 : S51h.1 54 41 = S18.1 54 41 := hS51h.1 41 (by decide)
                        have e686 : S18.1 54 41 = S12.1 54 41 := hS18.1 41 (by decide)
                        have e687 : S12.1 54 41 = S7.1 54 41 := hS12.1 41 (by decide)
                        have e688 : S7.1 54 41 = S2.1 54 41 := hS7.1 41 (by decide)
                        have e689 : S2.1 54 41 = S.1 54 41 := hS2.1 41 (by decide)
                        have e690 : S240.1 54 56 = S51h.1 54 56 := hS240.1 56 (by decide)
                        have e691 : S240.1 54 51 = S51h.1 54 51 := hS240.1 51 (by decide)
                        have e692 : S240.1 54 43 = S51h.1 54 43 := hS240.1 43 (by decide)
                        have e693 : S240.1 54 43 = S51h.1 54 43 := hS240.1 43 (by decide)
                        refine tX11_beginTag (by omega) (by omega) (by omega) (by omega) (by omega) (by omega) (PA.mv2 i51_5 ((hS240).1 51 (by decide)) ((hS240).1 56 (by decide)) ((hS240).2 92 (by decide)) ((hS240).2 93 (by decide)) ((hS240).2 94 (by decide)) ((hS240).2 95 (by decide))) (PR.mv i51_6 ((hS240).1 43 (by decide)) ((hS240).1 51 (by decide)) ((hS240).2 86 (by decide)) ((hS240).2 87 (by decide)) ((hS240).2 88 (by decide)) ((hS240).2 90 (by decide)) ((hS240).2 91 (by decide))) (PO.mv i51_7 ((hS240).1 43 (by decide)) ((hS240).2 88 (by decide))) (PE.mv i51_8 ((hS240).1 43 (by decide)) ((hS240).2 88 (by decide))) (by omega) (fun r247 S247 hS247 n247_0 n247_1 n247_2 n247_3 n247_4 n247_5 n247_6 n247_7 => ?_)
                        have hbr : (S247.1 54 43 = S240.1 54 43 + 1 ∧ S247.2 88 (S240.1 54 43) = v51_2) ∨ S247.1 54 43 = S240.1 54 43 := by
                          rcases n247_5 with h | h
                          · exact Or.inl h
                          · exact Or.inr h.1
                        intro q694
                        refine ⟨fun h255 => ?_, fun h255 => ?_⟩
                        · unfold wX11_parse_265
                          intro q695
                          refine ⟨fun h270 => ?_, fun h270 => ?_⟩
                          · unfold wX11_parse_283
                            refine ⟨by omega, ?_⟩
                            refine ⟨fun h287 => ?_, fun h287 => ?_⟩
                            · unfold wX11_parse_295
                              unfold wX11_parse_297
                              exact ⟨⟨(Ch.wk (Ch.tr (Ch.tr hS51h hS240) hS247) (by decide) (by decide)), by omega, by omega, by omega, by omega, by omega, n247_2, n247_3, n247_4, (PE_new (PE.mv i51_8 (hS240.1 43 (by decide)) (hS240.2 88 (by decide))) hbr n247_6), n247_7, (n247_5.elim (fun h => Or.inl (by omega)) (fun h => Or.inr (Or.inl (by omega)))), by omega, by omega⟩, show (2 * (3020 - r247) + min 1 (max 0 (-1 - (S247.1 54 59)))).toNat < (2 * (3020 - v51_1) + min 1 (max 0 (-1 - (S51h.1 54 59)))).toNat by omega⟩
                            · unfold wX11_parse_295
                              unfold wX11_parse_297
                              exact ⟨⟨(Ch.wk (Ch.tr (Ch.tr hS51h hS240) hS247) (by decide) (by decide)), by omega, by omega, by omega, by omega, by omega, n247_2, n247_3, n247_4, (PE_new (PE.mv i51_8 (hS240.1 43 (by decide)) (hS240.2 88 (by decide))) hbr n247_6), n247_7, (n247_5.elim (fun h => Or.inl (by omega)) (fun h => Or.inr (Or.inl (by omega)))), by omega, by omega⟩, show (2 * (3020 - r247) + min 1 (max 0 (-1 - (S247.1 54 59)))).toNat < (2 * (3020 - v51_1) + min 1 (max 0 (-1 - (S51h.1 54 59)))).toNat by omega⟩
                          · intro q696
                            unfold wX11_parse_283
                            refine ⟨by omega, ?_⟩
                            refine ⟨fun h287 => ?_, fun h287 => ?_⟩
                            · unfold wX11_parse_295
                              unfold wX11_parse_297
                              exact ⟨⟨(Ch.wk (Ch.tr (Ch.tr hS51h hS240) hS247) (by decide) (by decide)), by omega, by omega, by omega, by omega, by omega, n247_2, n247_3, n247_4, (PE_last (by omega)), n247_7, (n247_5.elim (fun h => Or.inl (by omega)) (fun h => Or.inr (Or.inl (by omega)))), by omega, by omega⟩, show (2 * (3020 - r247) + min 1 (max 0 (-1 - (S247.1 54 59)))).toNat < (2 * (3020 - v51_1) + min 1 (max 0 (-1 - (S51h.1 54 59)))).toNat by omega⟩
                            · unfold wX11_parse_295
                              unfold wX11_parse_297
                              exact ⟨⟨(Ch.wk (Ch.tr (Ch.tr hS51h hS240) hS247) (by decide) (by decide)), by omega, by omega, by omega, by omega, by omega, n247_2, n247_3, n247_4, (PE_last (by omega)), n247_7, (n247_5.elim (fun h => Or.inl (by omega)) (fun h => Or.inr (Or.inl (by omega)))), by omega, by omega⟩, show (2 * (3020 - r247) + min 1 (max 0 (-1 - (S247.1 54 59)))).toNat < (2 * (3020 - v51_1) + min 1 (max 0 (-1 - (S51h.1 54 59)))).toNat by omega⟩
                        · unfold wX11_parse_265
                          intro q697
                          refine ⟨fun h270 => ?_, fun h270 => ?_⟩
                          · unfold wX11_parse_283
                            refine ⟨by omega, ?_⟩
                            refine ⟨fun h287 => ?_, fun h287 => ?_⟩
                            · unfold wX11_parse_295
                              unfold wX11_parse_297
                              exact ⟨⟨(Ch.wk (Ch.tr (Ch.tr hS51h hS240) hS247) (by decide) (by decide)), by omega, by omega, by omega, by omega, by omega, n247_2, n247_3, n247_4, (PE_new (PE.mv i51_8 (hS240.1 43 (by decide)) (hS240.2 88 (by decide))) hbr n247_6), n247_7, (n247_5.elim (fun h => Or.inl (by omega)) (fun h => Or.inr (Or.inl (by omega)))), by omega, by omega⟩, show (2 * (3020 - r247) + min 1 (max 0 (-1 - (S247.1 54 59)))).toNat < (2 * (3020 - v51_1) + min 1 (max 0 (-1 - (S51h.1 54 59)))).toNat by omega⟩
                            · unfold wX11_parse_295
                              unfold wX11_parse_297
                              exact ⟨⟨(Ch.wk (Ch.tr (Ch.tr hS51h hS240) hS247) (by decide) (by decide)), by omega, by omega, by omega, by omega, by omega, n247_2, n247_3, n247_4, (PE_new (PE.mv i51_8 (hS240.1 43 (by decide)) (hS240.2 88 (by decide))) hbr n247_6), n247_7, (n247_5.elim (fun h => Or.inl (by omega)) (fun h => Or.inr (Or.inl (by omega)))), by omega, by omega⟩, show (2 * (3020 - r247) + min 1 (max 0 (-1 - (S247.1 54 59)))).toNat < (2 * (3020 - v51_1) + min 1 (max 0 (-1 - (S51h.1 54 59)))).toNat by omega⟩
                          · intro q698
                            unfold wX11_parse_283
                            refine ⟨by omega, ?_⟩
                            refine ⟨fun h287 => ?_, fun h287 => ?_⟩
                            · unfold wX11_parse_295
                              unfold wX11_parse_297
                              exact ⟨⟨(Ch.wk (Ch.tr (Ch.tr hS51h hS240) hS247) (by decide) (by decide)), by omega, by omega, by omega, by omega, by omega, n247_2, n247_3, n247_4, (PE_last (by omega)), n247_7, (n247_5.elim (fun h => Or.inl (by omega)) (fun h => Or.inr (Or.inl (by omega)))), by omega, by omega⟩, show (2 * (3020 - r247) + min 1 (max 0 (-1 - (S247.1 54 59)))).toNat < (2 * (3020 - v51_1) + min 1 (max 0 (-1 - (S51h.1 54 59)))).toNat by omega⟩
                            · unfold wX11_parse_295
                              unfold wX11_parse_297
                              exact ⟨⟨(Ch.wk (Ch.tr (Ch.tr hS51h hS240) hS247) (by decide) (by decide)), by omega, by omega, by omega, by omega, by omega, n247_2, n247_3, n247_4, (PE_last (by omega)), n247_7, (n247_5.elim (fun h => Or.inl (by omega)) (fun h => Or.inr (Or.inl (by omega)))), by omega, by omega⟩, show (2 * (3020 - r247) + min 1 (max 0 (-1 - (S247.1 54 59)))).toNat < (2 * (3020 - v51_1) + min 1 (max 0 (-1 - (S51h.1 54 59)))).toNat by omega⟩
                      · refine ⟨by omega, ?_⟩
                        refine tX11_fail (by omega) (fun r232 S232 hS232 n232_0 => ?_)
                        unfold wX11_parse_297
                        have e699 : S232.1 54 43 = S51h.1 54 43 := hS232.1 43 (by decide)
                        have e700 : S232.1 54 43 = S51h.1 54 43 := hS232.1 43 (by decide)
                        exact ⟨⟨(Ch.wk (Ch.tr hS51h hS232) (by decide) (by decide)), by omega, by omega, by omega, by omega, by omega, (PA.mv i51_5 ((hS232).1 51 (by decide)) (by have e701 : S232.1 54 56 = S51h.1 54 56 := hS232.1 56 (by decide); omega) ((hS232).2 92 (by decide)) ((hS232).2 93 (by decide)) ((hS232).2 94 (by decide)) ((hS232).2 95 (by decide))), (PR.mv i51_6 ((hS232).1 43 (by decide)) ((hS232).1 51 (by decide)) ((hS232).2 86 (by decide)) ((hS232).2 87 (by decide)) ((hS232).2 88 (by decide)) ((hS232).2 90 (by decide)) ((hS232).2 91 (by decide))), (PO.mv i51_7 ((hS232).1 43 (by decide)) ((hS232).2 88 (by decide))), (PE.mv i51_8 ((hS232).1 43 (by decide)) ((hS232).2 88 (by decide))), (by
                              unfold PB
                              have e702 : S232.1 54 41 = S51h.1 54 41 := hS232.1 41 (by decide)
                              have e703 : S51h.1 54 41 = S18.1 54 41 := hS51h.1 41 (by decide)
                              have e704 : S18.1 54 41 = S12.1 54 41 := hS18.1 41 (by decide)
                              have e705 : S12.1 54 41 = S7.1 54 41 := hS12.1 41 (by decide)
                              have e706 : S7.1 54 41 = S2.1 54 41 := hS7.1 41 (by decide)
                              have e707 : S2.1 54 41 = S.1 54 41 := hS2.1 41 (by decide)
                              have e708 : S232.1 54 56 = S51h.1 54 56 := hS232.1 56 (by decide)
                              have e709 : S232.1 54 51 = S51h.1 54 51 := hS232.1 51 (by decide)
                              first
                              | exact Or.inl (by omega)
                              | exact (Classical.em (-1 ≤ S232.1 54 59)).elim (fun hb => Or.inl hb) (fun hb => Or.inr ⟨by omega, by omega, by omega⟩)), (by
                              unfold P1
                              have e710 : S232.1 54 43 = S51h.1 54 43 := hS232.1 43 (by decide)
                              first | exact Or.inr (Or.inl (by omega)) | exact Or.inl (by omega)), by omega, by omega⟩, show (2 * (3020 - v51_1) + min 1 (max 0 (-1 - (S232.1 54 59)))).toNat < (2 * (3020 - v51_1) + min 1 (max 0 (-1 - (S51h.1 54 59)))).toNat by omega⟩
                    · refine ⟨by omega, ?_⟩
                      refine ⟨fun h210 => ?_, fun h210 => ?_⟩
                      · unfold wX11_parse_225
                        refine ⟨by omega, ?_⟩
                        refine ⟨fun h227 => ?_, fun h227 => ?_⟩
                        · intro S240 hS240e
                          have hS240 : Ch [60] [] S51h S240 := Ch_I hS240e
                          have hS240v : S240.1 54 60 = 0 := pI_at hS240e
                          refine ⟨by omega, ?_⟩
                          refine ⟨by omega, ?_⟩
                          refine ⟨by omega, ?_⟩
                          have e711 : S240.1 54 41 = S51h.1 54 41 := hS240.1 41 (by decide)
                          have e712 : S51h.1 54 41 = S18.1 54 41 := hS51h.1 41 (by decide)
                          have e713 : S18.1 54 41 = S12.1 54 41 := hS18.1 41 (by decide)
                          have e714 : S12.1 54 41 = S7.1 54 41 := hS12.1 41 (by decide)
                          have e715 : S7.1 54 41 = S2.1 54 41 := hS7.1 41 (by decide)
                          have e716 : S2.1 54 41 = S.1 54 41 := hS2.1 41 (by decide)
                          have e717 : S240.1 54 41 = S51h.1 54 41 := hS240.1 41 (by decide)
                          have e718 : S51h.1 54 41 = S18.1 54 41 := hS51h.1 41 (by decide)
                          have e719 : S18.1 54 41 = S12.1 54 41 := hS18.1 41 (by decide)
                          have e720 : S12.1 54 41 = S7.1 54 41 := hS12.1 41 (by decide)
                          have e721 : S7.1 54 41 = S2.1 54 41 := hS7.1 41 (by decide)
                          have e722 : S2.1 54 41 = S.1 54 41 := hS2.1 41 (by decide)
                          have e723 : S240.1 54 56 = S51h.1 54 56 := hS240.1 56 (by decide)
                          have e724 : S240.1 54 51 = S51h.1 54 51 := hS240.1 51 (by decide)
                          have e725 : S240.1 54 43 = S51h.1 54 43 := hS240.1 43 (by decide)
                          have e726 : S240.1 54 43 = S51h.1 54 43 := hS240.1 43 (by decide)
                          refine tX11_beginTag (by omega) (by omega) (by omega) (by omega) (by omega) (by omega) (PA.mv2 i51_5 ((hS240).1 51 (by decide)) ((hS240).1 56 (by decide)) ((hS240).2 92 (by decide)) ((hS240).2 93 (by decide)) ((hS240).2 94 (by decide)) ((hS240).2 95 (by decide))) (PR.mv i51_6 ((hS240).1 43 (by decide)) ((hS240).1 51 (by decide)) ((hS240).2 86 (by decide)) ((hS240).2 87 (by decide)) ((hS240).2 88 (by decide)) ((hS240).2 90 (by decide)) ((hS240).2 91 (by decide))) (PO.mv i51_7 ((hS240).1 43 (by decide)) ((hS240).2 88 (by decide))) (PE.mv i51_8 ((hS240).1 43 (by decide)) ((hS240).2 88 (by decide))) (by omega) (fun r247 S247 hS247 n247_0 n247_1 n247_2 n247_3 n247_4 n247_5 n247_6 n247_7 => ?_)
                          have hbr : (S247.1 54 43 = S240.1 54 43 + 1 ∧ S247.2 88 (S240.1 54 43) = v51_2) ∨ S247.1 54 43 = S240.1 54 43 := by
                            rcases n247_5 with h | h
                            · exact Or.inl h
                            · exact Or.inr h.1
                          intro q727
                          refine ⟨fun h255 => ?_, fun h255 => ?_⟩
                          · unfold wX11_parse_265
                            intro q728
                            refine ⟨fun h270 => ?_, fun h270 => ?_⟩
                            · unfold wX11_parse_283
                              refine ⟨by omega, ?_⟩
                              refine ⟨fun h287 => ?_, fun h287 => ?_⟩
                              · unfold wX11_parse_295
                                unfold wX11_parse_297
                                exact ⟨⟨(Ch.wk (Ch.tr (Ch.tr hS51h hS240) hS247) (by decide) (by decide)), by omega, by omega, by omega, by omega, by omega, n247_2, n247_3, n247_4, (PE_new (PE.mv i51_8 (hS240.1 43 (by decide)) (hS240.2 88 (by decide))) hbr n247_6), n247_7, (n247_5.elim (fun h => Or.inl (by omega)) (fun h => Or.inr (Or.inl (by omega)))), by omega, by omega⟩, show (2 * (3020 - r247) + min 1 (max 0 (-1 - (S247.1 54 59)))).toNat < (2 * (3020 - v51_1) + min 1 (max 0 (-1 - (S51h.1 54 59)))).toNat by omega⟩
                              · unfold wX11_parse_295
                                unfold wX11_parse_297
                                exact ⟨⟨(Ch.wk (Ch.tr (Ch.tr hS51h hS240) hS247) (by decide) (by decide)), by omega, by omega, by omega, by omega, by omega, n247_2, n247_3, n247_4, (PE_new (PE.mv i51_8 (hS240.1 43 (by decide)) (hS240.2 88 (by decide))) hbr n247_6), n247_7, (n247_5.elim (fun h => Or.inl (by omega)) (fun h => Or.inr (Or.inl (by omega)))), by omega, by omega⟩, show (2 * (3020 - r247) + min 1 (max 0 (-1 - (S247.1 54 59)))).toNat < (2 * (3020 - v51_1) + min 1 (max 0 (-1 - (S51h.1 54 59)))).toNat by omega⟩
                            · intro q729
                              unfold wX11_parse_283
                              refine ⟨by omega, ?_⟩
                              refine ⟨fun h287 => ?_, fun h287 => ?_⟩
                              · unfold wX11_parse_295
                                unfold wX11_parse_297
                                exact ⟨⟨(Ch.wk (Ch.tr (Ch.tr hS51h hS240) hS247) (by decide) (by decide)), by omega, by omega, by omega, by omega, by omega, n247_2, n247_3, n247_4, (PE_last (by omega)), n247_7, (n247_5.elim (fun h => Or.inl (by omega)) (fun h => Or.inr (Or.inl (by omega)))), by omega, by omega⟩, show (2 * (3020 - r247) + min 1 (max 0 (-1 - (S247.1 54 59)))).toNat < (2 * (3020 - v51_1) + min 1 (max 0 (-1 - (S51h.1 54 59)))).toNat by omega⟩
                              · unfold wX11_parse_295
                                unfold wX11_parse_297
                                exact ⟨⟨(Ch.wk (Ch.tr (Ch.tr hS51h hS240) hS247) (by decide) (by decide)), by omega, by omega, by omega, by omega, by omega, n247_2, n247_3, n247_4, (PE_last (by omega)), n247_7, (n247_5.elim (fun h => Or.inl (by omega)) (fun h => Or.inr (Or.inl (by omega)))), by omega, by omega⟩, show (2 * (3020 - r247) + min 1 (max 0 (-1 - (S247.1 54 59)))).toNat < (2 * (3020 - v51_1) + min 1 (max 0 (-1 - (S51h.1 54 59)))).toNat by omega⟩
                          · unfold wX11_parse_265
                            intro q730
                            refine ⟨fun h270 => ?_, fun h270 => ?_⟩
                            · unfold wX11_parse_283
                              refine ⟨by omega, ?_⟩
                              refine ⟨fun h287 => ?_, fun h287 => ?_⟩
                              · unfold wX11_parse_295
                                unfold wX11_parse_297
                                exact ⟨⟨(Ch.wk (Ch.tr (Ch.tr hS51h hS240) hS247) (by decide) (by decide)), by omega, by omega, by omega, by omega, by omega, n247_2, n247_3, n247_4, (PE_new (PE.mv i51_8 (hS240.1 43 (by decide)) (hS240.2 88 (by decide))) hbr n247_6), n247_7, (n247_5.elim (fun h => Or.inl (by omega)) (fun h => Or.inr (Or.inl (by omega)))), by omega, by omega⟩, show (2 * (3020 - r247) + min 1 (max 0 (-1 - (S247.1 54 59)))).toNat < (2 * (3020 - v51_1) + min 1 (max 0 (-1 - (S51h.1 54 59)))).toNat by omega⟩
                              · unfold wX11_parse_295
                                unfold wX11_parse_297
                                exact ⟨⟨(Ch.wk (Ch.tr (Ch.tr hS51h hS240) hS247) (by decide) (by decide)), by omega, by omega, by omega, by omega, by omega, n247_2, n247_3, n247_4, (PE_new (PE.mv i51_8 (hS240.1 43 (by decide)) (hS240.2 88 (by decide))) hbr n247_6), n247_7, (n247_5.elim (fun h => Or.inl (by omega)) (fun h => Or.inr (Or.inl (by omega)))), by omega, by omega⟩, show (2 * (3020 - r247) + min 1 (max 0 (-1 - (S247.1 54 59)))).toNat < (2 * (3020 - v51_1) + min 1 (max 0 (-1 - (S51h.1 54 59)))).toNat by omega⟩
                            · intro q731
                              unfold wX11_parse_283
                              refine ⟨by omega, ?_⟩
                              refine ⟨fun h287 => ?_, fun h287 => ?_⟩
                              · unfold wX11_parse_295
                                unfold wX11_parse_297
                                exact ⟨⟨(Ch.wk (Ch.tr (Ch.tr hS51h hS240) hS247) (by decide) (by decide)), by omega, by omega, by omega, by omega, by omega, n247_2, n247_3, n247_4, (PE_last (by omega)), n247_7, (n247_5.elim (fun h => Or.inl (by omega)) (fun h => Or.inr (Or.inl (by omega)))), by omega, by omega⟩, show (2 * (3020 - r247) + min 1 (max 0 (-1 - (S247.1 54 59)))).toNat < (2 * (3020 - v51_1) + min 1 (max 0 (-1 - (S51h.1 54 59)))).toNat by omega⟩
                              · unfold wX11_parse_295
                                unfold wX11_parse_297
                                exact ⟨⟨(Ch.wk (Ch.tr (Ch.tr hS51h hS240) hS247) (by decide) (by decide)), by omega, by omega, by omega, by omega, by omega, n247_2, n247_3, n247_4, (PE_last (by omega)), n247_7, (n247_5.elim (fun h => Or.inl (by omega)) (fun h => Or.inr (Or.inl (by omega)))), by omega, by omega⟩, show (2 * (3020 - r247) + min 1 (max 0 (-1 - (S247.1 54 59)))).toNat < (2 * (3020 - v51_1) + min 1 (max 0 (-1 - (S51h.1 54 59)))).toNat by omega⟩
                        · refine ⟨by omega, ?_⟩
                          refine tX11_fail (by omega) (fun r232 S232 hS232 n232_0 => ?_)
                          unfold wX11_parse_297
                          have e732 : S232.1 54 43 = S51h.1 54 43 := hS232.1 43 (by decide)
                          have e733 : S232.1 54 43 = S51h.1 54 43 := hS232.1 43 (by decide)
                          exact ⟨⟨(Ch.wk (Ch.tr hS51h hS232) (by decide) (by decide)), by omega, by omega, by omega, by omega, by omega, (PA.mv i51_5 ((hS232).1 51 (by decide)) (by have e734 : S232.1 54 56 = S51h.1 54 56 := hS232.1 56 (by decide); omega) ((hS232).2 92 (by decide)) ((hS232).2 93 (by decide)) ((hS232).2 94 (by decide)) ((hS232).2 95 (by decide))), (PR.mv i51_6 ((hS232).1 43 (by decide)) ((hS232).1 51 (by decide)) ((hS232).2 86 (by decide)) ((hS232).2 87 (by decide)) ((hS232).2 88 (by decide)) ((hS232).2 90 (by decide)) ((hS232).2 91 (by decide))), (PO.mv i51_7 ((hS232).1 43 (by decide)) ((hS232).2 88 (by decide))), (PE.mv i51_8 ((hS232).1 43 (by decide)) ((hS232).2 88 (by decide))), (by
                                unfold PB
                                have e735 : S232.1 54 41 = S51h.1 54 41 := hS232.1 41 (by decide)
                                have e736 : S51h.1 54 41 = S18.1 54 41 := hS51h.1 41 (by decide)
                                have e737 : S18.1 54 41 = S12.1 54 41 := hS18.1 41 (by decide)
                                have e738 : S12.1 54 41 = S7.1 54 41 := hS12.1 41 (by decide)
                                have e739 : S7.1 54 41 = S2.1 54 41 := hS7.1 41 (by decide)
                                have e740 : S2.1 54 41 = S.1 54 41 := hS2.1 41 (by decide)
                                have e741 : S232.1 54 56 = S51h.1 54 56 := hS232.1 56 (by decide)
                                have e742 : S232.1 54 51 = S51h.1 54 51 := hS232.1 51 (by decide)
                                first
                                | exact Or.inl (by omega)
                                | exact (Classical.em (-1 ≤ S232.1 54 59)).elim (fun hb => Or.inl hb) (fun hb => Or.inr ⟨by omega, by omega, by omega⟩)), (by
                                unfold P1
                                have e743 : S232.1 54 43 = S51h.1 54 43 := hS232.1 43 (by decide)
                                first | exact Or.inr (Or.inl (by omega)) | exact Or.inl (by omega)), by omega, by omega⟩, show (2 * (3020 - v51_1) + min 1 (max 0 (-1 - (S232.1 54 59)))).toNat < (2 * (3020 - v51_1) + min 1 (max 0 (-1 - (S51h.1 54 59)))).toNat by omega⟩
                      · refine ⟨by omega, ?_⟩
                        refine ⟨by omega, ?_⟩
                        have e744 : S51h.1 54 41 = S18.1 54 41 := hS51h.1 41 (by decide)
                        have e745 : S18.1 54 41 = S12.1 54 41 := hS18.1 41 (by decide)
                        have e746 : S12.1 54 41 = S7.1 54 41 := hS12.1 41 (by decide)
                        have e747 : S7.1 54 41 = S2.1 54 41 := hS7.1 41 (by decide)
                        have e748 : S2.1 54 41 = S.1 54 41 := hS2.1 41 (by decide)
                        have e749 : S51h.1 54 41 = S18.1 54 41 := hS51h.1 41 (by decide)
                        have e750 : S18.1 54 41 = S12.1 54 41 := hS18.1 41 (by decide)
                        have e751 : S12.1 54 41 = S7.1 54 41 := hS12.1 41 (by decide)
                        have e752 : S7.1 54 41 = S2.1 54 41 := hS7.1 41 (by decide)
                        have e753 : S2.1 54 41 = S.1 54 41 := hS2.1 41 (by decide)
                        have e754 : S51h.1 54 41 = S18.1 54 41 := hS51h.1 41 (by decide)
                        have e755 : S18.1 54 41 = S12.1 54 41 := hS18.1 41 (by decide)
                        have e756 : S12.1 54 41 = S7.1 54 41 := hS12.1 41 (by decide)
                        have e757 : S7.1 54 41 = S2.1 54 41 := hS7.1 41 (by decide)
                        have e758 : S2.1 54 41 = S.1 54 41 := hS2.1 41 (by decide)
                        refine tX11_section (by omega) (by omega) (by omega) (by omega) (by omega) (by omega) (fun r218 S218 hS218 n218_0 n218_1 n218_2 n218_3 => ?_)
                        unfold wX11_parse_297
                        have e759 : S218.1 54 43 = S51h.1 54 43 := hS218.1 43 (by decide)
                        have e760 : S218.1 54 43 = S51h.1 54 43 := hS218.1 43 (by decide)
                        exact ⟨⟨(Ch.wk (Ch.tr hS51h hS218) (by decide) (by decide)), by omega, by omega, by omega, by omega, by omega, (PA.mv i51_5 ((hS218).1 51 (by decide)) (by omega) ((hS218).2 92 (by decide)) ((hS218).2 93 (by decide)) ((hS218).2 94 (by decide)) ((hS218).2 95 (by decide))), (PR.mv i51_6 ((hS218).1 43 (by decide)) ((hS218).1 51 (by decide)) ((hS218).2 86 (by decide)) ((hS218).2 87 (by decide)) ((hS218).2 88 (by decide)) ((hS218).2 90 (by decide)) ((hS218).2 91 (by decide))), (PO.mv i51_7 ((hS218).1 43 (by decide)) ((hS218).2 88 (by decide))), (PE.mv i51_8 ((hS218).1 43 (by decide)) ((hS218).2 88 (by decide))), (by
                              unfold PB
                              have e761 : S218.1 54 41 = S51h.1 54 41 := hS218.1 41 (by decide)
                              have e762 : S51h.1 54 41 = S18.1 54 41 := hS51h.1 41 (by decide)
                              have e763 : S18.1 54 41 = S12.1 54 41 := hS18.1 41 (by decide)
                              have e764 : S12.1 54 41 = S7.1 54 41 := hS12.1 41 (by decide)
                              have e765 : S7.1 54 41 = S2.1 54 41 := hS7.1 41 (by decide)
                              have e766 : S2.1 54 41 = S.1 54 41 := hS2.1 41 (by decide)
                              have e767 : S218.1 54 51 = S51h.1 54 51 := hS218.1 51 (by decide)
                              first
                              | exact Or.inl (by omega)
                              | exact (Classical.em (-1 ≤ S218.1 54 59)).elim (fun hb => Or.inl hb) (fun hb => Or.inr ⟨by omega, by omega, by omega⟩)), (by
                              unfold P1
                              have e768 : S218.1 54 43 = S51h.1 54 43 := hS218.1 43 (by decide)
                              first | exact Or.inr (Or.inl (by omega)) | exact Or.inl (by omega)), by omega, by omega⟩, show (2 * (3020 - r218) + min 1 (max 0 (-1 - (S218.1 54 59)))).toNat < (2 * (3020 - v51_1) + min 1 (max 0 (-1 - (S51h.1 54 59)))).toNat by omega⟩
                  · refine ⟨by omega, ?_⟩
                    refine ⟨fun h164 => ?_, fun h164 => ?_⟩
                    · unfold wX11_parse_200
                      refine ⟨by omega, ?_⟩
                      refine ⟨fun h204 => ?_, fun h204 => ?_⟩
                      · unfold wX11_parse_225
                        refine ⟨by omega, ?_⟩
                        refine ⟨fun h227 => ?_, fun h227 => ?_⟩
                        · intro S240 hS240e
                          have hS240 : Ch [60] [] S51h S240 := Ch_I hS240e
                          have hS240v : S240.1 54 60 = 0 := pI_at hS240e
                          refine ⟨by omega, ?_⟩
                          refine ⟨by omega, ?_⟩
                          refine ⟨by omega, ?_⟩
                          have e769 : S240.1 54 41 = S51h.1 54 41 := hS240.1 41 (by decide)
                          have e770 : S51h.1 54 41 = S18.1 54 41 := hS51h.1 41 (by decide)
                          have e771 : S18.1 54 41 = S12.1 54 41 := hS18.1 41 (by decide)
                          have e772 : S12.1 54 41 = S7.1 54 41 := hS12.1 41 (by decide)
                          have e773 : S7.1 54 41 = S2.1 54 41 := hS7.1 41 (by decide)
                          have e774 : S2.1 54 41 = S.1 54 41 := hS2.1 41 (by decide)
                          have e775 : S240.1 54 41 = S51h.1 54 41 := hS240.1 41 (by decide)
                          have e776 : S51h.1 54 41 = S18.1 54 41 := hS51h.1 41 (by decide)
                          have e777 : S18.1 54 41 = S12.1 54 41 := hS18.1 41 (by decide)
                          have e778 : S12.1 54 41 = S7.1 54 41 := hS12.1 41 (by decide)
                          have e779 : S7.1 54 41 = S2.1 54 41 := hS7.1 41 (by decide)
                          have e780 : S2.1 54 41 = S.1 54 41 := hS2.1 41 (by decide)
                          have e781 : S240.1 54 56 = S51h.1 54 56 := hS240.1 56 (by decide)
                          have e782 : S240.1 54 51 = S51h.1 54 51 := hS240.1 51 (by decide)
                          have e783 : S240.1 54 43 = S51h.1 54 43 := hS240.1 43 (by decide)
                          have e784 : S240.1 54 43 = S51h.1 54 43 := hS240.1 43 (by decide)
                          refine tX11_beginTag (by omega) (by omega) (by omega) (by omega) (by omega) (by omega) (PA.mv2 i51_5 ((hS240).1 51 (by decide)) ((hS240).1 56 (by decide)) ((hS240).2 92 (by decide)) ((hS240).2 93 (by decide)) ((hS240).2 94 (by decide)) ((hS240).2 95 (by decide))) (PR.mv i51_6 ((hS240).1 43 (by decide)) ((hS240).1 51 (by decide)) ((hS240).2 86 (by decide)) ((hS240).2 87 (by decide)) ((hS240).2 88 (by decide)) ((hS240).2 90 (by decide)) ((hS240).2 91 (by decide))) (PO.mv i51_7 ((hS240).1 43 (by decide)) ((hS240).2 88 (by decide))) (PE.mv i51_8 ((hS240).1 43 (by decide)) ((hS240).2 88 (by decide))) (by omega) (fun r247 S247 hS247 n247_0 n247_1 n247_2 n247_3 n247_4 n247_5 n247_6 n247_7 => ?_)
                          have hbr : (S247.1 54 43 = S240.1 54 43 + 1 ∧ S247.2 88 (S240.1 54 43) = v51_2) ∨ S247.1 54 43 = S240.1 54 43 := by
                            rcases n247_5 with h | h
                            · exact Or.inl h
                            · exact Or.inr h.1
                          intro q785
                          refine ⟨fun h255 => ?_, fun h255 => ?_⟩
                          · unfold wX11_parse_265
                            intro q786
                            refine ⟨fun h270 => ?_, fun h270 => ?_⟩
                            · unfold wX11_parse_283
                              refine ⟨by omega, ?_⟩
                              refine ⟨fun h287 => ?_, fun h287 => ?_⟩
                              · unfold wX11_parse_295
                                unfold wX11_parse_297
                                exact ⟨⟨(Ch.wk (Ch.tr (Ch.tr hS51h hS240) hS247) (by decide) (by decide)), by omega, by omega, by omega, by omega, by omega, n247_2, n247_3, n247_4, (PE_new (PE.mv i51_8 (hS240.1 43 (by decide)) (hS240.2 88 (by decide))) hbr n247_6), n247_7, (n247_5.elim (fun h => Or.inl (by omega)) (fun h => Or.inr (Or.inl (by omega)))), by omega, by omega⟩, show (2 * (3020 - r247) + min 1 (max 0 (-1 - (S247.1 54 59)))).toNat < (2 * (3020 - v51_1) + min 1 (max 0 (-1 - (S51h.1 54 59)))).toNat by omega⟩
                              · unfold wX11_parse_295
                                unfold wX11_parse_297
                                exact ⟨⟨(Ch.wk (Ch.tr (Ch.tr hS51h hS240) hS247) (by decide) (by decide)), by omega, by omega, by omega, by omega, by omega, n247_2, n247_3, n247_4, (PE_new (PE.mv i51_8 (hS240.1 43 (by decide)) (hS240.2 88 (by decide))) hbr n247_6), n247_7, (n247_5.elim (fun h => Or.inl (by omega)) (fun h => Or.inr (Or.inl (by omega)))), by omega, by omega⟩, show (2 * (3020 - r247) + min 1 (max 0 (-1 - (S247.1 54 59)))).toNat < (2 * (3020 - v51_1) + min 1 (max 0 (-1 - (S51h.1 54 59)))).toNat by omega⟩
                            · intro q787
                              unfold wX11_parse_283
                              refine ⟨by omega, ?_⟩
                              refine ⟨fun h287 => ?_, fun h287 => ?_⟩
                              · unfold wX11_parse_295
                                unfold wX11_parse_297
                                exact ⟨⟨(Ch.wk (Ch.tr (Ch.tr hS51h hS240) hS247) (by decide) (by decide)), by omega, by omega, by omega, by omega, by omega, n247_2, n247_3, n247_4, (PE_last (by omega)), n247_7, (n247_5.elim (fun h => Or.inl (by omega)) (fun h => Or.inr (Or.inl (by omega)))), by omega, by omega⟩, show (2 * (3020 - r247) + min 1 (max 0 (-1 - (S247.1 54 59)))).toNat < (2 * (3020 - v51_1) + min 1 (max 0 (-1 - (S51h.1 54 59)))).toNat by omega⟩
                              · unfold wX11_parse_295
                                unfold wX11_parse_297
                                exact ⟨⟨(Ch.wk (Ch.tr (Ch.tr hS51h hS240) hS247) (by decide) (by decide)), by omega, by omega, by omega, by omega, by omega, n247_2, n247_3, n247_4, (PE_last (by omega)), n247_7, (n247_5.elim (fun h => Or.inl (by omega)) (fun h => Or.inr (Or.inl (by omega)))), by omega, by omega⟩, show (2 * (3020 - r247) + min 1 (max 0 (-1 - (S247.1 54 59)))).toNat < (2 * (3020 - v51_1) + min 1 (max 0 (-1 - (S51h.1 54 59)))).toNat by omega⟩
                          · unfold wX11_parse_265
                            intro q788
                            refine ⟨fun h270 => ?_, fun h270 => ?_⟩
                            · unfold wX11_parse_283
                              refine ⟨by omega, ?_⟩
                              refine ⟨fun h287 => ?_, fun h287 => ?_⟩
                              · unfold wX11_parse_295
                                unfold wX11_parse_297
                                exact ⟨⟨(Ch.wk (Ch.tr (Ch.tr hS51h hS240) hS247) (by decide) (by decide)), by omega, by omega, by omega, by omega, by omega, n247_2, n247_3, n247_4, (PE_new (PE.mv i51_8 (hS240.1 43 (by decide)) (hS240.2 88 (by decide))) hbr n247_6), n247_7, (n247_5.elim (fun h => Or.inl (by omega)) (fun h => Or.inr (Or.inl (by omega)))), by omega, by omega⟩, show (2 * (3020 - r247) + min 1 (max 0 (-1 - (S247.1 54 59)))).toNat < (2 * (3020 - v51_1) + min 1 (max 0 (-1 - (S51h.1 54 59)))).toNat by omega⟩
                              · unfold wX11_parse_295
                                unfold wX11_parse_297
                                exact ⟨⟨(Ch.wk (Ch.tr (Ch.tr hS51h hS240) hS247) (by decide) (by decide)), by omega, by omega, by omega, by omega, by omega, n247_2, n247_3, n247_4, (PE_new (PE.mv i51_8 (hS240.1 43 (by decide)) (hS240.2 88 (by decide))) hbr n247_6), n247_7, (n247_5.elim (fun h => Or.inl (by omega)) (fun h => Or.inr (Or.inl (by omega)))), by omega, by omega⟩, show (2 * (3020 - r247) + min 1 (max 0 (-1 - (S247.1 54 59)))).toNat < (2 * (3020 - v51_1) + min 1 (max 0 (-1 - (S51h.1 54 59)))).toNat by omega⟩
                            · intro q789
                              unfold wX11_parse_283
                              refine ⟨by omega, ?_⟩
                              refine ⟨fun h287 => ?_, fun h287 => ?_⟩
                              · unfold wX11_parse_295
                                unfold wX11_parse_297
                                exact ⟨⟨(Ch.wk (Ch.tr (Ch.tr hS51h hS240) hS247) (by decide) (by decide)), by omega, by omega, by omega, by omega, by omega, n247_2, n247_3, n247_4, (PE_last (by omega)), n247_7, (n247_5.elim (fun h => Or.inl (by omega)) (fun h => Or.inr (Or.inl (by omega)))), by omega, by omega⟩, show (2 * (3020 - r247) + min 1 (max 0 (-1 - (S247.1 54 59)))).toNat < (2 * (3020 - v51_1) + min 1 (max 0 (-1 - (S51h.1 54 59)))).toNat by omega⟩
                              · unfold wX11_parse_295
                                unfold wX11_parse_297
                                exact ⟨⟨(Ch.wk (Ch.tr (Ch.tr hS51h hS240) hS247) (by decide) (by decide)), by omega, by omega, by omega, by omega, by omega, n247_2, n247_3, n247_4, (PE_last (by omega)), n247_7, (n247_5.elim (fun h => Or.inl (by omega)) (fun h => Or.inr (Or.inl (by omega)))), by omega, by omega⟩, show (2 * (3020 - r247) + min 1 (max 0 (-1 - (S247.1 54 59)))).toNat < (2 * (3020 - v51_1) + min 1 (max 0 (-1 - (S51h.1 54 59)))).toNat by omega⟩
                        · refine ⟨by omega, ?_⟩
                          refine tX11_fail (by omega) (fun r232 S232 hS232 n232_0 => ?_)
                          unfold wX11_parse_297
                          have e790 : S232.1 54 43 = S51h.1 54 43 := hS232.1 43 (by decide)
                          have e791 : S232.1 54 43 = S51h.1 54 43 := hS232.1 43 (by decide)
                          exact ⟨⟨(Ch.wk (Ch.tr hS51h hS232) (by decide) (by decide)), by omega, by omega, by omega, by omega, by omega, (PA.mv i51_5 ((hS232).1 51 (by decide)) (by have e792 : S232.1 54 56 = S51h.1 54 56 := hS232.1 56 (by decide); omega) ((hS232).2 92 (by decide)) ((hS232).2 93 (by decide)) ((hS232).2 94 (by decide)) ((hS232).2 95 (by decide))), (PR.mv i51_6 ((hS232).1 43 (by decide)) ((hS232).1 51 (by decide)) ((hS232).2 86 (by decide)) ((hS232).2 87 (by decide)) ((hS232).2 88 (by decide)) ((hS232).2 90 (by decide)) ((hS232).2 91 (by decide))), (PO.mv i51_7 ((hS232).1 43 (by decide)) ((hS232).2 88 (by decide))), (PE.mv i51_8 ((hS232).1 43 (by decide)) ((hS232).2 88 (by decide))), (by
                                unfold PB
                                have e793 : S232.1 54 41 = S51h.1 54 41 := hS232.1 41 (by decide)
                                have e794 : S51h.1 54 41 = S18.1 54 41 := hS51h.1 41 (by decide)
                                have e795 : S18.1 54 41 = S12.1 54 41 := hS18.1 41 (by decide)
                                have e796 : S12.1 54 41 = S7.1 54 41 := hS12.1 41 (by decide)
                                have e797 : S7.1 54 41 = S2.1 54 41 := hS7.1 41 (by decide)
                                have e798 : S2.1 54 41 = S.1 54 41 := hS2.1 41 (by decide)
                                have e799 : S232.1 54 56 = S51h.1 54 56 := hS232.1 56 (by decide)
                                have e800 : S232.1 54 51 = S51h.1 54 51 := hS232.1 51 (by decide)
                                first
                                | exact Or.inl (by omega)
                                | exact (Classical.em (-1 ≤ S232.1 54 59)).elim (fun hb => Or.inl hb) (fun hb => Or.inr ⟨by omega, by omega, by omega⟩)), (by
                                unfold P1
                                have e801 : S232.1 54 43 = S51h.1 54 43 := hS232.1 43 (by decide)
                                first | exact Or.inr (Or.inl (by omega)) | exact Or.inl (by omega)), by omega, by omega⟩, show (2 * (3020 - v51_1) + min 1 (max 0 (-1 - (S232.1 54 59)))).toNat < (2 * (3020 - v51_1) + min 1 (max 0 (-1 - (S51h.1 54 59)))).toNat by omega⟩
                      · refine ⟨by omega, ?_⟩
                        refine ⟨fun h210 => ?_, fun h210 => ?_⟩
                        · unfold wX11_parse_225
                          refine ⟨by omega, ?_⟩
                          refine ⟨fun h227 => ?_, fun h227 => ?_⟩
                          · intro S240 hS240e
                            have hS240 : Ch [60] [] S51h S240 := Ch_I hS240e
                            have hS240v : S240.1 54 60 = 0 := pI_at hS240e
                            refine ⟨by omega, ?_⟩
                            refine ⟨by omega, ?_⟩
                            refine ⟨by omega, ?_⟩
                            have e802 : S240.1 54 41 = S51h.1 54 41 := hS240.1 41 (by decide)
                            have e803 : S51h.1 54 41 = S18.1 54 41 := hS51h.1 41 (by decide)
                            have e804 : S18.1 54 41 = S12.1 54 41 := hS18.1 41 (by decide)
                            have e805 : S12.1 54 41 = S7.1 54 41 := hS12.1 41 (by decide)
                            have e806 : S7.1 54 41 = S2.1 54 41 := hS7.1 41 (by decide)
                            have e807 : S2.1 54 41 = S.1 54 41 := hS2.1 41 (by decide)
                            have e808 : S240.1 54 41 = S51h.1 54 41 := hS240.1 41 (by decide)
                            have e809 : S51h.1 54 41 = S18.1 54 41 := hS51h.1 41 (by decide)
                            have e810 : S18.1 54 41 = S12.1 54 41 := hS18.1 41 (by decide)
                            have e811 : S12.1 54 41 = S7.1 54 41 := hS12.1 41 (by decide)
                            have e812 : S7.1 54 41 = S2.1 54 41 := hS7.1 41 (by decide)
                            have e813 : S2.1 54 41 = S.1 54 41 := hS2.1 41 (by decide)
                            have e814 : S240.1 54 56 = S51h.1 54 56 := hS240.1 56 (by decide)
                            have e815 : S240.1 54 51 = S51h.1 54 51 := hS240.1 51 (by decide)
                            have e816 : S240.1 54 43 = S51h.1 54 43 := hS240.1 43 (by decide)
                            have e817 : S240.1 54 43 = S51h.1 54 43 := hS240.1 43 (by decide)
                            refine tX11_beginTag (by omega) (by omega) (by omega) (by omega) (by omega) (by omega) (PA.mv2 i51_5 ((hS240).1 51 (by decide)) ((hS240).1 56 (by decide)) ((hS240).2 92 (by decide)) ((hS240).2 93 (by decide)) ((hS240).2 94 (by decide)) ((hS240).2 95 (by decide))) (PR.mv i51_6 ((hS240).1 43 (by decide)) ((hS240).1 51 (by decide)) ((hS240).2 86 (by decide)) ((hS240).2 87 (by decide)) ((hS240).2 88 (by decide)) ((hS240).2 90 (by decide)) ((hS240).2 91 (by decide))) (PO.mv i51_7 ((hS240).1 43 (by decide)) ((hS240).2 88 (by decide))) (PE.mv i51_8 ((hS240).1 43 (by decide)) ((hS240).2 88 (by decide))) (by omega) (fun r247 S247 hS247 n247_0 n247_1 n247_2 n247_3 n247_4 n247_5 n247_6 n247_7 => ?_)
                            have hbr : (S247.1 54 43 = S240.1 54 43 + 1 ∧ S247.2 88 (S240.1 54 43) = v51_2) ∨ S247.1 54 43 = S240.1 54 43 := by
                              rcases n247_5 with h | h
                              · exact Or.inl h
                              · exact Or.inr h.1
                            intro q818
                            refine ⟨fun h255 => ?_, fun h255 => ?_⟩
                            · unfold wX11_parse_265
                              intro q819
                              refine ⟨fun h270 => ?_, fun h270 => ?_⟩
                              · unfold wX11_parse_283
                                refine ⟨by omega, ?_⟩
                                refine ⟨fun h287 => ?_, fun h287 => ?_⟩
                                · unfold wX11_parse_295
                                  unfold wX11_parse_297
                                  exact ⟨⟨(Ch.wk (Ch.tr (Ch.tr hS51h hS240) hS247) (by decide) (by decide)), by omega, by omega, by omega, by omega, by omega, n247_2, n247_3, n247_4, (PE_new (PE.mv i51_8 (hS240.1 43 (by decide)) (hS240.2 88 (by decide))) hbr n247_6), n247_7, (n247_5.elim (fun h => Or.inl (by omega)) (fun h => Or.inr (Or.inl (by omega)))), by omega, by omega⟩, show (2 * (3020 - r247) + min 1 (max 0 (-1 - (S247.1 54 59)))).toNat < (2 * (3020 - v51_1) + min 1 (max 0 (-1 - (S51h.1 54 59)))).toNat by omega⟩
                                · unfold wX11_parse_295
                                  unfold wX11_parse_297
                                  exact ⟨⟨(Ch.wk (Ch.tr (Ch.tr hS51h hS240) hS247) (by decide) (by decide)), by omega, by omega, by omega, by omega, by omega, n247_2, n247_3, n247_4, (PE_new (PE.mv i51_8 (hS240.1 43 (by decide)) (hS240.2 88 (by decide))) hbr n247_6), n247_7, (n247_5.elim (fun h => Or.inl (by omega)) (fun h => Or.inr (Or.inl (by omega)))), by omega, by omega⟩, show (2 * (3020 - r247) + min 1 (max 0 (-1 - (S247.1 54 59)))).toNat < (2 * (3020 - v51_1) + min 1 (max 0 (-1 - (S51h.1 54 59)))).toNat by omega⟩
                              · intro q820
                                unfold wX11_parse_283
                                refine ⟨by omega, ?_⟩
                                refine ⟨fun h287 => ?_, fun h287 => ?_⟩
                                · unfold wX11_parse_295
                                  unfold wX11_parse_297
                                  exact ⟨⟨(Ch.wk (Ch.tr (Ch.tr hS51h hS240) hS247) (by decide) (by decide)), by omega, by omega, by omega, by omega, by omega, n247_2, n247_3, n247_4, (PE_last (by omega)), n247_7, (n247_5.elim (fun h => Or.inl (by omega)) (fun h => Or.inr (Or.inl (by omega)))), by omega, by omega⟩, show (2 * (3020 - r247) + min 1 (max 0 (-1 - (S247.1 54 59)))).toNat < (2 * (3020 - v51_1) + min 1 (max 0 (-1 - (S51h.1 54 59)))).toNat by omega⟩
                                · unfold wX11_parse_295
                                  unfold wX11_parse_297
                                  exact ⟨⟨(Ch.wk (Ch.tr (Ch.tr hS51h hS240) hS247) (by decide) (by decide)), by omega, by omega, by omega, by omega, by omega, n247_2, n247_3, n247_4, (PE_last (by omega)), n247_7, (n247_5.elim (fun h => Or.inl (by omega)) (fun h => Or.inr (Or.inl (by omega)))), by omega, by omega⟩, show (2 * (3020 - r247) + min 1 (max 0 (-1 - (S247.1 54 59)))).toNat < (2 * (3020 - v51_1) + min 1 (max 0 (-1 - (S51h.1 54 59)))).toNat by omega⟩
                            · unfold wX11_parse_265
                              intro q821
                              refine ⟨fun h270 => ?_, fun h270 => ?_⟩
                              · unfold wX11_parse_283
                                refine ⟨by omega, ?_⟩
                                refine ⟨fun h287 => ?_, fun h287 => ?_⟩
                                · unfold wX11_parse_295
                                  unfold wX11_parse_297
                                  exact ⟨⟨(Ch.wk (Ch.tr (Ch.tr hS51h hS240) hS247) (by decide) (by decide)), by omega, by omega, by omega, by omega, by omega, n247_2, n247_3, n247_4, (PE_new (PE.mv i51_8 (hS240.1 43 (by decide)) (hS240.2 88 (by decide))) hbr n247_6), n247_7, (n247_5.elim (fun h => Or.inl (by omega)) (fun h => Or.inr (Or.inl (by omega)))), by omega, by omega⟩, show (2 * (3020 - r247) + min 1 (max 0 (-1 - (S247.1 54 59)))).toNat < (2 * (3020 - v51_1) + min 1 (max 0 (-1 - (S51h.1 54 59)))).toNat by omega⟩
                                · unfold wX11_parse_295
                                  unfold wX11_parse_297
                                  exact ⟨⟨(Ch.wk (Ch.tr (Ch.tr hS51h hS240) hS247) (by decide) (by decide)), by omega, by omega, by omega, by omega, by omega, n247_2, n247_3, n247_4, (PE_new (PE.mv i51_8 (hS240.1 43 (by decide)) (hS240.2 88 (by decide))) hbr n247_6), n247_7, (n247_5.elim (fun h => Or.inl (by omega)) (fun h => Or.inr (Or.inl (by omega)))), by omega, by omega⟩, show (2 * (3020 - r247) + min 1 (max 0 (-1 - (S247.1 54 59)))).toNat < (2 * (3020 - v51_1) + min 1 (max 0 (-1 - (S51h.1 54 59)))).toNat by omega⟩
                              · intro q822
                                unfold wX11_parse_283
                                refine ⟨by omega, ?_⟩
                                refine ⟨fun h287 => ?_, fun h287 => ?_⟩
                                · unfold wX11_parse_295
                                  unfold wX11_parse_297
                                  exact ⟨⟨(Ch.wk (Ch.tr (Ch.tr hS51h hS240) hS247) (by decide) (by decide)), by omega, by omega, by omega, by omega, by omega, n247_2, n247_3, n247_4, (PE_last (by omega)), n247_7, (n247_5.elim (fun h => Or.inl (by omega)) (fun h => Or.inr (Or.inl (by omega)))), by omega, by omega⟩, show (2 * (3020 - r247) + min 1 (max 0 (-1 - (S247.1 54 59)))).toNat < (2 * (3020 - v51_1) + min 1 (max 0 (-1 - (S51h.1 54 59)))).toNat by omega⟩
                                · unfold wX11_parse_295
                                  unfold wX11_parse_297
                                  exact ⟨⟨(Ch.wk (Ch.tr (Ch.tr hS51h hS240) hS247) (by decide) (by decide)), by omega, by omega, by omega, by omega, by omega, n247_2, n247_3, n247_4, (PE_last (by omega)), n247_7, (n247_5.elim (fun h => Or.inl (by omega)) (fun h => Or.inr (Or.inl (by omega)))), by omega, by omega⟩, show (2 * (3020 - r247) + min 1 (max 0 (-1 - (S247.1 54 59)))).toNat < (2 * (3020 - v51_1) + min 1 (max 0 (-1 - (S51h.1 54 59)))).toNat by omega⟩
                          · refine ⟨by omega, ?_⟩
                            refine tX11_fail (by omega) (fun r232 S232 hS232 n232_0 => ?_)
                            unfold wX11_parse_297
                            have e823 : S232.1 54 43 = S51h.1 54 43 := hS232.1 43 (by decide)
                            have e824 : S232.1 54 43 = S51h.1 54 43 := hS232.1 43 (by decide)
                            exact ⟨⟨(Ch.wk (Ch.tr hS51h hS232) (by decide) (by decide)), by omega, by omega, by omega, by omega, by omega, (PA.mv i51_5 ((hS232).1 51 (by decide)) (by have e825 : S232.1 54 56 = S51h.1 54 56 := hS232.1 56 (by decide); omega) ((hS232).2 92 (by decide)) ((hS232).2 93 (by decide)) ((hS232).2 94 (by decide)) ((hS232).2 95 (by decide))), (PR.mv i51_6 ((hS232).1 43 (by decide)) ((hS232).1 51 (by decide)) ((hS232).2 86 (by decide)) ((hS232).2 87 (by decide)) ((hS232).2 88 (by decide)) ((hS232).2 90 (by decide)) ((hS232).2 91 (by decide))), (PO.mv i51_7 ((hS232).1 43 (by decide)) ((hS232).2 88 (by decide))), (PE.mv i51_8 ((hS232).1 43 (by decide)) ((hS232).2 88 (by decide))), (by
                                  unfold PB
                                  have e826 : S232.1 54 41 = S51h.1 54 41 := hS232.1 41 (by decide)
                                  have e827 : S51h.1 54 41 = S18.1 54 41 := hS51h.1 41 (by decide)
                                  have e828 : S18.1 54 41 = S12.1 54 41 := hS18.1 41 (by decide)
                                  have e829 : S12.1 54 41 = S7.1 54 41 := hS12.1 41 (by decide)
                                  have e830 : S7.1 54 41 = S2.1 54 41 := hS7.1 41 (by decide)
                                  have e831 : S2.1 54 41 = S.1 54 41 := hS2.1 41 (by decide)
                                  have e832 : S232.1 54 56 = S51h.1 54 56 := hS232.1 56 (by decide)
                                  have e833 : S232.1 54 51 = S51h.1 54 51 := hS232.1 51 (by decide)
                                  first
                                  | exact Or.inl (by omega)
                                  | exact (Classical.em (-1 ≤ S232.1 54 59)).elim (fun hb => Or.inl hb) (fun hb => Or.inr ⟨by omega, by omega, by omega⟩)), (by
                                  unfold P1
                                  have e834 : S232.1 54 43 = S51h.1 54 43 := hS232.1 43 (by decide)
                                  first | exact Or.inr (Or.inl (by omega)) | exact Or.inl (by omega)), by omega, by omega⟩, show (2 * (3020 - v51_1) + min 1 (max 0 (-1 - (S232.1 54 59)))).toNat < (2 * (3020 - v51_1) + min 1 (max 0 (-1 - (S51h.1 54 59)))).toNat by omega⟩
                        · refine ⟨by omega, ?_⟩
                          refine ⟨by omega, ?_⟩
                          have e835 : S51h.1 54 41 = S18.1 54 41 := hS51h.1 41 (by decide)
                          have e836 : S18.1 54 41 = S12.1 54 41 := hS18.1 41 (by decide)
                          have e837 : S12.1 54 41 = S7.1 54 41 := hS12.1 41 (by decide)
                          have e838 : S7.1 54 41 = S2.1 54 41 := hS7.1 41 (by decide)
                          have e839 : S2.1 54 41 = S.1 54 41 := hS2.1 41 (by decide)
                          have e840 : S51h.1 54 41 = S18.1 54 41 := hS51h.1 41 (by decide)
                          have e841 : S18.1 54 41 = S12.1 54 41 := hS18.1 41 (by decide)
                          have e842 : S12.1 54 41 = S7.1 54 41 := hS12.1 41 (by decide)
                          have e843 : S7.1 54 41 = S2.1 54 41 := hS7.1 41 (by decide)
                          have e844 : S2.1 54 41 = S.1 54 41 := hS2.1 41 (by decide)
                          have e845 : S51h.1 54 41 = S18.1 54 41 := hS51h.1 41 (by decide)
                          have e846 : S18.1 54 41 = S12.1 54 41 := hS18.1 41 (by decide)
                          have e847 : S12.1 54 41 = S7.1 54 41 := hS12.1 41 (by decide)
                          have e848 : S7.1 54 41 = S2.1 54 41 := hS7.1 41 (by decide)
                          have e849 : S2.1 54 41 = S.1 54 41 := hS2.1 41 (by decide)
                          refine tX11_section (by omega) (by omega) (by omega) (by omega) (by omega) (by omega) (fun r218 S218 hS218 n218_0 n218_1 n218_2 n218_3 => ?_)
                          unfold wX11_parse_297
                          have e850 : S218.1 54 43 = S51h.1 54 43 := hS218.1 43 (by decide)
                          have e851 : S218.1 54 43 = S51h.1 54 43 := hS218.1 43 (by decide)
                          exact ⟨⟨(Ch.wk (Ch.tr hS51h hS218) (by decide) (by decide)), by omega, by omega, by omega, by omega, by omega, (PA.mv i51_5 ((hS218).1 51 (by decide)) (by omega) ((hS218).2 92 (by decide)) ((hS218).2 93 (by decide)) ((hS218).2 94 (by decide)) ((hS218).2 95 (by decide))), (PR.mv i51_6 ((hS218).1 43 (by decide)) ((hS218).1 51 (by decide)) ((hS218).2 86 (by decide)) ((hS218).2 87 (by decide)) ((hS218).2 88 (by decide)) ((hS218).2 90 (by decide)) ((hS218).2 91 (by decide))), (PO.mv i51_7 ((hS218).1 43 (by decide)) ((hS218).2 88 (by decide))), (PE.mv i51_8 ((hS218).1 43 (by decide)) ((hS218).2 88 (by decide))), (by
                                unfold PB
                                have e852 : S218.1 54 41 = S51h.1 54 41 := hS218.1 41 (by decide)
                                have e853 : S51h.1 54 41 = S18.1 54 41 := hS51h.1 41 (by decide)
                                have e854 : S18.1 54 41 = S12.1 54 41 := hS18.1 41 (by decide)
                                have e855 : S12.1 54 41 = S7.1 54 41 := hS12.1 41 (by decide)
                                have e856 : S7.1 54 41 = S2.1 54 41 := hS7.1 41 (by decide)
                                have e857 : S2.1 54 41 = S.1 54 41 := hS2.1 41 (by decide)
                                have e858 : S218.1 54 51 = S51h.1 54 51 := hS218.1 51 (by decide)
                                first
                                | exact Or.inl (by omega)
                                | exact (Classical.em (-1 ≤ S218.1 54 59)).elim (fun hb => Or.inl hb) (fun hb => Or.inr ⟨by omega, by omega, by omega⟩)), (by
                                unfold P1
                                have e859 : S218.1 54 43 = S51h.1 54 43 := hS218.1 43 (by decide)
                                first | exact Or.inr (Or.inl (by omega)) | exact Or.inl (by omega)), by omega, by omega⟩, show (2 * (3020 - r218) + min 1 (max 0 (-1 - (S218.1 54 59)))).toNat < (2 * (3020 - v51_1) + min 1 (max 0 (-1 - (S51h.1 54 59)))).toNat by omega⟩
                    · have hE2 := hE.2.resolve_left (by omega)
                      have hpr := i51_6.at (x := v51_2) (by omega) (by omega)
                      refine ⟨by omega, ?_⟩
                      have e860 : S51h.1 54 41 = S18.1 54 41 := hS51h.1 41 (by decide)
                      have e861 : S18.1 54 41 = S12.1 54 41 := hS18.1 41 (by decide)
                      have e862 : S12.1 54 41 = S7.1 54 41 := hS12.1 41 (by decide)
                      have e863 : S7.1 54 41 = S2.1 54 41 := hS7.1 41 (by decide)
                      have e864 : S2.1 54 41 = S.1 54 41 := hS2.1 41 (by decide)
                      have e865 : S51h.1 54 41 = S18.1 54 41 := hS51h.1 41 (by decide)
                      have e866 : S18.1 54 41 = S12.1 54 41 := hS18.1 41 (by decide)
                      have e867 : S12.1 54 41 = S7.1 54 41 := hS12.1 41 (by decide)
                      have e868 : S7.1 54 41 = S2.1 54 41 := hS7.1 41 (by decide)
                      have e869 : S2.1 54 41 = S.1 54 41 := hS2.1 41 (by decide)
                      have e870 : S51h.1 54 41 = S18.1 54 41 := hS51h.1 41 (by decide)
                      have e871 : S18.1 54 41 = S12.1 54 41 := hS18.1 41 (by decide)
                      have e872 : S12.1 54 41 = S7.1 54 41 := hS12.1 41 (by decide)
                      have e873 : S7.1 54 41 = S2.1 54 41 := hS7.1 41 (by decide)
                      have e874 : S2.1 54 41 = S.1 54 41 := hS2.1 41 (by decide)
                      refine tX11_endTag (by omega) (by omega) (by omega) (by omega) (by omega) (fun r170 S170 hS170 n170_0 n170_1 n170_2 => ?_)
                      refine ⟨by omega, by omega, ?_⟩
                      intro q875
                      have e876 : S170.2 88 (v51_2) = S51h.2 88 (v51_2) := congrFun (hS170.2 88 (by decide)) _
                      intro x180 hx180
                      subst hx180
                      refine ⟨fun h187 => ?_, fun h187 => ?_⟩
                      · unfold wX11_parse_195
                        unfold wX11_parse_297
                        have e877 : S170.1 54 43 = S51h.1 54 43 := hS170.1 43 (by decide)
                        have e878 : S170.1 54 43 = S51h.1 54 43 := hS170.1 43 (by decide)
                        exact ⟨⟨(Ch.wk (Ch.tr hS51h hS170) (by decide) (by decide)), by omega, by omega, by omega, by omega, by omega, (PA.mv i51_5 ((hS170).1 51 (by decide)) (by have e879 : S170.1 54 56 = S51h.1 54 56 := hS170.1 56 (by decide); omega) ((hS170).2 92 (by decide)) ((hS170).2 93 (by decide)) ((hS170).2 94 (by decide)) ((hS170).2 95 (by decide))), (PR.mv i51_6 ((hS170).1 43 (by decide)) ((hS170).1 51 (by decide)) ((hS170).2 86 (by decide)) ((hS170).2 87 (by decide)) ((hS170).2 88 (by decide)) ((hS170).2 90 (by decide)) ((hS170).2 91 (by decide))), (PO.mv i51_7 ((hS170).1 43 (by decide)) ((hS170).2 88 (by decide))), (by
                              rw [show S170.2 88 v51_2 = S51h.2 88 v51_2 from congrFun (hS170.2 88 (by decide)) _]
                              exact (PE_up (e := v51_2) i51_6 i51_7 (by omega) (by omega)).mv (hS170.1 43 (by decide)) (hS170.2 88 (by decide))), (by
                              unfold PB
                              have e880 : S170.1 54 41 = S51h.1 54 41 := hS170.1 41 (by decide)
                              have e881 : S51h.1 54 41 = S18.1 54 41 := hS51h.1 41 (by decide)
                              have e882 : S18.1 54 41 = S12.1 54 41 := hS18.1 41 (by decide)
                              have e883 : S12.1 54 41 = S7.1 54 41 := hS12.1 41 (by decide)
                              have e884 : S7.1 54 41 = S2.1 54 41 := hS7.1 41 (by decide)
                              have e885 : S2.1 54 41 = S.1 54 41 := hS2.1 41 (by decide)
                              have e886 : S170.1 54 56 = S51h.1 54 56 := hS170.1 56 (by decide)
                              have e887 : S170.1 54 51 = S51h.1 54 51 := hS170.1 51 (by decide)
                              first
                              | exact Or.inl (by omega)
                              | exact (Classical.em (-1 ≤ S170.1 54 59)).elim (fun hb => Or.inl hb) (fun hb => Or.inr ⟨by omega, by omega, by omega⟩)), (by
                              unfold P1
                              have e888 : S170.1 54 43 = S51h.1 54 43 := hS170.1 43 (by decide)
                              first | exact Or.inr (Or.inl (by omega)) | exact Or.inl (by omega)), by omega, by omega⟩, show (2 * (3020 - r170) + min 1 (max 0 (-1 - (S170.1 54 59)))).toNat < (2 * (3020 - v51_1) + min 1 (max 0 (-1 - (S51h.1 54 59)))).toNat by omega⟩
                      · unfold wX11_parse_195
                        unfold wX11_parse_297
                        have e889 : S170.1 54 43 = S51h.1 54 43 := hS170.1 43 (by decide)
                        have e890 : S170.1 54 43 = S51h.1 54 43 := hS170.1 43 (by decide)
                        exact ⟨⟨(Ch.wk (Ch.tr hS51h hS170) (by decide) (by decide)), by omega, by omega, by omega, by omega, by omega, (PA.mv i51_5 ((hS170).1 51 (by decide)) (by have e891 : S170.1 54 56 = S51h.1 54 56 := hS170.1 56 (by decide); omega) ((hS170).2 92 (by decide)) ((hS170).2 93 (by decide)) ((hS170).2 94 (by decide)) ((hS170).2 95 (by decide))), (PR.mv i51_6 ((hS170).1 43 (by decide)) ((hS170).1 51 (by decide)) ((hS170).2 86 (by decide)) ((hS170).2 87 (by decide)) ((hS170).2 88 (by decide)) ((hS170).2 90 (by decide)) ((hS170).2 91 (by decide))), (PO.mv i51_7 ((hS170).1 43 (by decide)) ((hS170).2 88 (by decide))), (by
                              rw [show S170.2 88 v51_2 = S51h.2 88 v51_2 from congrFun (hS170.2 88 (by decide)) _]
                              exact (PE_up (e := v51_2) i51_6 i51_7 (by omega) (by omega)).mv (hS170.1 43 (by decide)) (hS170.2 88 (by decide))), (by
                              unfold PB
                              have e892 : S170.1 54 41 = S51h.1 54 41 := hS170.1 41 (by decide)
                              have e893 : S51h.1 54 41 = S18.1 54 41 := hS51h.1 41 (by decide)
                              have e894 : S18.1 54 41 = S12.1 54 41 := hS18.1 41 (by decide)
                              have e895 : S12.1 54 41 = S7.1 54 41 := hS12.1 41 (by decide)
                              have e896 : S7.1 54 41 = S2.1 54 41 := hS7.1 41 (by decide)
                              have e897 : S2.1 54 41 = S.1 54 41 := hS2.1 41 (by decide)
                              have e898 : S170.1 54 56 = S51h.1 54 56 := hS170.1 56 (by decide)
                              have e899 : S170.1 54 51 = S51h.1 54 51 := hS170.1 51 (by decide)
                              first
                              | exact Or.inl (by omega)
                              | exact (Classical.em (-1 ≤ S170.1 54 59)).elim (fun hb => Or.inl hb) (fun hb => Or.inr ⟨by omega, by omega, by omega⟩)), (by
                              unfold P1
                              have e900 : S170.1 54 43 = S51h.1 54 43 := hS170.1 43 (by decide)
                              first | exact Or.inr (Or.inl (by omega)) | exact Or.inl (by omega)), by omega, by omega⟩, show (2 * (3020 - r170) + min 1 (max 0 (-1 - (S170.1 54 59)))).toNat < (2 * (3020 - v51_1) + min 1 (max 0 (-1 - (S51h.1 54 59)))).toNat by omega⟩
                · refine ⟨by omega, ?_⟩
                  refine tX11_keep (by omega) (by omega) (fun r145 S145 hS145 n145_0 => ?_)
                  unfold wX11_parse_297
                  have e901 : S145.1 54 43 = S51h.1 54 43 := hS145.1 43 (by decide)
                  have e902 : S145.1 54 43 = S51h.1 54 43 := hS145.1 43 (by decide)
                  have e903 : S145.1 54 59 = S51h.1 54 59 := hS145.1 59 (by decide)
                  have e904 : S145.1 54 59 = S51h.1 54 59 := hS145.1 59 (by decide)
                  exact ⟨⟨(Ch.wk (Ch.tr hS51h hS145) (by decide) (by decide)), by omega, by omega, by omega, by omega, by omega, (PA.mv i51_5 ((hS145).1 51 (by decide)) (by omega) ((hS145).2 92 (by decide)) ((hS145).2 93 (by decide)) ((hS145).2 94 (by decide)) ((hS145).2 95 (by decide))), (PR.mv i51_6 ((hS145).1 43 (by decide)) ((hS145).1 51 (by decide)) ((hS145).2 86 (by decide)) ((hS145).2 87 (by decide)) ((hS145).2 88 (by decide)) ((hS145).2 90 (by decide)) ((hS145).2 91 (by decide))), (PO.mv i51_7 ((hS145).1 43 (by decide)) ((hS145).2 88 (by decide))), (PE.mv i51_8 ((hS145).1 43 (by decide)) ((hS145).2 88 (by decide))), (by
                        unfold PB
                        have e905 : S145.1 54 59 = S51h.1 54 59 := hS145.1 59 (by decide)
                        have e906 : S145.1 54 41 = S51h.1 54 41 := hS145.1 41 (by decide)
                        have e907 : S51h.1 54 41 = S18.1 54 41 := hS51h.1 41 (by decide)
                        have e908 : S18.1 54 41 = S12.1 54 41 := hS18.1 41 (by decide)
                        have e909 : S12.1 54 41 = S7.1 54 41 := hS12.1 41 (by decide)
                        have e910 : S7.1 54 41 = S2.1 54 41 := hS7.1 41 (by decide)
                        have e911 : S2.1 54 41 = S.1 54 41 := hS2.1 41 (by decide)
                        have e912 : S145.1 54 51 = S51h.1 54 51 := hS145.1 51 (by decide)
                        first
                        | exact Or.inl (by omega)
                        | exact (Classical.em (-1 ≤ S145.1 54 59)).elim (fun hb => Or.inl hb) (fun hb => Or.inr ⟨by omega, by omega, by omega⟩)), (by
                        unfold P1
                        have e913 : S145.1 54 43 = S51h.1 54 43 := hS145.1 43 (by decide)
                        have e914 : S145.1 54 59 = S51h.1 54 59 := hS145.1 59 (by decide)
                        first | exact Or.inr (Or.inl (by omega)) | exact Or.inl (by omega)), by omega, by omega⟩, show (2 * (3020 - ((v51_1 + 1))) + min 1 (max 0 (-1 - (S145.1 54 59)))).toNat < (2 * (3020 - v51_1) + min 1 (max 0 (-1 - (S51h.1 54 59)))).toNat by omega⟩
              · refine ⟨by omega, ?_⟩
                refine ⟨by omega, ?_⟩
                have e915 : S51h.1 54 41 = S18.1 54 41 := hS51h.1 41 (by decide)
                have e916 : S18.1 54 41 = S12.1 54 41 := hS18.1 41 (by decide)
                have e917 : S12.1 54 41 = S7.1 54 41 := hS12.1 41 (by decide)
                have e918 : S7.1 54 41 = S2.1 54 41 := hS7.1 41 (by decide)
                have e919 : S2.1 54 41 = S.1 54 41 := hS2.1 41 (by decide)
                have e920 : S51h.1 54 41 = S18.1 54 41 := hS51h.1 41 (by decide)
                have e921 : S18.1 54 41 = S12.1 54 41 := hS18.1 41 (by decide)
                have e922 : S12.1 54 41 = S7.1 54 41 := hS12.1 41 (by decide)
                have e923 : S7.1 54 41 = S2.1 54 41 := hS7.1 41 (by decide)
                have e924 : S2.1 54 41 = S.1 54 41 := hS2.1 41 (by decide)
                have e925 : S51h.1 54 41 = S18.1 54 41 := hS51h.1 41 (by decide)
                have e926 : S18.1 54 41 = S12.1 54 41 := hS18.1 41 (by decide)
                have e927 : S12.1 54 41 = S7.1 54 41 := hS12.1 41 (by decide)
                have e928 : S7.1 54 41 = S2.1 54 41 := hS7.1 41 (by decide)
                have e929 : S2.1 54 41 = S.1 54 41 := hS2.1 41 (by decide)
                refine tX11_reference (by omega) (by omega) (by omega) (by omega) (by omega) (fun r127 S127 hS127 n127_0 n127_1 n127_2 n127_3 => ?_)
                unfold wX11_parse_297
                have e930 : S127.1 54 43 = S51h.1 54 43 := hS127.1 43 (by decide)
                have e931 : S127.1 54 43 = S51h.1 54 43 := hS127.1 43 (by decide)
                exact ⟨⟨(Ch.wk (Ch.tr hS51h hS127) (by decide) (by decide)), by omega, by omega, by omega, by omega, by omega, (PA.mv i51_5 ((hS127).1 51 (by decide)) (by omega) ((hS127).2 92 (by decide)) ((hS127).2 93 (by decide)) ((hS127).2 94 (by decide)) ((hS127).2 95 (by decide))), (PR.mv i51_6 ((hS127).1 43 (by decide)) ((hS127).1 51 (by decide)) ((hS127).2 86 (by decide)) ((hS127).2 87 (by decide)) ((hS127).2 88 (by decide)) ((hS127).2 90 (by decide)) ((hS127).2 91 (by decide))), (PO.mv i51_7 ((hS127).1 43 (by decide)) ((hS127).2 88 (by decide))), (PE.mv i51_8 ((hS127).1 43 (by decide)) ((hS127).2 88 (by decide))), (by
                      unfold PB
                      have e932 : S127.1 54 41 = S51h.1 54 41 := hS127.1 41 (by decide)
                      have e933 : S51h.1 54 41 = S18.1 54 41 := hS51h.1 41 (by decide)
                      have e934 : S18.1 54 41 = S12.1 54 41 := hS18.1 41 (by decide)
                      have e935 : S12.1 54 41 = S7.1 54 41 := hS12.1 41 (by decide)
                      have e936 : S7.1 54 41 = S2.1 54 41 := hS7.1 41 (by decide)
                      have e937 : S2.1 54 41 = S.1 54 41 := hS2.1 41 (by decide)
                      have e938 : S127.1 54 51 = S51h.1 54 51 := hS127.1 51 (by decide)
                      first
                      | exact Or.inl (by omega)
                      | exact (Classical.em (-1 ≤ S127.1 54 59)).elim (fun hb => Or.inl hb) (fun hb => Or.inr ⟨by omega, by omega, by omega⟩)), (by
                      unfold P1
                      have e939 : S127.1 54 43 = S51h.1 54 43 := hS127.1 43 (by decide)
                      first | exact Or.inr (Or.inl (by omega)) | exact Or.inl (by omega)), by omega, by omega⟩, show (2 * (3020 - r127) + min 1 (max 0 (-1 - (S127.1 54 59)))).toNat < (2 * (3020 - v51_1) + min 1 (max 0 (-1 - (S51h.1 54 59)))).toNat by omega⟩
            · refine ⟨by omega, ?_⟩
              refine tX11_fail (by omega) (fun r111 S111 hS111 n111_0 => ?_)
              unfold wX11_parse_297
              have e940 : S111.1 54 43 = S51h.1 54 43 := hS111.1 43 (by decide)
              have e941 : S111.1 54 43 = S51h.1 54 43 := hS111.1 43 (by decide)
              exact ⟨⟨(Ch.wk (Ch.tr hS51h hS111) (by decide) (by decide)), by omega, by omega, by omega, by omega, by omega, (PA.mv i51_5 ((hS111).1 51 (by decide)) (by have e942 : S111.1 54 56 = S51h.1 54 56 := hS111.1 56 (by decide); omega) ((hS111).2 92 (by decide)) ((hS111).2 93 (by decide)) ((hS111).2 94 (by decide)) ((hS111).2 95 (by decide))), (PR.mv i51_6 ((hS111).1 43 (by decide)) ((hS111).1 51 (by decide)) ((hS111).2 86 (by decide)) ((hS111).2 87 (by decide)) ((hS111).2 88 (by decide)) ((hS111).2 90 (by decide)) ((hS111).2 91 (by decide))), (PO.mv i51_7 ((hS111).1 43 (by decide)) ((hS111).2 88 (by decide))), (PE.mv i51_8 ((hS111).1 43 (by decide)) ((hS111).2 88 (by decide))), (by
                    unfold PB
                    have e943 : S111.1 54 41 = S51h.1 54 41 := hS111.1 41 (by decide)
                    have e944 : S51h.1 54 41 = S18.1 54 41 := hS51h.1 41 (by decide)
                    have e945 : S18.1 54 41 = S12.1 54 41 := hS18.1 41 (by decide)
                    have e946 : S12.1 54 41 = S7.1 54 41 := hS12.1 41 (by decide)
                    have e947 : S7.1 54 41 = S2.1 54 41 := hS7.1 41 (by decide)
                    have e948 : S2.1 54 41 = S.1 54 41 := hS2.1 41 (by decide)
                    have e949 : S111.1 54 56 = S51h.1 54 56 := hS111.1 56 (by decide)
                    have e950 : S111.1 54 51 = S51h.1 54 51 := hS111.1 51 (by decide)
                    first
                    | exact Or.inl (by omega)
                    | exact (Classical.em (-1 ≤ S111.1 54 59)).elim (fun hb => Or.inl hb) (fun hb => Or.inr ⟨by omega, by omega, by omega⟩)), (by
                    unfold P1
                    have e951 : S111.1 54 43 = S51h.1 54 43 := hS111.1 43 (by decide)
                    first | exact Or.inr (Or.inl (by omega)) | exact Or.inl (by omega)), by omega, by omega⟩, show (2 * (3020 - v51_1) + min 1 (max 0 (-1 - (S111.1 54 59)))).toNat < (2 * (3020 - v51_1) + min 1 (max 0 (-1 - (S51h.1 54 59)))).toNat by omega⟩
  · refine tX11_fail (by omega) (fun r39 S39 hS39 n39_0 => ?_)
    have e952 : S39.1 54 43 = S18.1 54 43 := hS39.1 43 (by decide)
    have e953 : S18.1 54 43 = S12.1 54 43 := hS18.1 43 (by decide)
    have e954 : S12.1 54 43 = S7.1 54 43 := hS12.1 43 (by decide)
    have e955 : S7.1 54 43 = S2.1 54 43 := hS7.1 43 (by decide)
    have e956 : S39.1 54 43 = S18.1 54 43 := hS39.1 43 (by decide)
    have e957 : S18.1 54 43 = S12.1 54 43 := hS18.1 43 (by decide)
    have e958 : S12.1 54 43 = S7.1 54 43 := hS12.1 43 (by decide)
    have e959 : S7.1 54 43 = S2.1 54 43 := hS7.1 43 (by decide)
    have e960 : S39.1 54 51 = S18.1 54 51 := hS39.1 51 (by decide)
    have e961 : S18.1 54 51 = S12.1 54 51 := hS18.1 51 (by decide)
    have e962 : S12.1 54 51 = S7.1 54 51 := hS12.1 51 (by decide)
    have e963 : S39.1 54 56 = S18.1 54 56 := hS39.1 56 (by decide)
    have e964 : S18.1 54 56 = S12.1 54 56 := hS18.1 56 (by decide)
    exact hK (0) S39 (Ch.wk (Ch.tr (Ch.tr (Ch.tr (Ch.tr hS2 hS7) hS12) hS18) hS39) (by decide) (by decide)) (by
          unfold PA
          intro x
          have e965 : S39.1 54 51 = S18.1 54 51 := hS39.1 51 (by decide)
          have e966 : S18.1 54 51 = S12.1 54 51 := hS18.1 51 (by decide)
          have e967 : S12.1 54 51 = S7.1 54 51 := hS12.1 51 (by decide)
          omega) (by
          unfold PR
          intro x
          have e968 : S39.1 54 43 = S18.1 54 43 := hS39.1 43 (by decide)
          have e969 : S18.1 54 43 = S12.1 54 43 := hS18.1 43 (by decide)
          have e970 : S12.1 54 43 = S7.1 54 43 := hS12.1 43 (by decide)
          have e971 : S7.1 54 43 = S2.1 54 43 := hS7.1 43 (by decide)
          omega) (by
          unfold PO
          intro x
          have e972 : S39.1 54 43 = S18.1 54 43 := hS39.1 43 (by decide)
          have e973 : S18.1 54 43 = S12.1 54 43 := hS18.1 43 (by decide)
          have e974 : S12.1 54 43 = S7.1 54 43 := hS12.1 43 (by decide)
          have e975 : S7.1 54 43 = S2.1 54 43 := hS7.1 43 (by decide)
          omega) (by omega) (by omega) (by omega)

