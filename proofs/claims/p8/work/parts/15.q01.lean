set_option maxRecDepth 100000 in
set_option maxHeartbeats 4000000 in
theorem tX11_parse {S : St} {K : Int → St → Prop} (p1 : iv 0 3000 ((S.1 54 41))) (hK : ∀ (r : Int) (S' : St), Ch [43, 51, 56, 59, 60] [85, 86, 87, 88, 89, 90, 91, 92, 93, 94, 95, 96, 97] S S' → (PA S') → (PR S') → (PO S') → (-1 ≤ (S'.1 54 59) ∨ 1 ≤ (S'.1 54 43)) → ((S'.1 54 43) ≤ 200) → (-1 ≤ (S'.1 54 59) ∨ ((S'.1 54 51) ≤ 600 ∧ (S'.1 54 56) ≤ 3000)) → K r S') : wX11_parse  S K := by
  unfold wX11_parse
  intro S2 hS2e
  have hS2 : Ch [43] [] S S2 := Ch_I hS2e
  have hS2v : S2.1 54 43 = 0 := pI_at hS2e
  intro S7 hS7e
  have hS7 : Ch [51] [] S2 S7 := Ch_I hS7e
  have hS7v : S7.1 54 51 = 0 := pI_at hS7e
  intro S12 hS12e
  have hS12 : Ch [56] [] S7 S12 := Ch_I hS12e
  have hS12v : S12.1 54 56 = 0 := pI_at hS12e
  intro S18 hS18e
  have hS18 : Ch [59] [] S12 S18 := Ch_I hS18e
  have hS18v : S18.1 54 59 = (-2) := pI_at hS18e
  have e1 : S18.1 54 41 = S12.1 54 41 := hS18.1 41 (by decide)
  have e2 : S12.1 54 41 = S7.1 54 41 := hS12.1 41 (by decide)
  have e3 : S7.1 54 41 = S2.1 54 41 := hS7.1 41 (by decide)
  have e4 : S2.1 54 41 = S.1 54 41 := hS2.1 41 (by decide)
  have e5 : S18.1 54 41 = S12.1 54 41 := hS18.1 41 (by decide)
  have e6 : S12.1 54 41 = S7.1 54 41 := hS12.1 41 (by decide)
  have e7 : S7.1 54 41 = S2.1 54 41 := hS7.1 41 (by decide)
  have e8 : S2.1 54 41 = S.1 54 41 := hS2.1 41 (by decide)
  have e9 : S18.1 54 41 = S12.1 54 41 := hS18.1 41 (by decide)
  have e10 : S12.1 54 41 = S7.1 54 41 := hS12.1 41 (by decide)
  have e11 : S7.1 54 41 = S2.1 54 41 := hS7.1 41 (by decide)
  have e12 : S2.1 54 41 = S.1 54 41 := hS2.1 41 (by decide)
  refine tX11_blanksFrom (by omega) (by omega) (by omega) (fun r23 n23_0 n23_1 => ?_)
  refine ⟨by omega, ?_⟩
  have e13 : S18.1 54 41 = S12.1 54 41 := hS18.1 41 (by decide)
  have e14 : S12.1 54 41 = S7.1 54 41 := hS12.1 41 (by decide)
  have e15 : S7.1 54 41 = S2.1 54 41 := hS7.1 41 (by decide)
  have e16 : S2.1 54 41 = S.1 54 41 := hS2.1 41 (by decide)
  have e17 : S18.2 84 (r23) = S12.2 84 (r23) := congrFun (hS18.2 84 (by decide)) _
  have e18 : S12.2 84 (r23) = S7.2 84 (r23) := congrFun (hS12.2 84 (by decide)) _
  have e19 : S7.2 84 (r23) = S2.2 84 (r23) := congrFun (hS7.2 84 (by decide)) _
  have e20 : S2.2 84 (r23) = S.2 84 (r23) := congrFun (hS2.2 84 (by decide)) _
  have e21 : S18.1 54 41 = S12.1 54 41 := hS18.1 41 (by decide)
  have e22 : S12.1 54 41 = S7.1 54 41 := hS12.1 41 (by decide)
  have e23 : S7.1 54 41 = S2.1 54 41 := hS7.1 41 (by decide)
  have e24 : S2.1 54 41 = S.1 54 41 := hS2.1 41 (by decide)
  refine tX11_docAt (by omega) (fun r29 n29_0 n29_1 n29_2 => ?_)
  refine ⟨by omega, ?_⟩
  refine ⟨fun h34 => ?_, fun h34 => ?_⟩
  · unfold wX11_parse_51
    have e25 : S18.1 54 43 = S12.1 54 43 := hS18.1 43 (by decide)
    have e26 : S12.1 54 43 = S7.1 54 43 := hS12.1 43 (by decide)
    have e27 : S7.1 54 43 = S2.1 54 43 := hS7.1 43 (by decide)
    have e28 : S18.1 54 43 = S12.1 54 43 := hS18.1 43 (by decide)
    have e29 : S12.1 54 43 = S7.1 54 43 := hS12.1 43 (by decide)
    have e30 : S7.1 54 43 = S2.1 54 43 := hS7.1 43 (by decide)
    refine ⟨fun u1 u2 u3 u4 Sx => Ch [43, 51, 56, 59, 60] [85, 86, 87, 88, 89, 90, 91, 92, 93, 94, 95, 96, 97] S18 Sx ∧ (iv 0 3010 u1) ∧ (iv (-2) 199 u2) ∧ (u3 ≤ u1) ∧ (-u3 ≤ u1) ∧ (iv 0 1 u4) ∧ (PA Sx) ∧ (PR Sx) ∧ (PO Sx) ∧ (PE Sx u2) ∧ (PB Sx u1) ∧ (P1 Sx u1 u2) ∧ ((Sx.1 54 43) ≤ 200) ∧ (u4 = 1 ∨ 1 ≤ (Sx.1 54 43) ∨ -1 ≤ (Sx.1 54 59)), fun u1 u2 u3 u4 Sx => (2 * (3020 - u1) + min 1 (max 0 (-1 - (Sx.1 54 59)))).toNat, ?_, fun v51_1 v51_2 v51_3 v51_4 S51h hI => ?_⟩
    · exact ⟨Ch.re, by omega, by omega, by omega, by omega, by omega, (by
          unfold PA
          intro x
          have e31 : S18.1 54 51 = S12.1 54 51 := hS18.1 51 (by decide)
          have e32 : S12.1 54 51 = S7.1 54 51 := hS12.1 51 (by decide)
          omega), (by
          unfold PR
          intro x
          have e33 : S18.1 54 43 = S12.1 54 43 := hS18.1 43 (by decide)
          have e34 : S12.1 54 43 = S7.1 54 43 := hS12.1 43 (by decide)
          have e35 : S7.1 54 43 = S2.1 54 43 := hS7.1 43 (by decide)
          omega), (by
          unfold PO
          intro x
          have e36 : S18.1 54 43 = S12.1 54 43 := hS18.1 43 (by decide)
          have e37 : S12.1 54 43 = S7.1 54 43 := hS12.1 43 (by decide)
          have e38 : S7.1 54 43 = S2.1 54 43 := hS7.1 43 (by decide)
          omega), ⟨by omega, Or.inl rfl⟩, (by
          unfold PB
          have e39 : S18.1 54 41 = S12.1 54 41 := hS18.1 41 (by decide)
          have e40 : S12.1 54 41 = S7.1 54 41 := hS12.1 41 (by decide)
          have e41 : S7.1 54 41 = S2.1 54 41 := hS7.1 41 (by decide)
          have e42 : S2.1 54 41 = S.1 54 41 := hS2.1 41 (by decide)
          have e43 : S18.1 54 56 = S12.1 54 56 := hS18.1 56 (by decide)
          have e44 : S18.1 54 51 = S12.1 54 51 := hS18.1 51 (by decide)
          have e45 : S12.1 54 51 = S7.1 54 51 := hS12.1 51 (by decide)
          exact Or.inr ⟨by omega, by omega, by omega⟩), (by
          unfold P1
          refine Or.inr (Or.inr ⟨rfl, by omega, ?_⟩)
          have e84 : S18.2 84 = S.2 84 := ((Ch.tr (Ch.tr (Ch.tr hS2 hS7) hS12) hS18)).2 84 (by decide)
          omega), by omega, by omega⟩
    obtain ⟨hS51h, i51_0, i51_1, i51_2, i51_3, i51_4, i51_5, i51_6, i51_7, i51_8, i51_9, i51_10, i51_11, i51_12⟩ := hI
    unfold wX11_parse_51'
    refine ⟨by omega, ?_⟩
    refine ⟨fun h53 => ?_, fun h53 => ?_⟩
    · unfold wX11_parse_300
      intro q46
      refine ⟨fun h306 => ?_, fun h306 => ?_⟩
      · have hib : PB S51h (v51_1) := i51_9
        unfold PB at hib
        have hib := hib.resolve_left (by omega)
        refine ⟨by omega, ?_⟩
        have e47 : S51h.1 54 41 = S18.1 54 41 := hS51h.1 41 (by decide)
        have e48 : S18.1 54 41 = S12.1 54 41 := hS18.1 41 (by decide)
        have e49 : S12.1 54 41 = S7.1 54 41 := hS12.1 41 (by decide)
        have e50 : S7.1 54 41 = S2.1 54 41 := hS7.1 41 (by decide)
        have e51 : S2.1 54 41 = S.1 54 41 := hS2.1 41 (by decide)
        have e52 : S51h.1 54 41 = S18.1 54 41 := hS51h.1 41 (by decide)
        have e53 : S18.1 54 41 = S12.1 54 41 := hS18.1 41 (by decide)
        have e54 : S12.1 54 41 = S7.1 54 41 := hS12.1 41 (by decide)
        have e55 : S7.1 54 41 = S2.1 54 41 := hS7.1 41 (by decide)
        have e56 : S2.1 54 41 = S.1 54 41 := hS2.1 41 (by decide)
        have e57 : S51h.1 54 41 = S18.1 54 41 := hS51h.1 41 (by decide)
        have e58 : S18.1 54 41 = S12.1 54 41 := hS18.1 41 (by decide)
        have e59 : S12.1 54 41 = S7.1 54 41 := hS12.1 41 (by decide)
        have e60 : S7.1 54 41 = S2.1 54 41 := hS7.1 41 (by decide)
        have e61 : S2.1 54 41 = S.1 54 41 := hS2.1 41 (by decide)
        refine tX11_blanksFrom (by omega) (by omega) (by omega) (fun r312 n312_0 n312_1 => ?_)
        intro q62
        have e63 : S51h.1 54 41 = S18.1 54 41 := hS51h.1 41 (by decide)
        have e64 : S18.1 54 41 = S12.1 54 41 := hS18.1 41 (by decide)
        have e65 : S12.1 54 41 = S7.1 54 41 := hS12.1 41 (by decide)
        have e66 : S7.1 54 41 = S2.1 54 41 := hS7.1 41 (by decide)
        have e67 : S2.1 54 41 = S.1 54 41 := hS2.1 41 (by decide)
        refine ⟨by omega, ?_⟩
        refine ⟨fun h321 => ?_, fun h321 => ?_⟩
        · exact hK (0) S51h (Ch.wk (Ch.tr (Ch.tr (Ch.tr (Ch.tr hS2 hS7) hS12) hS18) hS51h) (by decide) (by decide)) i51_5 i51_6 i51_7 (by omega) (by omega) (by omega)
        · refine tX11_fail (by omega) (fun r326 S326 hS326 n326_0 => ?_)
          have e68 : S326.1 54 43 = S51h.1 54 43 := hS326.1 43 (by decide)
          have e69 : S326.1 54 43 = S51h.1 54 43 := hS326.1 43 (by decide)
          have e70 : S326.1 54 51 = S51h.1 54 51 := hS326.1 51 (by decide)
          have e71 : S326.1 54 56 = S51h.1 54 56 := hS326.1 56 (by decide)
          exact hK (0) S326 (Ch.wk (Ch.tr (Ch.tr (Ch.tr (Ch.tr (Ch.tr hS2 hS7) hS12) hS18) hS51h) hS326) (by decide) (by decide)) (PA.mv2 i51_5 ((hS326).1 51 (by decide)) ((hS326).1 56 (by decide)) ((hS326).2 92 (by decide)) ((hS326).2 93 (by decide)) ((hS326).2 94 (by decide)) ((hS326).2 95 (by decide))) (PR.mv i51_6 ((hS326).1 43 (by decide)) ((hS326).1 51 (by decide)) ((hS326).2 86 (by decide)) ((hS326).2 87 (by decide)) ((hS326).2 88 (by decide)) ((hS326).2 90 (by decide)) ((hS326).2 91 (by decide))) (PO.mv i51_7 ((hS326).1 43 (by decide)) ((hS326).2 88 (by decide))) (by omega) (by omega) (by omega)
      · exact hK (0) S51h (Ch.wk (Ch.tr (Ch.tr (Ch.tr (Ch.tr hS2 hS7) hS12) hS18) hS51h) (by decide) (by decide)) i51_5 i51_6 i51_7 (by omega) (by omega) (by omega)
    · intro q72
      refine ⟨fun h62 => ?_, fun h62 => ?_⟩
      · unfold wX11_parse_300
        intro q73
        refine ⟨fun h306 => ?_, fun h306 => ?_⟩
        · have hib : PB S51h (v51_1) := i51_9
          unfold PB at hib
          have hib := hib.resolve_left (by omega)
          refine ⟨by omega, ?_⟩
          have e74 : S51h.1 54 41 = S18.1 54 41 := hS51h.1 41 (by decide)
          have e75 : S18.1 54 41 = S12.1 54 41 := hS18.1 41 (by decide)
          have e76 : S12.1 54 41 = S7.1 54 41 := hS12.1 41 (by decide)
          have e77 : S7.1 54 41 = S2.1 54 41 := hS7.1 41 (by decide)
          have e78 : S2.1 54 41 = S.1 54 41 := hS2.1 41 (by decide)
          have e79 : S51h.1 54 41 = S18.1 54 41 := hS51h.1 41 (by decide)
          have e80 : S18.1 54 41 = S12.1 54 41 := hS18.1 41 (by decide)
          have e81 : S12.1 54 41 = S7.1 54 41 := hS12.1 41 (by decide)
          have e82 : S7.1 54 41 = S2.1 54 41 := hS7.1 41 (by decide)
          have e83 : S2.1 54 41 = S.1 54 41 := hS2.1 41 (by decide)
          have e84 : S51h.1 54 41 = S18.1 54 41 := hS51h.1 41 (by decide)
          have e85 : S18.1 54 41 = S12.1 54 41 := hS18.1 41 (by decide)
          have e86 : S12.1 54 41 = S7.1 54 41 := hS12.1 41 (by decide)
          have e87 : S7.1 54 41 = S2.1 54 41 := hS7.1 41 (by decide)
          have e88 : S2.1 54 41 = S.1 54 41 := hS2.1 41 (by decide)
          refine tX11_blanksFrom (by omega) (by omega) (by omega) (fun r312 n312_0 n312_1 => ?_)
          intro q89
          have e90 : S51h.1 54 41 = S18.1 54 41 := hS51h.1 41 (by decide)
          have e91 : S18.1 54 41 = S12.1 54 41 := hS18.1 41 (by decide)
          have e92 : S12.1 54 41 = S7.1 54 41 := hS12.1 41 (by decide)
          have e93 : S7.1 54 41 = S2.1 54 41 := hS7.1 41 (by decide)
          have e94 : S2.1 54 41 = S.1 54 41 := hS2.1 41 (by decide)
          refine ⟨by omega, ?_⟩
          refine ⟨fun h321 => ?_, fun h321 => ?_⟩
          · exact hK (0) S51h (Ch.wk (Ch.tr (Ch.tr (Ch.tr (Ch.tr hS2 hS7) hS12) hS18) hS51h) (by decide) (by decide)) i51_5 i51_6 i51_7 (by omega) (by omega) (by omega)
          · refine tX11_fail (by omega) (fun r326 S326 hS326 n326_0 => ?_)
            have e95 : S326.1 54 43 = S51h.1 54 43 := hS326.1 43 (by decide)
            have e96 : S326.1 54 43 = S51h.1 54 43 := hS326.1 43 (by decide)
            have e97 : S326.1 54 51 = S51h.1 54 51 := hS326.1 51 (by decide)
            have e98 : S326.1 54 56 = S51h.1 54 56 := hS326.1 56 (by decide)
            exact hK (0) S326 (Ch.wk (Ch.tr (Ch.tr (Ch.tr (Ch.tr (Ch.tr hS2 hS7) hS12) hS18) hS51h) hS326) (by decide) (by decide)) (PA.mv2 i51_5 ((hS326).1 51 (by decide)) ((hS326).1 56 (by decide)) ((hS326).2 92 (by decide)) ((hS326).2 93 (by decide)) ((hS326).2 94 (by decide)) ((hS326).2 95 (by decide))) (PR.mv i51_6 ((hS326).1 43 (by decide)) ((hS326).1 51 (by decide)) ((hS326).2 86 (by decide)) ((hS326).2 87 (by decide)) ((hS326).2 88 (by decide)) ((hS326).2 90 (by decide)) ((hS326).2 91 (by decide))) (PO.mv i51_7 ((hS326).1 43 (by decide)) ((hS326).2 88 (by decide))) (by omega) (by omega) (by omega)
        · exact hK (0) S51h (Ch.wk (Ch.tr (Ch.tr (Ch.tr (Ch.tr hS2 hS7) hS12) hS18) hS51h) (by decide) (by decide)) i51_5 i51_6 i51_7 (by omega) (by omega) (by omega)
      · have hib : PB S51h (v51_1) := i51_9
        unfold PB at hib
        have hib := hib.resolve_left (by omega)
        have hE : PE S51h (v51_2) := i51_8
        have hE1 := hE.1
        have h1 : P1 S51h (v51_1) (v51_2) := i51_10
        unfold P1 at h1
        refine ⟨by omega, ?_⟩
        have e99 : S51h.1 54 41 = S18.1 54 41 := hS51h.1 41 (by decide)
        have e100 : S18.1 54 41 = S12.1 54 41 := hS18.1 41 (by decide)
        have e101 : S12.1 54 41 = S7.1 54 41 := hS12.1 41 (by decide)
        have e102 : S7.1 54 41 = S2.1 54 41 := hS7.1 41 (by decide)
        have e103 : S2.1 54 41 = S.1 54 41 := hS2.1 41 (by decide)
        have e104 : S51h.2 84 (v51_1) = S18.2 84 (v51_1) := congrFun (hS51h.2 84 (by decide)) _
        have e105 : S18.2 84 (v51_1) = S12.2 84 (v51_1) := congrFun (hS18.2 84 (by decide)) _
        have e106 : S12.2 84 (v51_1) = S7.2 84 (v51_1) := congrFun (hS12.2 84 (by decide)) _
        have e107 : S7.2 84 (v51_1) = S2.2 84 (v51_1) := congrFun (hS7.2 84 (by decide)) _
        have e108 : S2.2 84 (v51_1) = S.2 84 (v51_1) := congrFun (hS2.2 84 (by decide)) _
        have e109 : S51h.1 54 41 = S18.1 54 41 := hS51h.1 41 (by decide)
        have e110 : S18.1 54 41 = S12.1 54 41 := hS18.1 41 (by decide)
        have e111 : S12.1 54 41 = S7.1 54 41 := hS12.1 41 (by decide)
        have e112 : S7.1 54 41 = S2.1 54 41 := hS7.1 41 (by decide)
        have e113 : S2.1 54 41 = S.1 54 41 := hS2.1 41 (by decide)
        refine tX11_docAt (by omega) (fun r67 n67_0 n67_1 n67_2 => ?_)
        refine ⟨by omega, ?_⟩
        have e114 : S51h.1 54 41 = S18.1 54 41 := hS51h.1 41 (by decide)
        have e115 : S18.1 54 41 = S12.1 54 41 := hS18.1 41 (by decide)
        have e116 : S12.1 54 41 = S7.1 54 41 := hS12.1 41 (by decide)
        have e117 : S7.1 54 41 = S2.1 54 41 := hS7.1 41 (by decide)
        have e118 : S2.1 54 41 = S.1 54 41 := hS2.1 41 (by decide)
        have e119 : S51h.2 84 ((v51_1 + 1)) = S18.2 84 ((v51_1 + 1)) := congrFun (hS51h.2 84 (by decide)) _
        have e120 : S18.2 84 ((v51_1 + 1)) = S12.2 84 ((v51_1 + 1)) := congrFun (hS18.2 84 (by decide)) _
        have e121 : S12.2 84 ((v51_1 + 1)) = S7.2 84 ((v51_1 + 1)) := congrFun (hS12.2 84 (by decide)) _
        have e122 : S7.2 84 ((v51_1 + 1)) = S2.2 84 ((v51_1 + 1)) := congrFun (hS7.2 84 (by decide)) _
        have e123 : S2.2 84 ((v51_1 + 1)) = S.2 84 ((v51_1 + 1)) := congrFun (hS2.2 84 (by decide)) _
        have e124 : S51h.1 54 41 = S18.1 54 41 := hS51h.1 41 (by decide)
        have e125 : S18.1 54 41 = S12.1 54 41 := hS18.1 41 (by decide)
        have e126 : S12.1 54 41 = S7.1 54 41 := hS12.1 41 (by decide)
        have e127 : S7.1 54 41 = S2.1 54 41 := hS7.1 41 (by decide)
        have e128 : S2.1 54 41 = S.1 54 41 := hS2.1 41 (by decide)
        refine tX11_docAt (by omega) (fun r76 n76_0 n76_1 n76_2 => ?_)
        refine ⟨by omega, ?_⟩
        refine ⟨fun h84 => ?_, fun h84 => ?_⟩
        · unfold wX11_parse_97
          unfold wX11_parse_102
          refine ⟨by omega, ?_⟩
          refine ⟨fun h106 => ?_, fun h106 => ?_⟩
          · refine ⟨fun h121 => ?_, fun h121 => ?_⟩
            · refine ⟨fun h138 => ?_, fun h138 => ?_⟩
              · refine ⟨by omega, ?_⟩
                refine ⟨fun h158 => ?_, fun h158 => ?_⟩
                · unfold wX11_parse_200
                  refine ⟨by omega, ?_⟩
                  refine ⟨fun h204 => ?_, fun h204 => ?_⟩
                  · unfold wX11_parse_225
                    refine ⟨by omega, ?_⟩
                    refine ⟨fun h227 => ?_, fun h227 => ?_⟩
                    · intro S240 hS240e
                      have hS240 : Ch [60] [] S51h S240 := Ch_I hS240e
                      have hS240v : S240.1 54 60 = 0 := pI_at hS240e
                      refine ⟨by omega, ?_⟩
                      refine ⟨by omega, ?_⟩
                      refine ⟨by omega, ?_⟩
                      have e129 : S240.1 54 41 = S51h.1 54 41 := hS240.1 41 (by decide)
                      have e130 : S51h.1 54 41 = S18.1 54 41 := hS51h.1 41 (by decide)
                      have e131 : S18.1 54 41 = S12.1 54 41 := hS18.1 41 (by decide)
                      have e132 : S12.1 54 41 = S7.1 54 41 := hS12.1 41 (by decide)
                      have e133 : S7.1 54 41 = S2.1 54 41 := hS7.1 41 (by decide)
                      have e134 : S2.1 54 41 = S.1 54 41 := hS2.1 41 (by decide)
                      have e135 : S240.1 54 41 = S51h.1 54 41 := hS240.1 41 (by decide)
                      have e136 : S51h.1 54 41 = S18.1 54 41 := hS51h.1 41 (by decide)
                      have e137 : S18.1 54 41 = S12.1 54 41 := hS18.1 41 (by decide)
                      have e138 : S12.1 54 41 = S7.1 54 41 := hS12.1 41 (by decide)
                      have e139 : S7.1 54 41 = S2.1 54 41 := hS7.1 41 (by decide)
                      have e140 : S2.1 54 41 = S.1 54 41 := hS2.1 41 (by decide)
                      have e141 : S240.1 54 56 = S51h.1 54 56 := hS240.1 56 (by decide)
                      have e142 : S240.1 54 51 = S51h.1 54 51 := hS240.1 51 (by decide)
                      have e143 : S240.1 54 43 = S51h.1 54 43 := hS240.1 43 (by decide)
                      have e144 : S240.1 54 43 = S51h.1 54 43 := hS240.1 43 (by decide)
                      refine tX11_beginTag (by omega) (by omega) (by omega) (by omega) (by omega) (by omega) (PA.mv2 i51_5 ((hS240).1 51 (by decide)) ((hS240).1 56 (by decide)) ((hS240).2 92 (by decide)) ((hS240).2 93 (by decide)) ((hS240).2 94 (by decide)) ((hS240).2 95 (by decide))) (PR.mv i51_6 ((hS240).1 43 (by decide)) ((hS240).1 51 (by decide)) ((hS240).2 86 (by decide)) ((hS240).2 87 (by decide)) ((hS240).2 88 (by decide)) ((hS240).2 90 (by decide)) ((hS240).2 91 (by decide))) (PO.mv i51_7 ((hS240).1 43 (by decide)) ((hS240).2 88 (by decide))) (PE.mv i51_8 ((hS240).1 43 (by decide)) ((hS240).2 88 (by decide))) (by omega) (fun r247 S247 hS247 n247_0 n247_1 n247_2 n247_3 n247_4 n247_5 n247_6 n247_7 => ?_)
                      have hbr : (S247.1 54 43 = S240.1 54 43 + 1 ∧ S247.2 88 (S240.1 54 43) = v51_2) ∨ S247.1 54 43 = S240.1 54 43 := by
                        rcases n247_5 with h | h
                        · exact Or.inl h
                        · exact Or.inr h.1
                      intro q145
                      refine ⟨fun h255 => ?_, fun h255 => ?_⟩
                      · unfold wX11_parse_265
                        intro q146
                        refine ⟨fun h270 => ?_, fun h270 => ?_⟩
                        · unfold wX11_parse_283
                          refine ⟨by omega, ?_⟩
                          refine ⟨fun h287 => ?_, fun h287 => ?_⟩
                          · unfold wX11_parse_295
                            unfold wX11_parse_297
                            exact ⟨⟨(Ch.wk (Ch.tr (Ch.tr hS51h hS240) hS247) (by decide) (by decide)), by omega, by omega, by omega, by omega, by omega, n247_2, n247_3, n247_4, (PE_new (PE.mv i51_8 (hS240.1 43 (by decide)) (hS240.2 88 (by decide))) hbr n247_6), n247_7, (n247_5.elim (fun h => Or.inl (by omega)) (fun h => Or.inr (Or.inl (by omega)))), by omega, by omega⟩, show (2 * (3020 - r247) + min 1 (max 0 (-1 - (S247.1 54 59)))).toNat < (2 * (3020 - v51_1) + min 1 (max 0 (-1 - (S51h.1 54 59)))).toNat by omega⟩
                          · unfold wX11_parse_295
                            unfold wX11_parse_297
                            exact ⟨⟨(Ch.wk (Ch.tr (Ch.tr hS51h hS240) hS247) (by decide) (by decide)), by omega, by omega, by omega, by omega, by omega, n247_2, n247_3, n247_4, (PE_new (PE.mv i51_8 (hS240.1 43 (by decide)) (hS240.2 88 (by decide))) hbr n247_6), n247_7, (n247_5.elim (fun h => Or.inl (by omega)) (fun h => Or.inr (Or.inl (by omega)))), by omega, by omega⟩, show (2 * (3020 - r247) + min 1 (max 0 (-1 - (S247.1 54 59)))).toNat < (2 * (3020 - v51_1) + min 1 (max 0 (-1 - (S51h.1 54 59)))).toNat by omega⟩
                        · intro q147
                          unfold wX11_parse_283
                          refine ⟨by omega, ?_⟩
                          refine ⟨fun h287 => ?_, fun h287 => ?_⟩
                          · unfold wX11_parse_295
                            unfold wX11_parse_297
                            exact ⟨⟨(Ch.wk (Ch.tr (Ch.tr hS51h hS240) hS247) (by decide) (by decide)), by omega, by omega, by omega, by omega, by omega, n247_2, n247_3, n247_4, (PE_last (by omega)), n247_7, (n247_5.elim (fun h => Or.inl (by omega)) (fun h => Or.inr (Or.inl (by omega)))), by omega, by omega⟩, show (2 * (3020 - r247) + min 1 (max 0 (-1 - (S247.1 54 59)))).toNat < (2 * (3020 - v51_1) + min 1 (max 0 (-1 - (S51h.1 54 59)))).toNat by omega⟩
                          · unfold wX11_parse_295
                            unfold wX11_parse_297
                            exact ⟨⟨(Ch.wk (Ch.tr (Ch.tr hS51h hS240) hS247) (by decide) (by decide)), by omega, by omega, by omega, by omega, by omega, n247_2, n247_3, n247_4, (PE_last (by omega)), n247_7, (n247_5.elim (fun h => Or.inl (by omega)) (fun h => Or.inr (Or.inl (by omega)))), by omega, by omega⟩, show (2 * (3020 - r247) + min 1 (max 0 (-1 - (S247.1 54 59)))).toNat < (2 * (3020 - v51_1) + min 1 (max 0 (-1 - (S51h.1 54 59)))).toNat by omega⟩
                      · unfold wX11_parse_265
                        intro q148
                        refine ⟨fun h270 => ?_, fun h270 => ?_⟩
                        · unfold wX11_parse_283
                          refine ⟨by omega, ?_⟩
                          refine ⟨fun h287 => ?_, fun h287 => ?_⟩
                          · unfold wX11_parse_295
                            unfold wX11_parse_297
                            exact ⟨⟨(Ch.wk (Ch.tr (Ch.tr hS51h hS240) hS247) (by decide) (by decide)), by omega, by omega, by omega, by omega, by omega, n247_2, n247_3, n247_4, (PE_new (PE.mv i51_8 (hS240.1 43 (by decide)) (hS240.2 88 (by decide))) hbr n247_6), n247_7, (n247_5.elim (fun h => Or.inl (by omega)) (fun h => Or.inr (Or.inl (by omega)))), by omega, by omega⟩, show (2 * (3020 - r247) + min 1 (max 0 (-1 - (S247.1 54 59)))).toNat < (2 * (3020 - v51_1) + min 1 (max 0 (-1 - (S51h.1 54 59)))).toNat by omega⟩
                          · unfold wX11_parse_295
                            unfold wX11_parse_297
                            exact ⟨⟨(Ch.wk (Ch.tr (Ch.tr hS51h hS240) hS247) (by decide) (by decide)), by omega, by omega, by omega, by omega, by omega, n247_2, n247_3, n247_4, (PE_new (PE.mv i51_8 (hS240.1 43 (by decide)) (hS240.2 88 (by decide))) hbr n247_6), n247_7, (n247_5.elim (fun h => Or.inl (by omega)) (fun h => Or.inr (Or.inl (by omega)))), by omega, by omega⟩, show (2 * (3020 - r247) + min 1 (max 0 (-1 - (S247.1 54 59)))).toNat < (2 * (3020 - v51_1) + min 1 (max 0 (-1 - (S51h.1 54 59)))).toNat by omega⟩
                        · intro q149
                          unfold wX11_parse_283
                          refine ⟨by omega, ?_⟩
                          refine ⟨fun h287 => ?_, fun h287 => ?_⟩
                          · unfold wX11_parse_295
                            unfold wX11_parse_297
                            exact ⟨⟨(Ch.wk (Ch.tr (Ch.tr hS51h hS240) hS247) (by decide) (by decide)), by omega, by omega, by omega, by omega, by omega, n247_2, n247_3, n247_4, (PE_last (by omega)), n247_7, (n247_5.elim (fun h => Or.inl (by omega)) (fun h => Or.inr (Or.inl (by omega)))), by omega, by omega⟩, show (2 * (3020 - r247) + min 1 (max 0 (-1 - (S247.1 54 59)))).toNat < (2 * (3020 - v51_1) + min 1 (max 0 (-1 - (S51h.1 54 59)))).toNat by omega⟩
                          · unfold wX11_parse_295
                            unfold wX11_parse_297
                            exact ⟨⟨(Ch.wk (Ch.tr (Ch.tr hS51h hS240) hS247) (by decide) (by decide)), by omega, by omega, by omega, by omega, by omega, n247_2, n247_3, n247_4, (PE_last (by omega)), n247_7, (n247_5.elim (fun h => Or.inl (by omega)) (fun h => Or.inr (Or.inl (by omega)))), by omega, by omega⟩, show (2 * (3020 - r247) + min 1 (max 0 (-1 - (S247.1 54 59)))).toNat < (2 * (3020 - v51_1) + min 1 (max 0 (-1 - (S51h.1 54 59)))).toNat by omega⟩
                    · refine ⟨by omega, ?_⟩
                      refine tX11_fail (by omega) (fun r232 S232 hS232 n232_0 => ?_)
                      unfold wX11_parse_297
                      have e150 : S232.1 54 43 = S51h.1 54 43 := hS232.1 43 (by decide)
                      have e151 : S232.1 54 43 = S51h.1 54 43 := hS232.1 43 (by decide)
                      exact ⟨⟨(Ch.wk (Ch.tr hS51h hS232) (by decide) (by decide)), by omega, by omega, by omega, by omega, by omega, (PA.mv3 i51_5 ((hS232).1 51 (by decide)) ((hS232).2 92 (by decide)) ((hS232).2 93 (by decide)) ((hS232).2 94 (by decide)) ((hS232).2 95 (by decide))), (PR.mv i51_6 ((hS232).1 43 (by decide)) ((hS232).1 51 (by decide)) ((hS232).2 86 (by decide)) ((hS232).2 87 (by decide)) ((hS232).2 88 (by decide)) ((hS232).2 90 (by decide)) ((hS232).2 91 (by decide))), (PO.mv i51_7 ((hS232).1 43 (by decide)) ((hS232).2 88 (by decide))), (PE.mv i51_8 ((hS232).1 43 (by decide)) ((hS232).2 88 (by decide))), (by
                            unfold PB
                            have e152 : S232.1 54 41 = S51h.1 54 41 := hS232.1 41 (by decide)
                            have e153 : S51h.1 54 41 = S18.1 54 41 := hS51h.1 41 (by decide)
                            have e154 : S18.1 54 41 = S12.1 54 41 := hS18.1 41 (by decide)
                            have e155 : S12.1 54 41 = S7.1 54 41 := hS12.1 41 (by decide)
                            have e156 : S7.1 54 41 = S2.1 54 41 := hS7.1 41 (by decide)
                            have e157 : S2.1 54 41 = S.1 54 41 := hS2.1 41 (by decide)
                            have e158 : S232.1 54 56 = S51h.1 54 56 := hS232.1 56 (by decide)
                            have e159 : S232.1 54 51 = S51h.1 54 51 := hS232.1 51 (by decide)
                            first
                            | exact Or.inl (by omega)
                            | exact (Classical.em (-1 ≤ S232.1 54 59)).elim (fun hb => Or.inl hb) (fun hb => Or.inr ⟨by omega, by omega, by omega⟩)), (by
                            unfold P1
                            have e160 : S232.1 54 43 = S51h.1 54 43 := hS232.1 43 (by decide)
                            first | exact Or.inr (Or.inl (by omega)) | exact Or.inl (by omega)), by omega, by omega⟩, show (2 * (3020 - v51_1) + min 1 (max 0 (-1 - (S232.1 54 59)))).toNat < (2 * (3020 - v51_1) + min 1 (max 0 (-1 - (S51h.1 54 59)))).toNat by omega⟩
                  · refine ⟨by omega, ?_⟩
                    refine ⟨fun h210 => ?_, fun h210 => ?_⟩
                    · unfold wX11_parse_225
                      refine ⟨by omega, ?_⟩
                      refine ⟨fun h227 => ?_, fun h227 => ?_⟩
                      · intro S240 hS240e
                        have hS240 : Ch [60] [] S51h S240 := Ch_I hS240e
                        have hS240v : S240.1 54 60 = 0 := pI_at hS240e
                        refine ⟨by omega, ?_⟩
                        refine ⟨by omega, ?_⟩
                        refine ⟨by omega, ?_⟩
                        have e161 : S240.1 54 41 = S51h.1 54 41 := hS240.1 41 (by decide)
                        have e162 : S51h.1 54 41 = S18.1 54 41 := hS51h.1 41 (by decide)
                        have e163 : S18.1 54 41 = S12.1 54 41 := hS18.1 41 (by decide)
                        have e164 : S12.1 54 41 = S7.1 54 41 := hS12.1 41 (by decide)
                        have e165 : S7.1 54 41 = S2.1 54 41 := hS7.1 41 (by decide)
                        have e166 : S2.1 54 41 = S.1 54 41 := hS2.1 41 (by decide)
                        have e167 : S240.1 54 41 = S51h.1 54 41 := hS240.1 41 (by decide)
                        have e168 : S51h.1 54 41 = S18.1 54 41 := hS51h.1 41 (by decide)
                        have e169 : S18.1 54 41 = S12.1 54 41 := hS18.1 41 (by decide)
                        have e170 : S12.1 54 41 = S7.1 54 41 := hS12.1 41 (by decide)
                        have e171 : S7.1 54 41 = S2.1 54 41 := hS7.1 41 (by decide)
                        have e172 : S2.1 54 41 = S.1 54 41 := hS2.1 41 (by decide)
                        have e173 : S240.1 54 56 = S51h.1 54 56 := hS240.1 56 (by decide)
                        have e174 : S240.1 54 51 = S51h.1 54 51 := hS240.1 51 (by decide)
                        have e175 : S240.1 54 43 = S51h.1 54 43 := hS240.1 43 (by decide)
                        have e176 : S240.1 54 43 = S51h.1 54 43 := hS240.1 43 (by decide)
                        refine tX11_beginTag (by omega) (by omega) (by omega) (by omega) (by omega) (by omega) (PA.mv2 i51_5 ((hS240).1 51 (by decide)) ((hS240).1 56 (by decide)) ((hS240).2 92 (by decide)) ((hS240).2 93 (by decide)) ((hS240).2 94 (by decide)) ((hS240).2 95 (by decide))) (PR.mv i51_6 ((hS240).1 43 (by decide)) ((hS240).1 51 (by decide)) ((hS240).2 86 (by decide)) ((hS240).2 87 (by decide)) ((hS240).2 88 (by decide)) ((hS240).2 90 (by decide)) ((hS240).2 91 (by decide))) (PO.mv i51_7 ((hS240).1 43 (by decide)) ((hS240).2 88 (by decide))) (PE.mv i51_8 ((hS240).1 43 (by decide)) ((hS240).2 88 (by decide))) (by omega) (fun r247 S247 hS247 n247_0 n247_1 n247_2 n247_3 n247_4 n247_5 n247_6 n247_7 => ?_)
                        have hbr : (S247.1 54 43 = S240.1 54 43 + 1 ∧ S247.2 88 (S240.1 54 43) = v51_2) ∨ S247.1 54 43 = S240.1 54 43 := by
                          rcases n247_5 with h | h
                          · exact Or.inl h
                          · exact Or.inr h.1
                        intro q177
                        refine ⟨fun h255 => ?_, fun h255 => ?_⟩
                        · unfold wX11_parse_265
                          intro q178
                          refine ⟨fun h270 => ?_, fun h270 => ?_⟩
                          · unfold wX11_parse_283
                            refine ⟨by omega, ?_⟩
                            refine ⟨fun h287 => ?_, fun h287 => ?_⟩
                            · unfold wX11_parse_295
                              unfold wX11_parse_297
                              exact ⟨⟨(Ch.wk (Ch.tr (Ch.tr hS51h hS240) hS247) (by decide) (by decide)), by omega, by omega, by omega, by omega, by omega, n247_2, n247_3, n247_4, (PE_new (PE.mv i51_8 (hS240.1 43 (by decide)) (hS240.2 88 (by decide))) hbr n247_6), n247_7, (n247_5.elim (fun h => Or.inl (by omega)) (fun h => Or.inr (Or.inl (by omega)))), by omega, by omega⟩, show (2 * (3020 - r247) + min 1 (max 0 (-1 - (S247.1 54 59)))).toNat < (2 * (3020 - v51_1) + min 1 (max 0 (-1 - (S51h.1 54 59)))).toNat by omega⟩
                            · unfold wX11_parse_295
                              unfold wX11_parse_297
                              exact ⟨⟨(Ch.wk (Ch.tr (Ch.tr hS51h hS240) hS247) (by decide) (by decide)), by omega, by omega, by omega, by omega, by omega, n247_2, n247_3, n247_4, (PE_new (PE.mv i51_8 (hS240.1 43 (by decide)) (hS240.2 88 (by decide))) hbr n247_6), n247_7, (n247_5.elim (fun h => Or.inl (by omega)) (fun h => Or.inr (Or.inl (by omega)))), by omega, by omega⟩, show (2 * (3020 - r247) + min 1 (max 0 (-1 - (S247.1 54 59)))).toNat < (2 * (3020 - v51_1) + min 1 (max 0 (-1 - (S51h.1 54 59)))).toNat by omega⟩
                          · intro q179
                            unfold wX11_parse_283
                            refine ⟨by omega, ?_⟩
                            refine ⟨fun h287 => ?_, fun h287 => ?_⟩
                            · unfold wX11_parse_295
                              unfold wX11_parse_297
                              exact ⟨⟨(Ch.wk (Ch.tr (Ch.tr hS51h hS240) hS247) (by decide) (by decide)), by omega, by omega, by omega, by omega, by omega, n247_2, n247_3, n247_4, (PE_last (by omega)), n247_7, (n247_5.elim (fun h => Or.inl (by omega)) (fun h => Or.inr (Or.inl (by omega)))), by omega, by omega⟩, show (2 * (3020 - r247) + min 1 (max 0 (-1 - (S247.1 54 59)))).toNat < (2 * (3020 - v51_1) + min 1 (max 0 (-1 - (S51h.1 54 59)))).toNat by omega⟩
                            · unfold wX11_parse_295
                              unfold wX11_parse_297
                              exact ⟨⟨(Ch.wk (Ch.tr (Ch.tr hS51h hS240) hS247) (by decide) (by decide)), by omega, by omega, by omega, by omega, by omega, n247_2, n247_3, n247_4, (PE_last (by omega)), n247_7, (n247_5.elim (fun h => Or.inl (by omega)) (fun h => Or.inr (Or.inl (by omega)))), by omega, by omega⟩, show (2 * (3020 - r247) + min 1 (max 0 (-1 - (S247.1 54 59)))).toNat < (2 * (3020 - v51_1) + min 1 (max 0 (-1 - (S51h.1 54 59)))).toNat by omega⟩
                        · unfold wX11_parse_265
                          intro q180
                          refine ⟨fun h270 => ?_, fun h270 => ?_⟩
                          · unfold wX11_parse_283
                            refine ⟨by omega, ?_⟩
                            refine ⟨fun h287 => ?_, fun h287 => ?_⟩
                            · unfold wX11_parse_295
                              unfold wX11_parse_297
                              exact ⟨⟨(Ch.wk (Ch.tr (Ch.tr hS51h hS240) hS247) (by decide) (by decide)), by omega, by omega, by omega, by omega, by omega, n247_2, n247_3, n247_4, (PE_new (PE.mv i51_8 (hS240.1 43 (by decide)) (hS240.2 88 (by decide))) hbr n247_6), n247_7, (n247_5.elim (fun h => Or.inl (by omega)) (fun h => Or.inr (Or.inl (by omega)))), by omega, by omega⟩, show (2 * (3020 - r247) + min 1 (max 0 (-1 - (S247.1 54 59)))).toNat < (2 * (3020 - v51_1) + min 1 (max 0 (-1 - (S51h.1 54 59)))).toNat by omega⟩
                            · unfold wX11_parse_295
                              unfold wX11_parse_297
                              exact ⟨⟨(Ch.wk (Ch.tr (Ch.tr hS51h hS240) hS247) (by decide) (by decide)), by omega, by omega, by omega, by omega, by omega, n247_2, n247_3, n247_4, (PE_new (PE.mv i51_8 (hS240.1 43 (by decide)) (hS240.2 88 (by decide))) hbr n247_6), n247_7, (n247_5.elim (fun h => Or.inl (by omega)) (fun h => Or.inr (Or.inl (by omega)))), by omega, by omega⟩, show (2 * (3020 - r247) + min 1 (max 0 (-1 - (S247.1 54 59)))).toNat < (2 * (3020 - v51_1) + min 1 (max 0 (-1 - (S51h.1 54 59)))).toNat by omega⟩
                          · intro q181
                            unfold wX11_parse_283
                            refine ⟨by omega, ?_⟩
                            refine ⟨fun h287 => ?_, fun h287 => ?_⟩
                            · unfold wX11_parse_295
                              unfold wX11_parse_297
                              exact ⟨⟨(Ch.wk (Ch.tr (Ch.tr hS51h hS240) hS247) (by decide) (by decide)), by omega, by omega, by omega, by omega, by omega, n247_2, n247_3, n247_4, (PE_last (by omega)), n247_7, (n247_5.elim (fun h => Or.inl (by omega)) (fun h => Or.inr (Or.inl (by omega)))), by omega, by omega⟩, show (2 * (3020 - r247) + min 1 (max 0 (-1 - (S247.1 54 59)))).toNat < (2 * (3020 - v51_1) + min 1 (max 0 (-1 - (S51h.1 54 59)))).toNat by omega⟩
                            · unfold wX11_parse_295
                              unfold wX11_parse_297
                              exact ⟨⟨(Ch.wk (Ch.tr (Ch.tr hS51h hS240) hS247) (by decide) (by decide)), by omega, by omega, by omega, by omega, by omega, n247_2, n247_3, n247_4, (PE_last (by omega)), n247_7, (n247_5.elim (fun h => Or.inl (by omega)) (fun h => Or.inr (Or.inl (by omega)))), by omega, by omega⟩, show (2 * (3020 - r247) + min 1 (max 0 (-1 - (S247.1 54 59)))).toNat < (2 * (3020 - v51_1) + min 1 (max 0 (-1 - (S51h.1 54 59)))).toNat by omega⟩
                      · refine ⟨by omega, ?_⟩
                        refine tX11_fail (by omega) (fun r232 S232 hS232 n232_0 => ?_)
                        unfold wX11_parse_297
                        have e182 : S232.1 54 43 = S51h.1 54 43 := hS232.1 43 (by decide)
                        have e183 : S232.1 54 43 = S51h.1 54 43 := hS232.1 43 (by decide)
                        exact ⟨⟨(Ch.wk (Ch.tr hS51h hS232) (by decide) (by decide)), by omega, by omega, by omega, by omega, by omega, (PA.mv3 i51_5 ((hS232).1 51 (by decide)) ((hS232).2 92 (by decide)) ((hS232).2 93 (by decide)) ((hS232).2 94 (by decide)) ((hS232).2 95 (by decide))), (PR.mv i51_6 ((hS232).1 43 (by decide)) ((hS232).1 51 (by decide)) ((hS232).2 86 (by decide)) ((hS232).2 87 (by decide)) ((hS232).2 88 (by decide)) ((hS232).2 90 (by decide)) ((hS232).2 91 (by decide))), (PO.mv i51_7 ((hS232).1 43 (by decide)) ((hS232).2 88 (by decide))), (PE.mv i51_8 ((hS232).1 43 (by decide)) ((hS232).2 88 (by decide))), (by
                              unfold PB
                              have e184 : S232.1 54 41 = S51h.1 54 41 := hS232.1 41 (by decide)
                              have e185 : S51h.1 54 41 = S18.1 54 41 := hS51h.1 41 (by decide)
                              have e186 : S18.1 54 41 = S12.1 54 41 := hS18.1 41 (by decide)
                              have e187 : S12.1 54 41 = S7.1 54 41 := hS12.1 41 (by decide)
                              have e188 : S7.1 54 41 = S2.1 54 41 := hS7.1 41 (by decide)
                              have e189 : S2.1 54 41 = S.1 54 41 := hS2.1 41 (by decide)
                              have e190 : S232.1 54 56 = S51h.1 54 56 := hS232.1 56 (by decide)
                              have e191 : S232.1 54 51 = S51h.1 54 51 := hS232.1 51 (by decide)
                              first
                              | exact Or.inl (by omega)
                              | exact (Classical.em (-1 ≤ S232.1 54 59)).elim (fun hb => Or.inl hb) (fun hb => Or.inr ⟨by omega, by omega, by omega⟩)), (by
                              unfold P1
                              have e192 : S232.1 54 43 = S51h.1 54 43 := hS232.1 43 (by decide)
                              first | exact Or.inr (Or.inl (by omega)) | exact Or.inl (by omega)), by omega, by omega⟩, show (2 * (3020 - v51_1) + min 1 (max 0 (-1 - (S232.1 54 59)))).toNat < (2 * (3020 - v51_1) + min 1 (max 0 (-1 - (S51h.1 54 59)))).toNat by omega⟩
                    · refine ⟨by omega, ?_⟩
                      refine ⟨by omega, ?_⟩
                      have e193 : S51h.1 54 41 = S18.1 54 41 := hS51h.1 41 (by decide)
                      have e194 : S18.1 54 41 = S12.1 54 41 := hS18.1 41 (by decide)
                      have e195 : S12.1 54 41 = S7.1 54 41 := hS12.1 41 (by decide)
                      have e196 : S7.1 54 41 = S2.1 54 41 := hS7.1 41 (by decide)
                      have e197 : S2.1 54 41 = S.1 54 41 := hS2.1 41 (by decide)
                      have e198 : S51h.1 54 41 = S18.1 54 41 := hS51h.1 41 (by decide)
                      have e199 : S18.1 54 41 = S12.1 54 41 := hS18.1 41 (by decide)
                      have e200 : S12.1 54 41 = S7.1 54 41 := hS12.1 41 (by decide)
                      have e201 : S7.1 54 41 = S2.1 54 41 := hS7.1 41 (by decide)
                      have e202 : S2.1 54 41 = S.1 54 41 := hS2.1 41 (by decide)
                      have e203 : S51h.1 54 41 = S18.1 54 41 := hS51h.1 41 (by decide)
                      have e204 : S18.1 54 41 = S12.1 54 41 := hS18.1 41 (by decide)
                      have e205 : S12.1 54 41 = S7.1 54 41 := hS12.1 41 (by decide)
                      have e206 : S7.1 54 41 = S2.1 54 41 := hS7.1 41 (by decide)
                      have e207 : S2.1 54 41 = S.1 54 41 := hS2.1 41 (by decide)
                      refine tX11_section (by omega) (by omega) (by omega) (by omega) (by omega) (by omega) (fun r218 S218 hS218 n218_0 n218_1 n218_2 n218_3 => ?_)
                      unfold wX11_parse_297
                      have e208 : S218.1 54 43 = S51h.1 54 43 := hS218.1 43 (by decide)
                      have e209 : S218.1 54 43 = S51h.1 54 43 := hS218.1 43 (by decide)
                      exact ⟨⟨(Ch.wk (Ch.tr hS51h hS218) (by decide) (by decide)), by omega, by omega, by omega, by omega, by omega, (PA.mv3 i51_5 ((hS218).1 51 (by decide)) ((hS218).2 92 (by decide)) ((hS218).2 93 (by decide)) ((hS218).2 94 (by decide)) ((hS218).2 95 (by decide))), (PR.mv i51_6 ((hS218).1 43 (by decide)) ((hS218).1 51 (by decide)) ((hS218).2 86 (by decide)) ((hS218).2 87 (by decide)) ((hS218).2 88 (by decide)) ((hS218).2 90 (by decide)) ((hS218).2 91 (by decide))), (PO.mv i51_7 ((hS218).1 43 (by decide)) ((hS218).2 88 (by decide))), (PE.mv i51_8 ((hS218).1 43 (by decide)) ((hS218).2 88 (by decide))), (by
                            unfold PB
                            have e210 : S218.1 54 41 = S51h.1 54 41 := hS218.1 41 (by decide)
                            have e211 : S51h.1 54 41 = S18.1 54 41 := hS51h.1 41 (by decide)
                            have e212 : S18.1 54 41 = S12.1 54 41 := hS18.1 41 (by decide)
                            have e213 : S12.1 54 41 = S7.1 54 41 := hS12.1 41 (by decide)
                            have e214 : S7.1 54 41 = S2.1 54 41 := hS7.1 41 (by decide)
                            have e215 : S2.1 54 41 = S.1 54 41 := hS2.1 41 (by decide)
                            have e216 : S218.1 54 51 = S51h.1 54 51 := hS218.1 51 (by decide)
                            first
                            | exact Or.inl (by omega)
                            | exact (Classical.em (-1 ≤ S218.1 54 59)).elim (fun hb => Or.inl hb) (fun hb => Or.inr ⟨by omega, by omega, by omega⟩)), (by
                            unfold P1
                            have e217 : S218.1 54 43 = S51h.1 54 43 := hS218.1 43 (by decide)
                            first | exact Or.inr (Or.inl (by omega)) | exact Or.inl (by omega)), by omega, by omega⟩, show (2 * (3020 - r218) + min 1 (max 0 (-1 - (S218.1 54 59)))).toNat < (2 * (3020 - v51_1) + min 1 (max 0 (-1 - (S51h.1 54 59)))).toNat by omega⟩
                · refine ⟨by omega, ?_⟩
                  refine ⟨fun h164 => ?_, fun h164 => ?_⟩
                  · unfold wX11_parse_200
                    refine ⟨by omega, ?_⟩
                    refine ⟨fun h204 => ?_, fun h204 => ?_⟩
                    · unfold wX11_parse_225
                      refine ⟨by omega, ?_⟩
                      refine ⟨fun h227 => ?_, fun h227 => ?_⟩
                      · intro S240 hS240e
                        have hS240 : Ch [60] [] S51h S240 := Ch_I hS240e
                        have hS240v : S240.1 54 60 = 0 := pI_at hS240e
                        refine ⟨by omega, ?_⟩
                        refine ⟨by omega, ?_⟩
                        refine ⟨by omega, ?_⟩
                        have e218 : S240.1 54 41 = S51h.1 54 41 := hS240.1 41 (by decide)
                        have e219 : S51h.1 54 41 = S18.1 54 41 := hS51h.1 41 (by decide)
                        have e220 : S18.1 54 41 = S12.1 54 41 := hS18.1 41 (by decide)
                        have e221 : S12.1 54 41 = S7.1 54 41 := hS12.1 41 (by decide)
                        have e222 : S7.1 54 41 = S2.1 54 41 := hS7.1 41 (by decide)
                        have e223 : S2.1 54 41 = S.1 54 41 := hS2.1 41 (by decide)
                        have e224 : S240.1 54 41 = S51h.1 54 41 := hS240.1 41 (by decide)
                        have e225 : S51h.1 54 41 = S18.1 54 41 := hS51h.1 41 (by decide)
                        have e226 : S18.1 54 41 = S12.1 54 41 := hS18.1 41 (by decide)
                        have e227 : S12.1 54 41 = S7.1 54 41 := hS12.1 41 (by decide)
                        have e228 : S7.1 54 41 = S2.1 54 41 := hS7.1 41 (by decide)
                        have e229 : S2.1 54 41 = S.1 54 41 := hS2.1 41 (by decide)
                        have e230 : S240.1 54 56 = S51h.1 54 56 := hS240.1 56 (by decide)
                        have e231 : S240.1 54 51 = S51h.1 54 51 := hS240.1 51 (by decide)
                        have e232 : S240.1 54 43 = S51h.1 54 43 := hS240.1 43 (by decide)
                        have e233 : S240.1 54 43 = S51h.1 54 43 := hS240.1 43 (by decide)
                        refine tX11_beginTag (by omega) (by omega) (by omega) (by omega) (by omega) (by omega) (PA.mv2 i51_5 ((hS240).1 51 (by decide)) ((hS240).1 56 (by decide)) ((hS240).2 92 (by decide)) ((hS240).2 93 (by decide)) ((hS240).2 94 (by decide)) ((hS240).2 95 (by decide))) (PR.mv i51_6 ((hS240).1 43 (by decide)) ((hS240).1 51 (by decide)) ((hS240).2 86 (by decide)) ((hS240).2 87 (by decide)) ((hS240).2 88 (by decide)) ((hS240).2 90 (by decide)) ((hS240).2 91 (by decide))) (PO.mv i51_7 ((hS240).1 43 (by decide)) ((hS240).2 88 (by decide))) (PE.mv i51_8 ((hS240).1 43 (by decide)) ((hS240).2 88 (by decide))) (by omega) (fun r247 S247 hS247 n247_0 n247_1 n247_2 n247_3 n247_4 n247_5 n247_6 n247_7 => ?_)
                        have hbr : (S247.1 54 43 = S240.1 54 43 + 1 ∧ S247.2 88 (S240.1 54 43) = v51_2) ∨ S247.1 54 43 = S240.1 54 43 := by
                          rcases n247_5 with h | h
                          · exact Or.inl h
                          · exact Or.inr h.1
                        intro q234
                        refine ⟨fun h255 => ?_, fun h255 => ?_⟩
                        · unfold wX11_parse_265
                          intro q235
                          refine ⟨fun h270 => ?_, fun h270 => ?_⟩
                          · unfold wX11_parse_283
                            refine ⟨by omega, ?_⟩
                            refine ⟨fun h287 => ?_, fun h287 => ?_⟩
                            · unfold wX11_parse_295
                              unfold wX11_parse_297
                              exact ⟨⟨(Ch.wk (Ch.tr (Ch.tr hS51h hS240) hS247) (by decide) (by decide)), by omega, by omega, by omega, by omega, by omega, n247_2, n247_3, n247_4, (PE_new (PE.mv i51_8 (hS240.1 43 (by decide)) (hS240.2 88 (by decide))) hbr n247_6), n247_7, (n247_5.elim (fun h => Or.inl (by omega)) (fun h => Or.inr (Or.inl (by omega)))), by omega, by omega⟩, show (2 * (3020 - r247) + min 1 (max 0 (-1 - (S247.1 54 59)))).toNat < (2 * (3020 - v51_1) + min 1 (max 0 (-1 - (S51h.1 54 59)))).toNat by omega⟩
                            · unfold wX11_parse_295
                              unfold wX11_parse_297
                              exact ⟨⟨(Ch.wk (Ch.tr (Ch.tr hS51h hS240) hS247) (by decide) (by decide)), by omega, by omega, by omega, by omega, by omega, n247_2, n247_3, n247_4, (PE_new (PE.mv i51_8 (hS240.1 43 (by decide)) (hS240.2 88 (by decide))) hbr n247_6), n247_7, (n247_5.elim (fun h => Or.inl (by omega)) (fun h => Or.inr (Or.inl (by omega)))), by omega, by omega⟩, show (2 * (3020 - r247) + min 1 (max 0 (-1 - (S247.1 54 59)))).toNat < (2 * (3020 - v51_1) + min 1 (max 0 (-1 - (S51h.1 54 59)))).toNat by omega⟩
                          · intro q236
                            unfold wX11_parse_283
                            refine ⟨by omega, ?_⟩
                            refine ⟨fun h287 => ?_, fun h287 => ?_⟩
                            · unfold wX11_parse_295
                              unfold wX11_parse_297
                              exact ⟨⟨(Ch.wk (Ch.tr (Ch.tr hS51h hS240) hS247) (by decide) (by decide)), by omega, by omega, by omega, by omega, by omega, n247_2, n247_3, n247_4, (PE_last (by omega)), n247_7, (n247_5.elim (fun h => Or.inl (by omega)) (fun h => Or.inr (Or.inl (by omega)))), by omega, by omega⟩, show (2 * (3020 - r247) + min 1 (max 0 (-1 - (S247.1 54 59)))).toNat < (2 * (3020 - v51_1) + min 1 (max 0 (-1 - (S51h.1 54 59)))).toNat by omega⟩
                            · unfold wX11_parse_295
                              unfold wX11_parse_297
                              exact ⟨⟨(Ch.wk (Ch.tr (Ch.tr hS51h hS240) hS247) (by decide) (by decide)), by omega, by omega, by omega, by omega, by omega, n247_2, n247_3, n247_4, (PE_last (by omega)), n247_7, (n247_5.elim (fun h => Or.inl (by omega)) (fun h => Or.inr (Or.inl (by omega)))), by omega, by omega⟩, show (2 * (3020 - r247) + min 1 (max 0 (-1 - (S247.1 54 59)))).toNat < (2 * (3020 - v51_1) + min 1 (max 0 (-1 - (S51h.1 54 59)))).toNat by omega⟩
                        · unfold wX11_parse_265
                          intro q237
                          refine ⟨fun h270 => ?_, fun h270 => ?_⟩
                          · unfold wX11_parse_283
                            refine ⟨by omega, ?_⟩
                            refine ⟨fun h287 => ?_, fun h287 => ?_⟩
                            · unfold wX11_parse_295
                              unfold wX11_parse_297
                              exact ⟨⟨(Ch.wk (Ch.tr (Ch.tr hS51h hS240) hS247) (by decide) (by decide)), by omega, by omega, by omega, by omega, by omega, n247_2, n247_3, n247_4, (PE_new (PE.mv i51_8 (hS240.1 43 (by decide)) (hS240.2 88 (by decide))) hbr n247_6), n247_7, (n247_5.elim (fun h => Or.inl (by omega)) (fun h => Or.inr (Or.inl (by omega)))), by omega, by omega⟩, show (2 * (3020 - r247) + min 1 (max 0 (-1 - (S247.1 54 59)))).toNat < (2 * (3020 - v51_1) + min 1 (max 0 (-1 - (S51h.1 54 59)))).toNat by omega⟩
                            · unfold wX11_parse_295
                              unfold wX11_parse_297
                              exact ⟨⟨(Ch.wk (Ch.tr (Ch.tr hS51h hS240) hS247) (by decide) (by decide)), by omega, by omega, by omega, by omega, by omega, n247_2, n247_3, n247_4, (PE_new (PE.mv i51_8 (hS240.1 43 (by decide)) (hS240.2 88 (by decide))) hbr n247_6), n247_7, (n247_5.elim (fun h => Or.inl (by omega)) (fun h => Or.inr (Or.inl (by omega)))), by omega, by omega⟩, show (2 * (3020 - r247) + min 1 (max 0 (-1 - (S247.1 54 59)))).toNat < (2 * (3020 - v51_1) + min 1 (max 0 (-1 - (S51h.1 54 59)))).toNat by omega⟩
                          · intro q238
                            unfold wX11_parse_283
                            refine ⟨by omega, ?_⟩
                            refine ⟨fun h287 => ?_, fun h287 => ?_⟩
                            · unfold wX11_parse_295
                              unfold wX11_parse_297
                              exact ⟨⟨(Ch.wk (Ch.tr (Ch.tr hS51h hS240) hS247) (by decide) (by decide)), by omega, by omega, by omega, by omega, by omega, n247_2, n247_3, n247_4, (PE_last (by omega)), n247_7, (n247_5.elim (fun h => Or.inl (by omega)) (fun h => Or.inr (Or.inl (by omega)))), by omega, by omega⟩, show (2 * (3020 - r247) + min 1 (max 0 (-1 - (S247.1 54 59)))).toNat < (2 * (3020 - v51_1) + min 1 (max 0 (-1 - (S51h.1 54 59)))).toNat by omega⟩
                            · unfold wX11_parse_295
                              unfold wX11_parse_297
                              exact ⟨⟨(Ch.wk (Ch.tr (Ch.tr hS51h hS240) hS247) (by decide) (by decide)), by omega, by omega, by omega, by omega, by omega, n247_2, n247_3, n247_4, (PE_last (by omega)), n247_7, (n247_5.elim (fun h => Or.inl (by omega)) (fun h => Or.inr (Or.inl (by omega)))), by omega, by omega⟩, show (2 * (3020 - r247) + min 1 (max 0 (-1 - (S247.1 54 59)))).toNat < (2 * (3020 - v51_1) + min 1 (max 0 (-1 - (S51h.1 54 59)))).toNat by omega⟩
                      · refine ⟨by omega, ?_⟩
                        refine tX11_fail (by omega) (fun r232 S232 hS232 n232_0 => ?_)
                        unfold wX11_parse_297
                        have e239 : S232.1 54 43 = S51h.1 54 43 := hS232.1 43 (by decide)
                        have e240 : S232.1 54 43 = S51h.1 54 43 := hS232.1 43 (by decide)
                        exact ⟨⟨(Ch.wk (Ch.tr hS51h hS232) (by decide) (by decide)), by omega, by omega, by omega, by omega, by omega, (PA.mv3 i51_5 ((hS232).1 51 (by decide)) ((hS232).2 92 (by decide)) ((hS232).2 93 (by decide)) ((hS232).2 94 (by decide)) ((hS232).2 95 (by decide))), (PR.mv i51_6 ((hS232).1 43 (by decide)) ((hS232).1 51 (by decide)) ((hS232).2 86 (by decide)) ((hS232).2 87 (by decide)) ((hS232).2 88 (by decide)) ((hS232).2 90 (by decide)) ((hS232).2 91 (by decide))), (PO.mv i51_7 ((hS232).1 43 (by decide)) ((hS232).2 88 (by decide))), (PE.mv i51_8 ((hS232).1 43 (by decide)) ((hS232).2 88 (by decide))), (by
                              unfold PB
                              have e241 : S232.1 54 41 = S51h.1 54 41 := hS232.1 41 (by decide)
                              have e242 : S51h.1 54 41 = S18.1 54 41 := hS51h.1 41 (by decide)
                              have e243 : S18.1 54 41 = S12.1 54 41 := hS18.1 41 (by decide)
                              have e244 : S12.1 54 41 = S7.1 54 41 := hS12.1 41 (by decide)
                              have e245 : S7.1 54 41 = S2.1 54 41 := hS7.1 41 (by decide)
                              have e246 : S2.1 54 41 = S.1 54 41 := hS2.1 41 (by decide)
                              have e247 : S232.1 54 56 = S51h.1 54 56 := hS232.1 56 (by decide)
                              have e248 : S232.1 54 51 = S51h.1 54 51 := hS232.1 51 (by decide)
                              first
                              | exact Or.inl (by omega)
                              | exact (Classical.em (-1 ≤ S232.1 54 59)).elim (fun hb => Or.inl hb) (fun hb => Or.inr ⟨by omega, by omega, by omega⟩)), (by
                              unfold P1
                              have e249 : S232.1 54 43 = S51h.1 54 43 := hS232.1 43 (by decide)
                              first | exact Or.inr (Or.inl (by omega)) | exact Or.inl (by omega)), by omega, by omega⟩, show (2 * (3020 - v51_1) + min 1 (max 0 (-1 - (S232.1 54 59)))).toNat < (2 * (3020 - v51_1) + min 1 (max 0 (-1 - (S51h.1 54 59)))).toNat by omega⟩
                    · refine ⟨by omega, ?_⟩
                      refine ⟨fun h210 => ?_, fun h210 => ?_⟩
                      · unfold wX11_parse_225
                        refine ⟨by omega, ?_⟩
                        refine ⟨fun h227 => ?_, fun h227 => ?_⟩
                        · intro S240 hS240e
                          have hS240 : Ch [60] [] S51h S240 := Ch_I hS240e
                          have hS240v : S240.1 54 60 = 0 := pI_at hS240e
                          refine ⟨by omega, ?_⟩
                          refine ⟨by omega, ?_⟩
                          refine ⟨by omega, ?_⟩
                          have e250 : S240.1 54 41 = S51h.1 54 41 := hS240.1 41 (by decide)
                          have e251 : S51h.1 54 41 = S18.1 54 41 := hS51h.1 41 (by decide)
                          have e252 : S18.1 54 41 = S12.1 54 41 := hS18.1 41 (by decide)
                          have e253 : S12.1 54 41 = S7.1 54 41 := hS12.1 41 (by decide)
                          have e254 : S7.1 54 41 = S2.1 54 41 := hS7.1 41 (by decide)
                          have e255 : S2.1 54 41 = S.1 54 41 := hS2.1 41 (by decide)
                          have e256 : S240.1 54 41 = S51h.1 54 41 := hS240.1 41 (by decide)
                          have e257 : S51h.1 54 41 = S18.1 54 41 := hS51h.1 41 (by decide)
                          have e258 : S18.1 54 41 = S12.1 54 41 := hS18.1 41 (by decide)
                          have e259 : S12.1 54 41 = S7.1 54 41 := hS12.1 41 (by decide)
                          have e260 : S7.1 54 41 = S2.1 54 41 := hS7.1 41 (by decide)
                          have e261 : S2.1 54 41 = S.1 54 41 := hS2.1 41 (by decide)
                          have e262 : S240.1 54 56 = S51h.1 54 56 := hS240.1 56 (by decide)
                          have e263 : S240.1 54 51 = S51h.1 54 51 := hS240.1 51 (by decide)
                          have e264 : S240.1 54 43 = S51h.1 54 43 := hS240.1 43 (by decide)
                          have e265 : S240.1 54 43 = S51h.1 54 43 := hS240.1 43 (by decide)
                          refine tX11_beginTag (by omega) (by omega) (by omega) (by omega) (by omega) (by omega) (PA.mv2 i51_5 ((hS240).1 51 (by decide)) ((hS240).1 56 (by decide)) ((hS240).2 92 (by decide)) ((hS240).2 93 (by decide)) ((hS240).2 94 (by decide)) ((hS240).2 95 (by decide))) (PR.mv i51_6 ((hS240).1 43 (by decide)) ((hS240).1 51 (by decide)) ((hS240).2 86 (by decide)) ((hS240).2 87 (by decide)) ((hS240).2 88 (by decide)) ((hS240).2 90 (by decide)) ((hS240).2 91 (by decide))) (PO.mv i51_7 ((hS240).1 43 (by decide)) ((hS240).2 88 (by decide))) (PE.mv i51_8 ((hS240).1 43 (by decide)) ((hS240).2 88 (by decide))) (by omega) (fun r247 S247 hS247 n247_0 n247_1 n247_2 n247_3 n247_4 n247_5 n247_6 n247_7 => ?_)
                          have hbr : (S247.1 54 43 = S240.1 54 43 + 1 ∧ S247.2 88 (S240.1 54 43) = v51_2) ∨ S247.1 54 43 = S240.1 54 43 := by
                            rcases n247_5 with h | h
                            · exact Or.inl h
                            · exact Or.inr h.1
                          intro q266
                          refine ⟨fun h255 => ?_, fun h255 => ?_⟩
                          · unfold wX11_parse_265
                            intro q267
                            refine ⟨fun h270 => ?_, fun h270 => ?_⟩
                            · unfold wX11_parse_283
                              refine ⟨by omega, ?_⟩
                              refine ⟨fun h287 => ?_, fun h287 => ?_⟩
                              · unfold wX11_parse_295
                                unfold wX11_parse_297
                                exact ⟨⟨(Ch.wk (Ch.tr (Ch.tr hS51h hS240) hS247) (by decide) (by decide)), by omega, by omega, by omega, by omega, by omega, n247_2, n247_3, n247_4, (PE_new (PE.mv i51_8 (hS240.1 43 (by decide)) (hS240.2 88 (by decide))) hbr n247_6), n247_7, (n247_5.elim (fun h => Or.inl (by omega)) (fun h => Or.inr (Or.inl (by omega)))), by omega, by omega⟩, show (2 * (3020 - r247) + min 1 (max 0 (-1 - (S247.1 54 59)))).toNat < (2 * (3020 - v51_1) + min 1 (max 0 (-1 - (S51h.1 54 59)))).toNat by omega⟩
                              · unfold wX11_parse_295
                                unfold wX11_parse_297
                                exact ⟨⟨(Ch.wk (Ch.tr (Ch.tr hS51h hS240) hS247) (by decide) (by decide)), by omega, by omega, by omega, by omega, by omega, n247_2, n247_3, n247_4, (PE_new (PE.mv i51_8 (hS240.1 43 (by decide)) (hS240.2 88 (by decide))) hbr n247_6), n247_7, (n247_5.elim (fun h => Or.inl (by omega)) (fun h => Or.inr (Or.inl (by omega)))), by omega, by omega⟩, show (2 * (3020 - r247) + min 1 (max 0 (-1 - (S247.1 54 59)))).toNat < (2 * (3020 - v51_1) + min 1 (max 0 (-1 - (S51h.1 54 59)))).toNat by omega⟩
                            · intro q268
                              unfold wX11_parse_283
                              refine ⟨by omega, ?_⟩
                              refine ⟨fun h287 => ?_, fun h287 => ?_⟩
                              · unfold wX11_parse_295
                                unfold wX11_parse_297
                                exact ⟨⟨(Ch.wk (Ch.tr (Ch.tr hS51h hS240) hS247) (by decide) (by decide)), by omega, by omega, by omega, by omega, by omega, n247_2, n247_3, n247_4, (PE_last (by omega)), n247_7, (n247_5.elim (fun h => Or.inl (by omega)) (fun h => Or.inr (Or.inl (by omega)))), by omega, by omega⟩, show (2 * (3020 - r247) + min 1 (max 0 (-1 - (S247.1 54 59)))).toNat < (2 * (3020 - v51_1) + min 1 (max 0 (-1 - (S51h.1 54 59)))).toNat by omega⟩
                              · unfold wX11_parse_295
                                unfold wX11_parse_297
                                exact ⟨⟨(Ch.wk (Ch.tr (Ch.tr hS51h hS240) hS247) (by decide) (by decide)), by omega, by omega, by omega, by omega, by omega, n247_2, n247_3, n247_4, (PE_last (by omega)), n247_7, (n247_5.elim (fun h => Or.inl (by omega)) (fun h => Or.inr (Or.inl (by omega)))), by omega, by omega⟩, show (2 * (3020 - r247) + min 1 (max 0 (-1 - (S247.1 54 59)))).toNat < (2 * (3020 - v51_1) + min 1 (max 0 (-1 - (S51h.1 54 59)))).toNat by omega⟩
                          · unfold wX11_parse_265
                            intro q269
                            refine ⟨fun h270 => ?_, fun h270 => ?_⟩
                            · unfold wX11_parse_283
                              refine ⟨by omega, ?_⟩
                              refine ⟨fun h287 => ?_, fun h287 => ?_⟩
                              · unfold wX11_parse_295
                                unfold wX11_parse_297
                                exact ⟨⟨(Ch.wk (Ch.tr (Ch.tr hS51h hS240) hS247) (by decide) (by decide)), by omega, by omega, by omega, by omega, by omega, n247_2, n247_3, n247_4, (PE_new (PE.mv i51_8 (hS240.1 43 (by decide)) (hS240.2 88 (by decide))) hbr n247_6), n247_7, (n247_5.elim (fun h => Or.inl (by omega)) (fun h => Or.inr (Or.inl (by omega)))), by omega, by omega⟩, show (2 * (3020 - r247) + min 1 (max 0 (-1 - (S247.1 54 59)))).toNat < (2 * (3020 - v51_1) + min 1 (max 0 (-1 - (S51h.1 54 59)))).toNat by omega⟩
                              · unfold wX11_parse_295
                                unfold wX11_parse_297
                                exact ⟨⟨(Ch.wk (Ch.tr (Ch.tr hS51h hS240) hS247) (by decide) (by decide)), by omega, by omega, by omega, by omega, by omega, n247_2, n247_3, n247_4, (PE_new (PE.mv i51_8 (hS240.1 43 (by decide)) (hS240.2 88 (by decide))) hbr n247_6), n247_7, (n247_5.elim (fun h => Or.inl (by omega)) (fun h => Or.inr (Or.inl (by omega)))), by omega, by omega⟩, show (2 * (3020 - r247) + min 1 (max 0 (-1 - (S247.1 54 59)))).toNat < (2 * (3020 - v51_1) + min 1 (max 0 (-1 - (S51h.1 54 59)))).toNat by omega⟩
                            · intro q270
                              unfold wX11_parse_283
                              refine ⟨by omega, ?_⟩
                              refine ⟨fun h287 => ?_, fun h287 => ?_⟩
                              · unfold wX11_parse_295
                                unfold wX11_parse_297
                                exact ⟨⟨(Ch.wk (Ch.tr (Ch.tr hS51h hS240) hS247) (by decide) (by decide)), by omega, by omega, by omega, by omega, by omega, n247_2, n247_3, n247_4, (PE_last (by omega)), n247_7, (n247_5.elim (fun h => Or.inl (by omega)) (fun h => Or.inr (Or.inl (by omega)))), by omega, by omega⟩, show (2 * (3020 - r247) + min 1 (max 0 (-1 - (S247.1 54 59)))).toNat < (2 * (3020 - v51_1) + min 1 (max 0 (-1 - (S51h.1 54 59)))).toNat by omega⟩
                              · unfold wX11_parse_295
                                unfold wX11_parse_297
                                exact ⟨⟨(Ch.wk (Ch.tr (Ch.tr hS51h hS240) hS247) (by decide) (by decide)), by omega, by omega, by omega, by omega, by omega, n247_2, n247_3, n247_4, (PE_last (by omega)), n247_7, (n247_5.elim (fun h => Or.inl (by omega)) (fun h => Or.inr (Or.inl (by omega)))), by omega, by omega⟩, show (2 * (3020 - r247) + min 1 (max 0 (-1 - (S247.1 54 59)))).toNat < (2 * (3020 - v51_1) + min 1 (max 0 (-1 - (S51h.1 54 59)))).toNat by omega⟩
                        · refine ⟨by omega, ?_⟩
                          refine tX11_fail (by omega) (fun r232 S232 hS232 n232_0 => ?_)
                          unfold wX11_parse_297
                          have e271 : S232.1 54 43 = S51h.1 54 43 := hS232.1 43 (by decide)
                          have e272 : S232.1 54 43 = S51h.1 54 43 := hS232.1 43 (by decide)
                          exact ⟨⟨(Ch.wk (Ch.tr hS51h hS232) (by decide) (by decide)), by omega, by omega, by omega, by omega, by omega, (PA.mv3 i51_5 ((hS232).1 51 (by decide)) ((hS232).2 92 (by decide)) ((hS232).2 93 (by decide)) ((hS232).2 94 (by decide)) ((hS232).2 95 (by decide))), (PR.mv i51_6 ((hS232).1 43 (by decide)) ((hS232).1 51 (by decide)) ((hS232).2 86 (by decide)) ((hS232).2 87 (by decide)) ((hS232).2 88 (by decide)) ((hS232).2 90 (by decide)) ((hS232).2 91 (by decide))), (PO.mv i51_7 ((hS232).1 43 (by decide)) ((hS232).2 88 (by decide))), (PE.mv i51_8 ((hS232).1 43 (by decide)) ((hS232).2 88 (by decide))), (by
                                unfold PB
                                have e273 : S232.1 54 41 = S51h.1 54 41 := hS232.1 41 (by decide)
                                have e274 : S51h.1 54 41 = S18.1 54 41 := hS51h.1 41 (by decide)
                                have e275 : S18.1 54 41 = S12.1 54 41 := hS18.1 41 (by decide)
                                have e276 : S12.1 54 41 = S7.1 54 41 := hS12.1 41 (by decide)
                                have e277 : S7.1 54 41 = S2.1 54 41 := hS7.1 41 (by decide)
                                have e278 : S2.1 54 41 = S.1 54 41 := hS2.1 41 (by decide)
                                have e279 : S232.1 54 56 = S51h.1 54 56 := hS232.1 56 (by decide)
                                have e280 : S232.1 54 51 = S51h.1 54 51 := hS232.1 51 (by decide)
                                first
                                | exact Or.inl (by omega)
                                | exact (Classical.em (-1 ≤ S232.1 54 59)).elim (fun hb => Or.inl hb) (fun hb => Or.inr ⟨by omega, by omega, by omega⟩)), (by
                                unfold P1
                                have e281 : S232.1 54 43 = S51h.1 54 43 := hS232.1 43 (by decide)
                                first | exact Or.inr (Or.inl (by omega)) | exact Or.inl (by omega)), by omega, by omega⟩, show (2 * (3020 - v51_1) + min 1 (max 0 (-1 - (S232.1 54 59)))).toNat < (2 * (3020 - v51_1) + min 1 (max 0 (-1 - (S51h.1 54 59)))).toNat by omega⟩
                      · refine ⟨by omega, ?_⟩
                        refine ⟨by omega, ?_⟩
                        have e282 : S51h.1 54 41 = S18.1 54 41 := hS51h.1 41 (by decide)
                        have e283 : S18.1 54 41 = S12.1 54 41 := hS18.1 41 (by decide)
                        have e284 : S12.1 54 41 = S7.1 54 41 := hS12.1 41 (by decide)
                        have e285 : S7.1 54 41 = S2.1 54 41 := hS7.1 41 (by decide)
                        have e286 : S2.1 54 41 = S.1 54 41 := hS2.1 41 (by decide)
                        have e287 : S51h.1 54 41 = S18.1 54 41 := hS51h.1 41 (by decide)
                        have e288 : S18.1 54 41 = S12.1 54 41 := hS18.1 41 (by decide)
                        have e289 : S12.1 54 41 = S7.1 54 41 := hS12.1 41 (by decide)
                        have e290 : S7.1 54 41 = S2.1 54 41 := hS7.1 41 (by decide)
                        have e291 : S2.1 54 41 = S.1 54 41 := hS2.1 41 (by decide)
                        have e292 : S51h.1 54 41 = S18.1 54 41 := hS51h.1 41 (by decide)
                        have e293 : S18.1 54 41 = S12.1 54 41 := hS18.1 41 (by decide)
                        have e294 : S12.1 54 41 = S7.1 54 41 := hS12.1 41 (by decide)
                        have e295 : S7.1 54 41 = S2.1 54 41 := hS7.1 41 (by decide)
                        have e296 : S2.1 54 41 = S.1 54 41 := hS2.1 41 (by decide)
                        refine tX11_section (by omega) (by omega) (by omega) (by omega) (by omega) (by omega) (fun r218 S218 hS218 n218_0 n218_1 n218_2 n218_3 => ?_)
                        unfold wX11_parse_297
                        have e297 : S218.1 54 43 = S51h.1 54 43 := hS218.1 43 (by decide)
                        have e298 : S218.1 54 43 = S51h.1 54 43 := hS218.1 43 (by decide)
                        exact ⟨⟨(Ch.wk (Ch.tr hS51h hS218) (by decide) (by decide)), by omega, by omega, by omega, by omega, by omega, (PA.mv3 i51_5 ((hS218).1 51 (by decide)) ((hS218).2 92 (by decide)) ((hS218).2 93 (by decide)) ((hS218).2 94 (by decide)) ((hS218).2 95 (by decide))), (PR.mv i51_6 ((hS218).1 43 (by decide)) ((hS218).1 51 (by decide)) ((hS218).2 86 (by decide)) ((hS218).2 87 (by decide)) ((hS218).2 88 (by decide)) ((hS218).2 90 (by decide)) ((hS218).2 91 (by decide))), (PO.mv i51_7 ((hS218).1 43 (by decide)) ((hS218).2 88 (by decide))), (PE.mv i51_8 ((hS218).1 43 (by decide)) ((hS218).2 88 (by decide))), (by
                              unfold PB
                              have e299 : S218.1 54 41 = S51h.1 54 41 := hS218.1 41 (by decide)
                              have e300 : S51h.1 54 41 = S18.1 54 41 := hS51h.1 41 (by decide)
                              have e301 : S18.1 54 41 = S12.1 54 41 := hS18.1 41 (by decide)
                              have e302 : S12.1 54 41 = S7.1 54 41 := hS12.1 41 (by decide)
                              have e303 : S7.1 54 41 = S2.1 54 41 := hS7.1 41 (by decide)
                              have e304 : S2.1 54 41 = S.1 54 41 := hS2.1 41 (by decide)
                              have e305 : S218.1 54 51 = S51h.1 54 51 := hS218.1 51 (by decide)
                              first
                              | exact Or.inl (by omega)
                              | exact (Classical.em (-1 ≤ S218.1 54 59)).elim (fun hb => Or.inl hb) (fun hb => Or.inr ⟨by omega, by omega, by omega⟩)), (by
                              unfold P1
                              have e306 : S218.1 54 43 = S51h.1 54 43 := hS218.1 43 (by decide)
                              first | exact Or.inr (Or.inl (by omega)) | exact Or.inl (by omega)), by omega, by omega⟩, show (2 * (3020 - r218) + min 1 (max 0 (-1 - (S218.1 54 59)))).toNat < (2 * (3020 - v51_1) + min 1 (max 0 (-1 - (S51h.1 54 59)))).toNat by omega⟩
                  · have hE2 := hE.2.resolve_left (by omega)
                    have hpr := i51_6.at (x := v51_2) (by omega) (by omega)
                    refine ⟨by omega, ?_⟩
                    have e307 : S51h.1 54 41 = S18.1 54 41 := hS51h.1 41 (by decide)
                    have e308 : S18.1 54 41 = S12.1 54 41 := hS18.1 41 (by decide)
                    have e309 : S12.1 54 41 = S7.1 54 41 := hS12.1 41 (by decide)
                    have e310 : S7.1 54 41 = S2.1 54 41 := hS7.1 41 (by decide)
                    have e311 : S2.1 54 41 = S.1 54 41 := hS2.1 41 (by decide)
                    have e312 : S51h.1 54 41 = S18.1 54 41 := hS51h.1 41 (by decide)
                    have e313 : S18.1 54 41 = S12.1 54 41 := hS18.1 41 (by decide)
                    have e314 : S12.1 54 41 = S7.1 54 41 := hS12.1 41 (by decide)
                    have e315 : S7.1 54 41 = S2.1 54 41 := hS7.1 41 (by decide)
                    have e316 : S2.1 54 41 = S.1 54 41 := hS2.1 41 (by decide)
                    have e317 : S51h.1 54 41 = S18.1 54 41 := hS51h.1 41 (by decide)
                    have e318 : S18.1 54 41 = S12.1 54 41 := hS18.1 41 (by decide)
                    have e319 : S12.1 54 41 = S7.1 54 41 := hS12.1 41 (by decide)
                    have e320 : S7.1 54 41 = S2.1 54 41 := hS7.1 41 (by decide)
                    have e321 : S2.1 54 41 = S.1 54 41 := hS2.1 41 (by decide)
                    refine tX11_endTag (by omega) (by omega) (by omega) (by omega) (by omega) (fun r170 S170 hS170 n170_0 n170_1 n170_2 => ?_)
                    refine ⟨by omega, by omega, ?_⟩
                    intro q322
                    have e323 : S170.2 88 (v51_2) = S51h.2 88 (v51_2) := congrFun (hS170.2 88 (by decide)) _
                    intro x180 hx180
                    subst hx180
                    refine ⟨fun h187 => ?_, fun h187 => ?_⟩
                    · unfold wX11_parse_195
                      unfold wX11_parse_297
                      have e324 : S170.1 54 43 = S51h.1 54 43 := hS170.1 43 (by decide)
                      have e325 : S170.1 54 43 = S51h.1 54 43 := hS170.1 43 (by decide)
                      exact ⟨⟨(Ch.wk (Ch.tr hS51h hS170) (by decide) (by decide)), by omega, by omega, by omega, by omega, by omega, (PA.mv3 i51_5 ((hS170).1 51 (by decide)) ((hS170).2 92 (by decide)) ((hS170).2 93 (by decide)) ((hS170).2 94 (by decide)) ((hS170).2 95 (by decide))), (PR.mv i51_6 ((hS170).1 43 (by decide)) ((hS170).1 51 (by decide)) ((hS170).2 86 (by decide)) ((hS170).2 87 (by decide)) ((hS170).2 88 (by decide)) ((hS170).2 90 (by decide)) ((hS170).2 91 (by decide))), (PO.mv i51_7 ((hS170).1 43 (by decide)) ((hS170).2 88 (by decide))), (by
                            rw [show S170.2 88 v51_2 = S51h.2 88 v51_2 from congrFun (hS170.2 88 (by decide)) _]
                            exact (PE_up (e := v51_2) i51_6 i51_7 (by omega) (by omega)).mv (hS170.1 43 (by decide)) (hS170.2 88 (by decide))), (by
                            unfold PB
                            have e326 : S170.1 54 41 = S51h.1 54 41 := hS170.1 41 (by decide)
                            have e327 : S51h.1 54 41 = S18.1 54 41 := hS51h.1 41 (by decide)
                            have e328 : S18.1 54 41 = S12.1 54 41 := hS18.1 41 (by decide)
                            have e329 : S12.1 54 41 = S7.1 54 41 := hS12.1 41 (by decide)
                            have e330 : S7.1 54 41 = S2.1 54 41 := hS7.1 41 (by decide)
                            have e331 : S2.1 54 41 = S.1 54 41 := hS2.1 41 (by decide)
                            have e332 : S170.1 54 56 = S51h.1 54 56 := hS170.1 56 (by decide)
                            have e333 : S170.1 54 51 = S51h.1 54 51 := hS170.1 51 (by decide)
                            first
                            | exact Or.inl (by omega)
                            | exact (Classical.em (-1 ≤ S170.1 54 59)).elim (fun hb => Or.inl hb) (fun hb => Or.inr ⟨by omega, by omega, by omega⟩)), (by
                            unfold P1
                            have e334 : S170.1 54 43 = S51h.1 54 43 := hS170.1 43 (by decide)
                            first | exact Or.inr (Or.inl (by omega)) | exact Or.inl (by omega)), by omega, by omega⟩, show (2 * (3020 - r170) + min 1 (max 0 (-1 - (S170.1 54 59)))).toNat < (2 * (3020 - v51_1) + min 1 (max 0 (-1 - (S51h.1 54 59)))).toNat by omega⟩
                    · unfold wX11_parse_195
                      unfold wX11_parse_297
                      have e335 : S170.1 54 43 = S51h.1 54 43 := hS170.1 43 (by decide)
                      have e336 : S170.1 54 43 = S51h.1 54 43 := hS170.1 43 (by decide)
                      exact ⟨⟨(Ch.wk (Ch.tr hS51h hS170) (by decide) (by decide)), by omega, by omega, by omega, by omega, by omega, (PA.mv3 i51_5 ((hS170).1 51 (by decide)) ((hS170).2 92 (by decide)) ((hS170).2 93 (by decide)) ((hS170).2 94 (by decide)) ((hS170).2 95 (by decide))), (PR.mv i51_6 ((hS170).1 43 (by decide)) ((hS170).1 51 (by decide)) ((hS170).2 86 (by decide)) ((hS170).2 87 (by decide)) ((hS170).2 88 (by decide)) ((hS170).2 90 (by decide)) ((hS170).2 91 (by decide))), (PO.mv i51_7 ((hS170).1 43 (by decide)) ((hS170).2 88 (by decide))), (by
                            rw [show S170.2 88 v51_2 = S51h.2 88 v51_2 from congrFun (hS170.2 88 (by decide)) _]
                            exact (PE_up (e := v51_2) i51_6 i51_7 (by omega) (by omega)).mv (hS170.1 43 (by decide)) (hS170.2 88 (by decide))), (by
                            unfold PB
                            have e337 : S170.1 54 41 = S51h.1 54 41 := hS170.1 41 (by decide)
                            have e338 : S51h.1 54 41 = S18.1 54 41 := hS51h.1 41 (by decide)
                            have e339 : S18.1 54 41 = S12.1 54 41 := hS18.1 41 (by decide)
                            have e340 : S12.1 54 41 = S7.1 54 41 := hS12.1 41 (by decide)
                            have e341 : S7.1 54 41 = S2.1 54 41 := hS7.1 41 (by decide)
                            have e342 : S2.1 54 41 = S.1 54 41 := hS2.1 41 (by decide)
                            have e343 : S170.1 54 56 = S51h.1 54 56 := hS170.1 56 (by decide)
                            have e344 : S170.1 54 51 = S51h.1 54 51 := hS170.1 51 (by decide)
                            first
                            | exact Or.inl (by omega)
                            | exact (Classical.em (-1 ≤ S170.1 54 59)).elim (fun hb => Or.inl hb) (fun hb => Or.inr ⟨by omega, by omega, by omega⟩)), (by
                            unfold P1
                            have e345 : S170.1 54 43 = S51h.1 54 43 := hS170.1 43 (by decide)
                            first | exact Or.inr (Or.inl (by omega)) | exact Or.inl (by omega)), by omega, by omega⟩, show (2 * (3020 - r170) + min 1 (max 0 (-1 - (S170.1 54 59)))).toNat < (2 * (3020 - v51_1) + min 1 (max 0 (-1 - (S51h.1 54 59)))).toNat by omega⟩
              · refine ⟨by omega, ?_⟩
                refine tX11_keep (by omega) (by omega) (fun r145 S145 hS145 n145_0 => ?_)
                unfold wX11_parse_297
                have e346 : S145.1 54 43 = S51h.1 54 43 := hS145.1 43 (by decide)
                have e347 : S145.1 54 43 = S51h.1 54 43 := hS145.1 43 (by decide)
                have e348 : S145.1 54 59 = S51h.1 54 59 := hS145.1 59 (by decide)
                have e349 : S145.1 54 59 = S51h.1 54 59 := hS145.1 59 (by decide)
                exact ⟨⟨(Ch.wk (Ch.tr hS51h hS145) (by decide) (by decide)), by omega, by omega, by omega, by omega, by omega, (PA.mv3 i51_5 ((hS145).1 51 (by decide)) ((hS145).2 92 (by decide)) ((hS145).2 93 (by decide)) ((hS145).2 94 (by decide)) ((hS145).2 95 (by decide))), (PR.mv i51_6 ((hS145).1 43 (by decide)) ((hS145).1 51 (by decide)) ((hS145).2 86 (by decide)) ((hS145).2 87 (by decide)) ((hS145).2 88 (by decide)) ((hS145).2 90 (by decide)) ((hS145).2 91 (by decide))), (PO.mv i51_7 ((hS145).1 43 (by decide)) ((hS145).2 88 (by decide))), (PE.mv i51_8 ((hS145).1 43 (by decide)) ((hS145).2 88 (by decide))), (by
                      unfold PB
                      have e350 : S145.1 54 59 = S51h.1 54 59 := hS145.1 59 (by decide)
                      have e351 : S145.1 54 41 = S51h.1 54 41 := hS145.1 41 (by decide)
                      have e352 : S51h.1 54 41 = S18.1 54 41 := hS51h.1 41 (by decide)
                      have e353 : S18.1 54 41 = S12.1 54 41 := hS18.1 41 (by decide)
                      have e354 : S12.1 54 41 = S7.1 54 41 := hS12.1 41 (by decide)
                      have e355 : S7.1 54 41 = S2.1 54 41 := hS7.1 41 (by decide)
                      have e356 : S2.1 54 41 = S.1 54 41 := hS2.1 41 (by decide)
                      have e357 : S145.1 54 51 = S51h.1 54 51 := hS145.1 51 (by decide)
                      first
                      | exact Or.inl (by omega)
                      | exact (Classical.em (-1 ≤ S145.1 54 59)).elim (fun hb => Or.inl hb) (fun hb => Or.inr ⟨by omega, by omega, by omega⟩)), (by
                      unfold P1
                      have e358 : S145.1 54 43 = S51h.1 54 43 := hS145.1 43 (by decide)
                      have e359 : S145.1 54 59 = S51h.1 54 59 := hS145.1 59 (by decide)
                      first | exact Or.inr (Or.inl (by omega)) | exact Or.inl (by omega)), by omega, by omega⟩, show (2 * (3020 - ((v51_1 + 1))) + min 1 (max 0 (-1 - (S145.1 54 59)))).toNat < (2 * (3020 - v51_1) + min 1 (max 0 (-1 - (S51h.1 54 59)))).toNat by omega⟩
            · refine ⟨by omega, ?_⟩
              refine ⟨by omega, ?_⟩
              have e360 : S51h.1 54 41 = S18.1 54 41 := hS51h.1 41 (by decide)
              have e361 : S18.1 54 41 = S12.1 54 41 := hS18.1 41 (by decide)
              have e362 : S12.1 54 41 = S7.1 54 41 := hS12.1 41 (by decide)
              have e363 : S7.1 54 41 = S2.1 54 41 := hS7.1 41 (by decide)
              have e364 : S2.1 54 41 = S.1 54 41 := hS2.1 41 (by decide)
              have e365 : S51h.1 54 41 = S18.1 54 41 := hS51h.1 41 (by decide)
              have e366 : S18.1 54 41 = S12.1 54 41 := hS18.1 41 (by decide)
              have e367 : S12.1 54 41 = S7.1 54 41 := hS12.1 41 (by decide)
              have e368 : S7.1 54 41 = S2.1 54 41 := hS7.1 41 (by decide)
              have e369 : S2.1 54 41 = S.1 54 41 := hS2.1 41 (by decide)
              have e370 : S51h.1 54 41 = S18.1 54 41 := hS51h.1 41 (by decide)
              have e371 : S18.1 54 41 = S12.1 54 41 := hS18.1 41 (by decide)
              have e372 : S12.1 54 41 = S7.1 54 41 := hS12.1 41 (by decide)
              have e373 : S7.1 54 41 = S2.1 54 41 := hS7.1 41 (by decide)
              have e374 : S2.1 54 41 = S.1 54 41 := hS2.1 41 (by decide)
              refine tX11_reference (by omega) (by omega) (by omega) (by omega) (by omega) (fun r127 S127 hS127 n127_0 n127_1 n127_2 n127_3 => ?_)
              unfold wX11_parse_297
              have e375 : S127.1 54 43 = S51h.1 54 43 := hS127.1 43 (by decide)
              have e376 : S127.1 54 43 = S51h.1 54 43 := hS127.1 43 (by decide)
              exact ⟨⟨(Ch.wk (Ch.tr hS51h hS127) (by decide) (by decide)), by omega, by omega, by omega, by omega, by omega, (PA.mv3 i51_5 ((hS127).1 51 (by decide)) ((hS127).2 92 (by decide)) ((hS127).2 93 (by decide)) ((hS127).2 94 (by decide)) ((hS127).2 95 (by decide))), (PR.mv i51_6 ((hS127).1 43 (by decide)) ((hS127).1 51 (by decide)) ((hS127).2 86 (by decide)) ((hS127).2 87 (by decide)) ((hS127).2 88 (by decide)) ((hS127).2 90 (by decide)) ((hS127).2 91 (by decide))), (PO.mv i51_7 ((hS127).1 43 (by decide)) ((hS127).2 88 (by decide))), (PE.mv i51_8 ((hS127).1 43 (by decide)) ((hS127).2 88 (by decide))), (by
                    unfold PB
                    have e377 : S127.1 54 41 = S51h.1 54 41 := hS127.1 41 (by decide)
                    have e378 : S51h.1 54 41 = S18.1 54 41 := hS51h.1 41 (by decide)
                    have e379 : S18.1 54 41 = S12.1 54 41 := hS18.1 41 (by decide)
                    have e380 : S12.1 54 41 = S7.1 54 41 := hS12.1 41 (by decide)
                    have e381 : S7.1 54 41 = S2.1 54 41 := hS7.1 41 (by decide)
                    have e382 : S2.1 54 41 = S.1 54 41 := hS2.1 41 (by decide)
                    have e383 : S127.1 54 51 = S51h.1 54 51 := hS127.1 51 (by decide)
                    first
                    | exact Or.inl (by omega)
                    | exact (Classical.em (-1 ≤ S127.1 54 59)).elim (fun hb => Or.inl hb) (fun hb => Or.inr ⟨by omega, by omega, by omega⟩)), (by
                    unfold P1
                    have e384 : S127.1 54 43 = S51h.1 54 43 := hS127.1 43 (by decide)
                    first | exact Or.inr (Or.inl (by omega)) | exact Or.inl (by omega)), by omega, by omega⟩, show (2 * (3020 - r127) + min 1 (max 0 (-1 - (S127.1 54 59)))).toNat < (2 * (3020 - v51_1) + min 1 (max 0 (-1 - (S51h.1 54 59)))).toNat by omega⟩
          · refine ⟨by omega, ?_⟩
            refine tX11_fail (by omega) (fun r111 S111 hS111 n111_0 => ?_)
            unfold wX11_parse_297
            have e385 : S111.1 54 43 = S51h.1 54 43 := hS111.1 43 (by decide)
            have e386 : S111.1 54 43 = S51h.1 54 43 := hS111.1 43 (by decide)
            exact ⟨⟨(Ch.wk (Ch.tr hS51h hS111) (by decide) (by decide)), by omega, by omega, by omega, by omega, by omega, (PA.mv3 i51_5 ((hS111).1 51 (by decide)) ((hS111).2 92 (by decide)) ((hS111).2 93 (by decide)) ((hS111).2 94 (by decide)) ((hS111).2 95 (by decide))), (PR.mv i51_6 ((hS111).1 43 (by decide)) ((hS111).1 51 (by decide)) ((hS111).2 86 (by decide)) ((hS111).2 87 (by decide)) ((hS111).2 88 (by decide)) ((hS111).2 90 (by decide)) ((hS111).2 91 (by decide))), (PO.mv i51_7 ((hS111).1 43 (by decide)) ((hS111).2 88 (by decide))), (PE.mv i51_8 ((hS111).1 43 (by decide)) ((hS111).2 88 (by decide))), (by
                  unfold PB
                  have e387 : S111.1 54 41 = S51h.1 54 41 := hS111.1 41 (by decide)
                  have e388 : S51h.1 54 41 = S18.1 54 41 := hS51h.1 41 (by decide)
                  have e389 : S18.1 54 41 = S12.1 54 41 := hS18.1 41 (by decide)
                  have e390 : S12.1 54 41 = S7.1 54 41 := hS12.1 41 (by decide)
                  have e391 : S7.1 54 41 = S2.1 54 41 := hS7.1 41 (by decide)
                  have e392 : S2.1 54 41 = S.1 54 41 := hS2.1 41 (by decide)
                  have e393 : S111.1 54 56 = S51h.1 54 56 := hS111.1 56 (by decide)
                  have e394 : S111.1 54 51 = S51h.1 54 51 := hS111.1 51 (by decide)
                  first
                  | exact Or.inl (by omega)
                  | exact (Classical.em (-1 ≤ S111.1 54 59)).elim (fun hb => Or.inl hb) (fun hb => Or.inr ⟨by omega, by omega, by omega⟩)), (by
                  unfold P1
                  have e395 : S111.1 54 43 = S51h.1 54 43 := hS111.1 43 (by decide)
                  first | exact Or.inr (Or.inl (by omega)) | exact Or.inl (by omega)), by omega, by omega⟩, show (2 * (3020 - v51_1) + min 1 (max 0 (-1 - (S111.1 54 59)))).toNat < (2 * (3020 - v51_1) + min 1 (max 0 (-1 - (S51h.1 54 59)))).toNat by omega⟩
        · intro q396
          refine ⟨fun h94 => ?_, fun h94 => ?_⟩
          · unfold wX11_parse_102
            refine ⟨by omega, ?_⟩
            refine ⟨fun h106 => ?_, fun h106 => ?_⟩
            · refine ⟨fun h121 => ?_, fun h121 => ?_⟩
              · refine ⟨fun h138 => ?_, fun h138 => ?_⟩
                · refine ⟨by omega, ?_⟩
                  refine ⟨fun h158 => ?_, fun h158 => ?_⟩
                  · unfold wX11_parse_200
                    refine ⟨by omega, ?_⟩
                    refine ⟨fun h204 => ?_, fun h204 => ?_⟩
                    · unfold wX11_parse_225
                      refine ⟨by omega, ?_⟩
                      refine ⟨fun h227 => ?_, fun h227 => ?_⟩
                      · intro S240 hS240e
                        have hS240 : Ch [60] [] S51h S240 := Ch_I hS240e
                        have hS240v : S240.1 54 60 = 0 := pI_at hS240e
                        refine ⟨by omega, ?_⟩
                        refine ⟨by omega, ?_⟩
                        refine ⟨by omega, ?_⟩
                        have e397 : S240.1 54 41 = S51h.1 54 41 := hS240.1 41 (by decide)
                        have e398 : S51h.1 54 41 = S18.1 54 41 := hS51h.1 41 (by decide)
                        have e399 : S18.1 54 41 = S12.1 54 41 := hS18.1 41 (by decide)
                        have e400 : S12.1 54 41 = S7.1 54 41 := hS12.1 41 (by decide)
                        have e401 : S7.1 54 41 = S2.1 54 41 := hS7.1 41 (by decide)
                        have e402 : S2.1 54 41 = S.1 54 41 := hS2.1 41 (by decide)
                        have e403 : S240.1 54 41 = S51h.1 54 41 := hS240.1 41 (by decide)
                        have e404 : S51h.1 54 41 = S18.1 54 41 := hS51h.1 41 (by decide)
                        have e405 : S18.1 54 41 = S12.1 54 41 := hS18.1 41 (by decide)
                        have e406 : S12.1 54 41 = S7.1 54 41 := hS12.1 41 (by decide)
                        have e407 : S7.1 54 41 = S2.1 54 41 := hS7.1 41 (by decide)
                        have e408 : S2.1 54 41 = S.1 54 41 := hS2.1 41 (by decide)
                        have e409 : S240.1 54 56 = S51h.1 54 56 := hS240.1 56 (by decide)
                        have e410 : S240.1 54 51 = S51h.1 54 51 := hS240.1 51 (by decide)
                        have e411 : S240.1 54 43 = S51h.1 54 43 := hS240.1 43 (by decide)
                        have e412 : S240.1 54 43 = S51h.1 54 43 := hS240.1 43 (by decide)
                        refine tX11_beginTag (by omega) (by omega) (by omega) (by omega) (by omega) (by omega) (PA.mv2 i51_5 ((hS240).1 51 (by decide)) ((hS240).1 56 (by decide)) ((hS240).2 92 (by decide)) ((hS240).2 93 (by decide)) ((hS240).2 94 (by decide)) ((hS240).2 95 (by decide))) (PR.mv i51_6 ((hS240).1 43 (by decide)) ((hS240).1 51 (by decide)) ((hS240).2 86 (by decide)) ((hS240).2 87 (by decide)) ((hS240).2 88 (by decide)) ((hS240).2 90 (by decide)) ((hS240).2 91 (by decide))) (PO.mv i51_7 ((hS240).1 43 (by decide)) ((hS240).2 88 (by decide))) (PE.mv i51_8 ((hS240).1 43 (by decide)) ((hS240).2 88 (by decide))) (by omega) (fun r247 S247 hS247 n247_0 n247_1 n247_2 n247_3 n247_4 n247_5 n247_6 n247_7 => ?_)
                        have hbr : (S247.1 54 43 = S240.1 54 43 + 1 ∧ S247.2 88 (S240.1 54 43) = v51_2) ∨ S247.1 54 43 = S240.1 54 43 := by
                          rcases n247_5 with h | h
                          · exact Or.inl h
                          · exact Or.inr h.1
                        intro q413
                        refine ⟨fun h255 => ?_, fun h255 => ?_⟩
                        · unfold wX11_parse_265
                          intro q414
                          refine ⟨fun h270 => ?_, fun h270 => ?_⟩
                          · unfold wX11_parse_283
                            refine ⟨by omega, ?_⟩
                            refine ⟨fun h287 => ?_, fun h287 => ?_⟩
                            · unfold wX11_parse_295
                              unfold wX11_parse_297
                              exact ⟨⟨(Ch.wk (Ch.tr (Ch.tr hS51h hS240) hS247) (by decide) (by decide)), by omega, by omega, by omega, by omega, by omega, n247_2, n247_3, n247_4, (PE_new (PE.mv i51_8 (hS240.1 43 (by decide)) (hS240.2 88 (by decide))) hbr n247_6), n247_7, (n247_5.elim (fun h => Or.inl (by omega)) (fun h => Or.inr (Or.inl (by omega)))), by omega, by omega⟩, show (2 * (3020 - r247) + min 1 (max 0 (-1 - (S247.1 54 59)))).toNat < (2 * (3020 - v51_1) + min 1 (max 0 (-1 - (S51h.1 54 59)))).toNat by omega⟩
                            · unfold wX11_parse_295
                              unfold wX11_parse_297
                              exact ⟨⟨(Ch.wk (Ch.tr (Ch.tr hS51h hS240) hS247) (by decide) (by decide)), by omega, by omega, by omega, by omega, by omega, n247_2, n247_3, n247_4, (PE_new (PE.mv i51_8 (hS240.1 43 (by decide)) (hS240.2 88 (by decide))) hbr n247_6), n247_7, (n247_5.elim (fun h => Or.inl (by omega)) (fun h => Or.inr (Or.inl (by omega)))), by omega, by omega⟩, show (2 * (3020 - r247) + min 1 (max 0 (-1 - (S247.1 54 59)))).toNat < (2 * (3020 - v51_1) + min 1 (max 0 (-1 - (S51h.1 54 59)))).toNat by omega⟩
                          · intro q415
                            unfold wX11_parse_283
                            refine ⟨by omega, ?_⟩
                            refine ⟨fun h287 => ?_, fun h287 => ?_⟩
                            · unfold wX11_parse_295
                              unfold wX11_parse_297
                              exact ⟨⟨(Ch.wk (Ch.tr (Ch.tr hS51h hS240) hS247) (by decide) (by decide)), by omega, by omega, by omega, by omega, by omega, n247_2, n247_3, n247_4, (PE_last (by omega)), n247_7, (n247_5.elim (fun h => Or.inl (by omega)) (fun h => Or.inr (Or.inl (by omega)))), by omega, by omega⟩, show (2 * (3020 - r247) + min 1 (max 0 (-1 - (S247.1 54 59)))).toNat < (2 * (3020 - v51_1) + min 1 (max 0 (-1 - (S51h.1 54 59)))).toNat by omega⟩
                            · unfold wX11_parse_295
                              unfold wX11_parse_297
                              exact ⟨⟨(Ch.wk (Ch.tr (Ch.tr hS51h hS240) hS247) (by decide) (by decide)), by omega, by omega, by omega, by omega, by omega, n247_2, n247_3, n247_4, (PE_last (by omega)), n247_7, (n247_5.elim (fun h => Or.inl (by omega)) (fun h => Or.inr (Or.inl (by omega)))), by omega, by omega⟩, show (2 * (3020 - r247) + min 1 (max 0 (-1 - (S247.1 54 59)))).toNat < (2 * (3020 - v51_1) + min 1 (max 0 (-1 - (S51h.1 54 59)))).toNat by omega⟩
                        · unfold wX11_parse_265
                          intro q416
                          refine ⟨fun h270 => ?_, fun h270 => ?_⟩
                          · unfold wX11_parse_283
                            refine ⟨by omega, ?_⟩
                            refine ⟨fun h287 => ?_, fun h287 => ?_⟩
                            · unfold wX11_parse_295
                              unfold wX11_parse_297
                              exact ⟨⟨(Ch.wk (Ch.tr (Ch.tr hS51h hS240) hS247) (by decide) (by decide)), by omega, by omega, by omega, by omega, by omega, n247_2, n247_3, n247_4, (PE_new (PE.mv i51_8 (hS240.1 43 (by decide)) (hS240.2 88 (by decide))) hbr n247_6), n247_7, (n247_5.elim (fun h => Or.inl (by omega)) (fun h => Or.inr (Or.inl (by omega)))), by omega, by omega⟩, show (2 * (3020 - r247) + min 1 (max 0 (-1 - (S247.1 54 59)))).toNat < (2 * (3020 - v51_1) + min 1 (max 0 (-1 - (S51h.1 54 59)))).toNat by omega⟩
                            · unfold wX11_parse_295
                              unfold wX11_parse_297
                              exact ⟨⟨(Ch.wk (Ch.tr (Ch.tr hS51h hS240) hS247) (by decide) (by decide)), by omega, by omega, by omega, by omega, by omega, n247_2, n247_3, n247_4, (PE_new (PE.mv i51_8 (hS240.1 43 (by decide)) (hS240.2 88 (by decide))) hbr n247_6), n247_7, (n247_5.elim (fun h => Or.inl (by omega)) (fun h => Or.inr (Or.inl (by omega)))), by omega, by omega⟩, show (2 * (3020 - r247) + min 1 (max 0 (-1 - (S247.1 54 59)))).toNat < (2 * (3020 - v51_1) + min 1 (max 0 (-1 - (S51h.1 54 59)))).toNat by omega⟩
                          · intro q417
                            unfold wX11_parse_283
                            refine ⟨by omega, ?_⟩
                            refine ⟨fun h287 => ?_, fun h287 => ?_⟩
                            · unfold wX11_parse_295
                              unfold wX11_parse_297
                              exact ⟨⟨(Ch.wk (Ch.tr (Ch.tr hS51h hS240) hS247) (by decide) (by decide)), by omega, by omega, by omega, by omega, by omega, n247_2, n247_3, n247_4, (PE_last (by omega)), n247_7, (n247_5.elim (fun h => Or.inl (by omega)) (fun h => Or.inr (Or.inl (by omega)))), by omega, by omega⟩, show (2 * (3020 - r247) + min 1 (max 0 (-1 - (S247.1 54 59)))).toNat < (2 * (3020 - v51_1) + min 1 (max 0 (-1 - (S51h.1 54 59)))).toNat by omega⟩
                            · unfold wX11_parse_295
                              unfold wX11_parse_297
                              exact ⟨⟨(Ch.wk (Ch.tr (Ch.tr hS51h hS240) hS247) (by decide) (by decide)), by omega, by omega, by omega, by omega, by omega, n247_2, n247_3, n247_4, (PE_last (by omega)), n247_7, (n247_5.elim (fun h => Or.inl (by omega)) (fun h => Or.inr (Or.inl (by omega)))), by omega, by omega⟩, show (2 * (3020 - r247) + min 1 (max 0 (-1 - (S247.1 54 59)))).toNat < (2 * (3020 - v51_1) + min 1 (max 0 (-1 - (S51h.1 54 59)))).toNat by omega⟩
                      · refine ⟨by omega, ?_⟩
                        refine tX11_fail (by omega) (fun r232 S232 hS232 n232_0 => ?_)
                        unfold wX11_parse_297
                        have e418 : S232.1 54 43 = S51h.1 54 43 := hS232.1 43 (by decide)
                        have e419 : S232.1 54 43 = S51h.1 54 43 := hS232.1 43 (by decide)
                        exact ⟨⟨(Ch.wk (Ch.tr hS51h hS232) (by decide) (by decide)), by omega, by omega, by omega, by omega, by omega, (PA.mv3 i51_5 ((hS232).1 51 (by decide)) ((hS232).2 92 (by decide)) ((hS232).2 93 (by decide)) ((hS232).2 94 (by decide)) ((hS232).2 95 (by decide))), (PR.mv i51_6 ((hS232).1 43 (by decide)) ((hS232).1 51 (by decide)) ((hS232).2 86 (by decide)) ((hS232).2 87 (by decide)) ((hS232).2 88 (by decide)) ((hS232).2 90 (by decide)) ((hS232).2 91 (by decide))), (PO.mv i51_7 ((hS232).1 43 (by decide)) ((hS232).2 88 (by decide))), (PE.mv i51_8 ((hS232).1 43 (by decide)) ((hS232).2 88 (by decide))), (by
                              unfold PB
                              have e420 : S232.1 54 41 = S51h.1 54 41 := hS232.1 41 (by decide)
                              have e421 : S51h.1 54 41 = S18.1 54 41 := hS51h.1 41 (by decide)
                              have e422 : S18.1 54 41 = S12.1 54 41 := hS18.1 41 (by decide)
                              have e423 : S12.1 54 41 = S7.1 54 41 := hS12.1 41 (by decide)
                              have e424 : S7.1 54 41 = S2.1 54 41 := hS7.1 41 (by decide)
                              have e425 : S2.1 54 41 = S.1 54 41 := hS2.1 41 (by decide)
                              have e426 : S232.1 54 56 = S51h.1 54 56 := hS232.1 56 (by decide)
                              have e427 : S232.1 54 51 = S51h.1 54 51 := hS232.1 51 (by decide)
                              first
                              | exact Or.inl (by omega)
                              | exact (Classical.em (-1 ≤ S232.1 54 59)).elim (fun hb => Or.inl hb) (fun hb => Or.inr ⟨by omega, by omega, by omega⟩)), (by
                              unfold P1
                              have e428 : S232.1 54 43 = S51h.1 54 43 := hS232.1 43 (by decide)
                              first | exact Or.inr (Or.inl (by omega)) | exact Or.inl (by omega)), by omega, by omega⟩, show (2 * (3020 - v51_1) + min 1 (max 0 (-1 - (S232.1 54 59)))).toNat < (2 * (3020 - v51_1) + min 1 (max 0 (-1 - (S51h.1 54 59)))).toNat by omega⟩
                    · refine ⟨by omega, ?_⟩
                      refine ⟨fun h210 => ?_, fun h210 => ?_⟩
                      · unfold wX11_parse_225
                        refine ⟨by omega, ?_⟩
                        refine ⟨fun h227 => ?_, fun h227 => ?_⟩
                        · intro S240 hS240e
                          have hS240 : Ch [60] [] S51h S240 := Ch_I hS240e
                          have hS240v : S240.1 54 60 = 0 := pI_at hS240e
                          refine ⟨by omega, ?_⟩
                          refine ⟨by omega, ?_⟩
                          refine ⟨by omega, ?_⟩
                          have e429 : S240.1 54 41 = S51h.1 54 41 := hS240.1 41 (by decide)
                          have e430 : S51h.1 54 41 = S18.1 54 41 := hS51h.1 41 (by decide)
                          have e431 : S18.1 54 41 = S12.1 54 41 := hS18.1 41 (by decide)
                          have e432 : S12.1 54 41 = S7.1 54 41 := hS12.1 41 (by decide)
                          have e433 : S7.1 54 41 = S2.1 54 41 := hS7.1 41 (by decide)
                          have e434 : S2.1 54 41 = S.1 54 41 := hS2.1 41 (by decide)
                          have e435 : S240.1 54 41 = S51h.1 54 41 := hS240.1 41 (by decide)
                          have e436 : S51h.1 54 41 = S18.1 54 41 := hS51h.1 41 (by decide)
                          have e437 : S18.1 54 41 = S12.1 54 41 := hS18.1 41 (by decide)
                          have e438 : S12.1 54 41 = S7.1 54 41 := hS12.1 41 (by decide)
                          have e439 : S7.1 54 41 = S2.1 54 41 := hS7.1 41 (by decide)
                          have e440 : S2.1 54 41 = S.1 54 41 := hS2.1 41 (by decide)
                          have e441 : S240.1 54 56 = S51h.1 54 56 := hS240.1 56 (by decide)
                          have e442 : S240.1 54 51 = S51h.1 54 51 := hS240.1 51 (by decide)
                          have e443 : S240.1 54 43 = S51h.1 54 43 := hS240.1 43 (by decide)
                          have e444 : S240.1 54 43 = S51h.1 54 43 := hS240.1 43 (by decide)
                          refine tX11_beginTag (by omega) (by omega) (by omega) (by omega) (by omega) (by omega) (PA.mv2 i51_5 ((hS240).1 51 (by decide)) ((hS240).1 56 (by decide)) ((hS240).2 92 (by decide)) ((hS240).2 93 (by decide)) ((hS240).2 94 (by decide)) ((hS240).2 95 (by decide))) (PR.mv i51_6 ((hS240).1 43 (by decide)) ((hS240).1 51 (by decide)) ((hS240).2 86 (by decide)) ((hS240).2 87 (by decide)) ((hS240).2 88 (by decide)) ((hS240).2 90 (by decide)) ((hS240).2 91 (by decide))) (PO.mv i51_7 ((hS240).1 43 (by decide)) ((hS240).2 88 (by decide))) (PE.mv i51_8 ((hS240).1 43 (by decide)) ((hS240).2 88 (by decide))) (by omega) (fun r247 S247 hS247 n247_0 n247_1 n247_2 n247_3 n247_4 n247_5 n247_6 n247_7 => ?_)
                          have hbr : (S247.1 54 43 = S240.1 54 43 + 1 ∧ S247.2 88 (S240.1 54 43) = v51_2) ∨ S247.1 54 43 = S240.1 54 43 := by
                            rcases n247_5 with h | h
                            · exact Or.inl h
                            · exact Or.inr h.1
                          intro q445
                          refine ⟨fun h255 => ?_, fun h255 => ?_⟩
                          · unfold wX11_parse_265
                            intro q446
                            refine ⟨fun h270 => ?_, fun h270 => ?_⟩
                            · unfold wX11_parse_283
                              refine ⟨by omega, ?_⟩
                              refine ⟨fun h287 => ?_, fun h287 => ?_⟩
                              · unfold wX11_parse_295
                                unfold wX11_parse_297
                                exact ⟨⟨(Ch.wk (Ch.tr (Ch.tr hS51h hS240) hS247) (by decide) (by decide)), by omega, by omega, by omega, by omega, by omega, n247_2, n247_3, n247_4, (PE_new (PE.mv i51_8 (hS240.1 43 (by decide)) (hS240.2 88 (by decide))) hbr n247_6), n247_7, (n247_5.elim (fun h => Or.inl (by omega)) (fun h => Or.inr (Or.inl (by omega)))), by omega, by omega⟩, show (2 * (3020 - r247) + min 1 (max 0 (-1 - (S247.1 54 59)))).toNat < (2 * (3020 - v51_1) + min 1 (max 0 (-1 - (S51h.1 54 59)))).toNat by omega⟩
                              · unfold wX11_parse_295
                                unfold wX11_parse_297
                                exact ⟨⟨(Ch.wk (Ch.tr (Ch.tr hS51h hS240) hS247) (by decide) (by decide)), by omega, by omega, by omega, by omega, by omega, n247_2, n247_3, n247_4, (PE_new (PE.mv i51_8 (hS240.1 43 (by decide)) (hS240.2 88 (by decide))) hbr n247_6), n247_7, (n247_5.elim (fun h => Or.inl (by omega)) (fun h => Or.inr (Or.inl (by omega)))), by omega, by omega⟩, show (2 * (3020 - r247) + min 1 (max 0 (-1 - (S247.1 54 59)))).toNat < (2 * (3020 - v51_1) + min 1 (max 0 (-1 - (S51h.1 54 59)))).toNat by omega⟩
                            · intro q447
                              unfold wX11_parse_283
                              refine ⟨by omega, ?_⟩
                              refine ⟨fun h287 => ?_, fun h287 => ?_⟩
                              · unfold wX11_parse_295
                                unfold wX11_parse_297
                                exact ⟨⟨(Ch.wk (Ch.tr (Ch.tr hS51h hS240) hS247) (by decide) (by decide)), by omega, by omega, by omega, by omega, by omega, n247_2, n247_3, n247_4, (PE_last (by omega)), n247_7, (n247_5.elim (fun h => Or.inl (by omega)) (fun h => Or.inr (Or.inl (by omega)))), by omega, by omega⟩, show (2 * (3020 - r247) + min 1 (max 0 (-1 - (S247.1 54 59)))).toNat < (2 * (3020 - v51_1) + min 1 (max 0 (-1 - (S51h.1 54 59)))).toNat by omega⟩
                              · unfold wX11_parse_295
                                unfold wX11_parse_297
                                exact ⟨⟨(Ch.wk (Ch.tr (Ch.tr hS51h hS240) hS247) (by decide) (by decide)), by omega, by omega, by omega, by omega, by omega, n247_2, n247_3, n247_4, (PE_last (by omega)), n247_7, (n247_5.elim (fun h => Or.inl (by omega)) (fun h => Or.inr (Or.inl (by omega)))), by omega, by omega⟩, show (2 * (3020 - r247) + min 1 (max 0 (-1 - (S247.1 54 59)))).toNat < (2 * (3020 - v51_1) + min 1 (max 0 (-1 - (S51h.1 54 59)))).toNat by omega⟩
                          · unfold wX11_parse_265
                            intro q448
                            refine ⟨fun h270 => ?_, fun h270 => ?_⟩
                            · unfold wX11_parse_283
                              refine ⟨by omega, ?_⟩
                              refine ⟨fun h287 => ?_, fun h287 => ?_⟩
                              · unfold wX11_parse_295
                                unfold wX11_parse_297
                                exact ⟨⟨(Ch.wk (Ch.tr (Ch.tr hS51h hS240) hS247) (by decide) (by decide)), by omega, by omega, by omega, by omega, by omega, n247_2, n247_3, n247_4, (PE_new (PE.mv i51_8 (hS240.1 43 (by decide)) (hS240.2 88 (by decide))) hbr n247_6), n247_7, (n247_5.elim (fun h => Or.inl (by omega)) (fun h => Or.inr (Or.inl (by omega)))), by omega, by omega⟩, show (2 * (3020 - r247) + min 1 (max 0 (-1 - (S247.1 54 59)))).toNat < (2 * (3020 - v51_1) + min 1 (max 0 (-1 - (S51h.1 54 59)))).toNat by omega⟩
                              · unfold wX11_parse_295
                                unfold wX11_parse_297
                                exact ⟨⟨(Ch.wk (Ch.tr (Ch.tr hS51h hS240) hS247) (by decide) (by decide)), by omega, by omega, by omega, by omega, by omega, n247_2, n247_3, n247_4, (PE_new (PE.mv i51_8 (hS240.1 43 (by decide)) (hS240.2 88 (by decide))) hbr n247_6), n247_7, (n247_5.elim (fun h => Or.inl (by omega)) (fun h => Or.inr (Or.inl (by omega)))), by omega, by omega⟩, show (2 * (3020 - r247) + min 1 (max 0 (-1 - (S247.1 54 59)))).toNat < (2 * (3020 - v51_1) + min 1 (max 0 (-1 - (S51h.1 54 59)))).toNat by omega⟩
                            · intro q449
                              unfold wX11_parse_283
                              refine ⟨by omega, ?_⟩
                              refine ⟨fun h287 => ?_, fun h287 => ?_⟩
                              · unfold wX11_parse_295
                                unfold wX11_parse_297
                                exact ⟨⟨(Ch.wk (Ch.tr (Ch.tr hS51h hS240) hS247) (by decide) (by decide)), by omega, by omega, by omega, by omega, by omega, n247_2, n247_3, n247_4, (PE_last (by omega)), n247_7, (n247_5.elim (fun h => Or.inl (by omega)) (fun h => Or.inr (Or.inl (by omega)))), by omega, by omega⟩, show (2 * (3020 - r247) + min 1 (max 0 (-1 - (S247.1 54 59)))).toNat < (2 * (3020 - v51_1) + min 1 (max 0 (-1 - (S51h.1 54 59)))).toNat by omega⟩
                              · unfold wX11_parse_295
                                unfold wX11_parse_297
                                exact ⟨⟨(Ch.wk (Ch.tr (Ch.tr hS51h hS240) hS247) (by decide) (by decide)), by omega, by omega, by omega, by omega, by omega, n247_2, n247_3, n247_4, (PE_last (by omega)), n247_7, (n247_5.elim (fun h => Or.inl (by omega)) (fun h => Or.inr (Or.inl (by omega)))), by omega, by omega⟩, show (2 * (3020 - r247) + min 1 (max 0 (-1 - (S247.1 54 59)))).toNat < (2 * (3020 - v51_1) + min 1 (max 0 (-1 - (S51h.1 54 59)))).toNat by omega⟩
                        · refine ⟨by omega, ?_⟩
                          refine tX11_fail (by omega) (fun r232 S232 hS232 n232_0 => ?_)
                          unfold wX11_parse_297
                          have e450 : S232.1 54 43 = S51h.1 54 43 := hS232.1 43 (by decide)
                          have e451 : S232.1 54 43 = S51h.1 54 43 := hS232.1 43 (by decide)
                          exact ⟨⟨(Ch.wk (Ch.tr hS51h hS232) (by decide) (by decide)), by omega, by omega, by omega, by omega, by omega, (PA.mv3 i51_5 ((hS232).1 51 (by decide)) ((hS232).2 92 (by decide)) ((hS232).2 93 (by decide)) ((hS232).2 94 (by decide)) ((hS232).2 95 (by decide))), (PR.mv i51_6 ((hS232).1 43 (by decide)) ((hS232).1 51 (by decide)) ((hS232).2 86 (by decide)) ((hS232).2 87 (by decide)) ((hS232).2 88 (by decide)) ((hS232).2 90 (by decide)) ((hS232).2 91 (by decide))), (PO.mv i51_7 ((hS232).1 43 (by decide)) ((hS232).2 88 (by decide))), (PE.mv i51_8 ((hS232).1 43 (by decide)) ((hS232).2 88 (by decide))), (by
                                unfold PB
                                have e452 : S232.1 54 41 = S51h.1 54 41 := hS232.1 41 (by decide)
                                have e453 : S51h.1 54 41 = S18.1 54 41 := hS51h.1 41 (by decide)
                                have e454 : S18.1 54 41 = S12.1 54 41 := hS18.1 41 (by decide)
                                have e455 : S12.1 54 41 = S7.1 54 41 := hS12.1 41 (by decide)
                                have e456 : S7.1 54 41 = S2.1 54 41 := hS7.1 41 (by decide)
                                have e457 : S2.1 54 41 = S.1 54 41 := hS2.1 41 (by decide)
                                have e458 : S232.1 54 56 = S51h.1 54 56 := hS232.1 56 (by decide)
                                have e459 : S232.1 54 51 = S51h.1 54 51 := hS232.1 51 (by decide)
                                first
                                | exact Or.inl (by omega)
                                | exact (Classical.em (-1 ≤ S232.1 54 59)).elim (fun hb => Or.inl hb) (fun hb => Or.inr ⟨by omega, by omega, by omega⟩)), (by
                                unfold P1
                                have e460 : S232.1 54 43 = S51h.1 54 43 := hS232.1 43 (by decide)
                                first | exact Or.inr (Or.inl (by omega)) | exact Or.inl (by omega)), by omega, by omega⟩, show (2 * (3020 - v51_1) + min 1 (max 0 (-1 - (S232.1 54 59)))).toNat < (2 * (3020 - v51_1) + min 1 (max 0 (-1 - (S51h.1 54 59)))).toNat by omega⟩
                      · refine ⟨by omega, ?_⟩
                        refine ⟨by omega, ?_⟩
                        have e461 : S51h.1 54 41 = S18.1 54 41 := hS51h.1 41 (by decide)
                        have e462 : S18.1 54 41 = S12.1 54 41 := hS18.1 41 (by decide)
                        have e463 : S12.1 54 41 = S7.1 54 41 := hS12.1 41 (by decide)
                        have e464 : S7.1 54 41 = S2.1 54 41 := hS7.1 41 (by decide)
                        have e465 : S2.1 54 41 = S.1 54 41 := hS2.1 41 (by decide)
                        have e466 : S51h.1 54 41 = S18.1 54 41 := hS51h.1 41 (by decide)
                        have e467 : S18.1 54 41 = S12.1 54 41 := hS18.1 41 (by decide)
                        have e468 : S12.1 54 41 = S7.1 54 41 := hS12.1 41 (by decide)
                        have e469 : S7.1 54 41 = S2.1 54 41 := hS7.1 41 (by decide)
                        have e470 : S2.1 54 41 = S.1 54 41 := hS2.1 41 (by decide)
                        have e471 : S51h.1 54 41 = S18.1 54 41 := hS51h.1 41 (by decide)
                        have e472 : S18.1 54 41 = S12.1 54 41 := hS18.1 41 (by decide)
                        have e473 : S12.1 54 41 = S7.1 54 41 := hS12.1 41 (by decide)
                        have e474 : S7.1 54 41 = S2.1 54 41 := hS7.1 41 (by decide)
                        have e475 : S2.1 54 41 = S.1 54 41 := hS2.1 41 (by decide)
                        refine tX11_section (by omega) (by omega) (by omega) (by omega) (by omega) (by omega) (fun r218 S218 hS218 n218_0 n218_1 n218_2 n218_3 => ?_)
                        unfold wX11_parse_297
                        have e476 : S218.1 54 43 = S51h.1 54 43 := hS218.1 43 (by decide)
                        have e477 : S218.1 54 43 = S51h.1 54 43 := hS218.1 43 (by decide)
                        exact ⟨⟨(Ch.wk (Ch.tr hS51h hS218) (by decide) (by decide)), by omega, by omega, by omega, by omega, by omega, (PA.mv3 i51_5 ((hS218).1 51 (by decide)) ((hS218).2 92 (by decide)) ((hS218).2 93 (by decide)) ((hS218).2 94 (by decide)) ((hS218).2 95 (by decide))), (PR.mv i51_6 ((hS218).1 43 (by decide)) ((hS218).1 51 (by decide)) ((hS218).2 86 (by decide)) ((hS218).2 87 (by decide)) ((hS218).2 88 (by decide)) ((hS218).2 90 (by decide)) ((hS218).2 91 (by decide))), (PO.mv i51_7 ((hS218).1 43 (by decide)) ((hS218).2 88 (by decide))), (PE.mv i51_8 ((hS218).1 43 (by decide)) ((hS218).2 88 (by decide))), (by
                              unfold PB
                              have e478 : S218.1 54 41 = S51h.1 54 41 := hS218.1 41 (by decide)
                              have e479 : S51h.1 54 41 = S18.1 54 41 := hS51h.1 41 (by decide)
                              have e480 : S18.1 54 41 = S12.1 54 41 := hS18.1 41 (by decide)
                              have e481 : S12.1 54 41 = S7.1 54 41 := hS12.1 41 (by decide)
                              have e482 : S7.1 54 41 = S2.1 54 41 := hS7.1 41 (by decide)
                              have e483 : S2.1 54 41 = S.1 54 41 := hS2.1 41 (by decide)
                              have e484 : S218.1 54 51 = S51h.1 54 51 := hS218.1 51 (by decide)
                              first
                              | exact Or.inl (by omega)
                              | exact (Classical.em (-1 ≤ S218.1 54 59)).elim (fun hb => Or.inl hb) (fun hb => Or.inr ⟨by omega, by omega, by omega⟩)), (by
                              unfold P1
                              have e485 : S218.1 54 43 = S51h.1 54 43 := hS218.1 43 (by decide)
                              first | exact Or.inr (Or.inl (by omega)) | exact Or.inl (by omega)), by omega, by omega⟩, show (2 * (3020 - r218) + min 1 (max 0 (-1 - (S218.1 54 59)))).toNat < (2 * (3020 - v51_1) + min 1 (max 0 (-1 - (S51h.1 54 59)))).toNat by omega⟩
                  · refine ⟨by omega, ?_⟩
                    refine ⟨fun h164 => ?_, fun h164 => ?_⟩
                    · unfold wX11_parse_200
                      refine ⟨by omega, ?_⟩
                      refine ⟨fun h204 => ?_, fun h204 => ?_⟩
                      · unfold wX11_parse_225
                        refine ⟨by omega, ?_⟩
                        refine ⟨fun h227 => ?_, fun h227 => ?_⟩
                        · intro S240 hS240e
                          have hS240 : Ch [60] [] S51h S240 := Ch_I hS240e
                          have hS240v : S240.1 54 60 = 0 := pI_at hS240e
                          refine ⟨by omega, ?_⟩
                          refine ⟨by omega, ?_⟩
                          refine ⟨by omega, ?_⟩
                          have e486 : S240.1 54 41 = S51h.1 54 41 := hS240.1 41 (by decide)
                          have e487 : S51h.1 54 41 = S18.1 54 41 := hS51h.1 41 (by decide)
                          have e488 : S18.1 54 41 = S12.1 54 41 := hS18.1 41 (by decide)
                          have e489 : S12.1 54 41 = S7.1 54 41 := hS12.1 41 (by decide)
                          have e490 : S7.1 54 41 = S2.1 54 41 := hS7.1 41 (by decide)
                          have e491 : S2.1 54 41 = S.1 54 41 := hS2.1 41 (by decide)
                          have e492 : S240.1 54 41 = S51h.1 54 41 := hS240.1 41 (by decide)
                          have e493 : S51h.1 54 41 = S18.1 54 41 := hS51h.1 41 (by decide)
                          have e494 : S18.1 54 41 = S12.1 54 41 := hS18.1 41 (by decide)
                          have e495 : S12.1 54 41 = S7.1 54 41 := hS12.1 41 (by decide)
                          have e496 : S7.1 54 41 = S2.1 54 41 := hS7.1 41 (by decide)
                          have e497 : S2.1 54 41 = S.1 54 41 := hS2.1 41 (by decide)
                          have e498 : S240.1 54 56 = S51h.1 54 56 := hS240.1 56 (by decide)
                          have e499 : S240.1 54 51 = S51h.1 54 51 := hS240.1 51 (by decide)
                          have e500 : S240.1 54 43 = S51h.1 54 43 := hS240.1 43 (by decide)
                          have e501 : S240.1 54 43 = S51h.1 54 43 := hS240.1 43 (by decide)
                          refine tX11_beginTag (by omega) (by omega) (by omega) (by omega) (by omega) (by omega) (PA.mv2 i51_5 ((hS240).1 51 (by decide)) ((hS240).1 56 (by decide)) ((hS240).2 92 (by decide)) ((hS240).2 93 (by decide)) ((hS240).2 94 (by decide)) ((hS240).2 95 (by decide))) (PR.mv i51_6 ((hS240).1 43 (by decide)) ((hS240).1 51 (by decide)) ((hS240).2 86 (by decide)) ((hS240).2 87 (by decide)) ((hS240).2 88 (by decide)) ((hS240).2 90 (by decide)) ((hS240).2 91 (by decide))) (PO.mv i51_7 ((hS240).1 43 (by decide)) ((hS240).2 88 (by decide))) (PE.mv i51_8 ((hS240).1 43 (by decide)) ((hS240).2 88 (by decide))) (by omega) (fun r247 S247 hS247 n247_0 n247_1 n247_2 n247_3 n247_4 n247_5 n247_6 n247_7 => ?_)
                          have hbr : (S247.1 54 43 = S240.1 54 43 + 1 ∧ S247.2 88 (S240.1 54 43) = v51_2) ∨ S247.1 54 43 = S240.1 54 43 := by
                            rcases n247_5 with h | h
                            · exact Or.inl h
                            · exact Or.inr h.1
                          intro q502
                          refine ⟨fun h255 => ?_, fun h255 => ?_⟩
                          · unfold wX11_parse_265
                            intro q503
                            refine ⟨fun h270 => ?_, fun h270 => ?_⟩
                            · unfold wX11_parse_283
                              refine ⟨by omega, ?_⟩
                              refine ⟨fun h287 => ?_, fun h287 => ?_⟩
                              · unfold wX11_parse_295
                                unfold wX11_parse_297
                                exact ⟨⟨(Ch.wk (Ch.tr (Ch.tr hS51h hS240) hS247) (by decide) (by decide)), by omega, by omega, by omega, by omega, by omega, n247_2, n247_3, n247_4, (PE_new (PE.mv i51_8 (hS240.1 43 (by decide)) (hS240.2 88 (by decide))) hbr n247_6), n247_7, (n247_5.elim (fun h => Or.inl (by omega)) (fun h => Or.inr (Or.inl (by omega)))), by omega, by omega⟩, show (2 * (3020 - r247) + min 1 (max 0 (-1 - (S247.1 54 59)))).toNat < (2 * (3020 - v51_1) + min 1 (max 0 (-1 - (S51h.1 54 59)))).toNat by omega⟩
                              · unfold wX11_parse_295
                                unfold wX11_parse_297
                                exact ⟨⟨(Ch.wk (Ch.tr (Ch.tr hS51h hS240) hS247) (by decide) (by decide)), by omega, by omega, by omega, by omega, by omega, n247_2, n247_3, n247_4, (PE_new (PE.mv i51_8 (hS240.1 43 (by decide)) (hS240.2 88 (by decide))) hbr n247_6), n247_7, (n247_5.elim (fun h => Or.inl (by omega)) (fun h => Or.inr (Or.inl (by omega)))), by omega, by omega⟩, show (2 * (3020 - r247) + min 1 (max 0 (-1 - (S247.1 54 59)))).toNat < (2 * (3020 - v51_1) + min 1 (max 0 (-1 - (S51h.1 54 59)))).toNat by omega⟩
                            · intro q504
                              unfold wX11_parse_283
                              refine ⟨by omega, ?_⟩
                              refine ⟨fun h287 => ?_, fun h287 => ?_⟩
                              · unfold wX11_parse_295
                                unfold wX11_parse_297
                                exact ⟨⟨(Ch.wk (Ch.tr (Ch.tr hS51h hS240) hS247) (by decide) (by decide)), by omega, by omega, by omega, by omega, by omega, n247_2, n247_3, n247_4, (PE_last (by omega)), n247_7, (n247_5.elim (fun h => Or.inl (by omega)) (fun h => Or.inr (Or.inl (by omega)))), by omega, by omega⟩, show (2 * (3020 - r247) + min 1 (max 0 (-1 - (S247.1 54 59)))).toNat < (2 * (3020 - v51_1) + min 1 (max 0 (-1 - (S51h.1 54 59)))).toNat by omega⟩
                              · unfold wX11_parse_295
                                unfold wX11_parse_297
                                exact ⟨⟨(Ch.wk (Ch.tr (Ch.tr hS51h hS240) hS247) (by decide) (by decide)), by omega, by omega, by omega, by omega, by omega, n247_2, n247_3, n247_4, (PE_last (by omega)), n247_7, (n247_5.elim (fun h => Or.inl (by omega)) (fun h => Or.inr (Or.inl (by omega)))), by omega, by omega⟩, show (2 * (3020 - r247) + min 1 (max 0 (-1 - (S247.1 54 59)))).toNat < (2 * (3020 - v51_1) + min 1 (max 0 (-1 - (S51h.1 54 59)))).toNat by omega⟩
                          · unfold wX11_parse_265
                            intro q505
                            refine ⟨fun h270 => ?_, fun h270 => ?_⟩
                            · unfold wX11_parse_283
                              refine ⟨by omega, ?_⟩
                              refine ⟨fun h287 => ?_, fun h287 => ?_⟩
                              · unfold wX11_parse_295
                                unfold wX11_parse_297
                                exact ⟨⟨(Ch.wk (Ch.tr (Ch.tr hS51h hS240) hS247) (by decide) (by decide)), by omega, by omega, by omega, by omega, by omega, n247_2, n247_3, n247_4, (PE_new (PE.mv i51_8 (hS240.1 43 (by decide)) (hS240.2 88 (by decide))) hbr n247_6), n247_7, (n247_5.elim (fun h => Or.inl (by omega)) (fun h => Or.inr (Or.inl (by omega)))), by omega, by omega⟩, show (2 * (3020 - r247) + min 1 (max 0 (-1 - (S247.1 54 59)))).toNat < (2 * (3020 - v51_1) + min 1 (max 0 (-1 - (S51h.1 54 59)))).toNat by omega⟩
                              · unfold wX11_parse_295
                                unfold wX11_parse_297
                                exact ⟨⟨(Ch.wk (Ch.tr (Ch.tr hS51h hS240) hS247) (by decide) (by decide)), by omega, by omega, by omega, by omega, by omega, n247_2, n247_3, n247_4, (PE_new (PE.mv i51_8 (hS240.1 43 (by decide)) (hS240.2 88 (by decide))) hbr n247_6), n247_7, (n247_5.elim (fun h => Or.inl (by omega)) (fun h => Or.inr (Or.inl (by omega)))), by omega, by omega⟩, show (2 * (3020 - r247) + min 1 (max 0 (-1 - (S247.1 54 59)))).toNat < (2 * (3020 - v51_1) + min 1 (max 0 (-1 - (S51h.1 54 59)))).toNat by omega⟩
                            · intro q506
                              unfold wX11_parse_283
                              refine ⟨by omega, ?_⟩
                              refine ⟨fun h287 => ?_, fun h287 => ?_⟩
                              · unfold wX11_parse_295
                                unfold wX11_parse_297
                                exact ⟨⟨(Ch.wk (Ch.tr (Ch.tr hS51h hS240) hS247) (by decide) (by decide)), by omega, by omega, by omega, by omega, by omega, n247_2, n247_3, n247_4, (PE_last (by omega)), n247_7, (n247_5.elim (fun h => Or.inl (by omega)) (fun h => Or.inr (Or.inl (by omega)))), by omega, by omega⟩, show (2 * (3020 - r247) + min 1 (max 0 (-1 - (S247.1 54 59)))).toNat < (2 * (3020 - v51_1) + min 1 (max 0 (-1 - (S51h.1 54 59)))).toNat by omega⟩
                              · unfold wX11_parse_295
                                unfold wX11_parse_297
                                exact ⟨⟨(Ch.wk (Ch.tr (Ch.tr hS51h hS240) hS247) (by decide) (by decide)), by omega, by omega, by omega, by omega, by omega, n247_2, n247_3, n247_4, (PE_last (by omega)), n247_7, (n247_5.elim (fun h => Or.inl (by omega)) (fun h => Or.inr (Or.inl (by omega)))), by omega, by omega⟩, show (2 * (3020 - r247) + min 1 (max 0 (-1 - (S247.1 54 59)))).toNat < (2 * (3020 - v51_1) + min 1 (max 0 (-1 - (S51h.1 54 59)))).toNat by omega⟩
                        · refine ⟨by omega, ?_⟩
                          refine tX11_fail (by omega) (fun r232 S232 hS232 n232_0 => ?_)
                          unfold wX11_parse_297
                          have e507 : S232.1 54 43 = S51h.1 54 43 := hS232.1 43 (by decide)
                          have e508 : S232.1 54 43 = S51h.1 54 43 := hS232.1 43 (by decide)
                          exact ⟨⟨(Ch.wk (Ch.tr hS51h hS232) (by decide) (by decide)), by omega, by omega, by omega, by omega, by omega, (PA.mv3 i51_5 ((hS232).1 51 (by decide)) ((hS232).2 92 (by decide)) ((hS232).2 93 (by decide)) ((hS232).2 94 (by decide)) ((hS232).2 95 (by decide))), (PR.mv i51_6 ((hS232).1 43 (by decide)) ((hS232).1 51 (by decide)) ((hS232).2 86 (by decide)) ((hS232).2 87 (by decide)) ((hS232).2 88 (by decide)) ((hS232).2 90 (by decide)) ((hS232).2 91 (by decide))), (PO.mv i51_7 ((hS232).1 43 (by decide)) ((hS232).2 88 (by decide))), (PE.mv i51_8 ((hS232).1 43 (by decide)) ((hS232).2 88 (by decide))), (by
                                unfold PB
                                have e509 : S232.1 54 41 = S51h.1 54 41 := hS232.1 41 (by decide)
                                have e510 : S51h.1 54 41 = S18.1 54 41 := hS51h.1 41 (by decide)
                                have e511 : S18.1 54 41 = S12.1 54 41 := hS18.1 41 (by decide)
                                have e512 : S12.1 54 41 = S7.1 54 41 := hS12.1 41 (by decide)
                                have e513 : S7.1 54 41 = S2.1 54 41 := hS7.1 41 (by decide)
                                have e514 : S2.1 54 41 = S.1 54 41 := hS2.1 41 (by decide)
                                have e515 : S232.1 54 56 = S51h.1 54 56 := hS232.1 56 (by decide)
                                have e516 : S232.1 54 51 = S51h.1 54 51 := hS232.1 51 (by decide)
                                first
                                | exact Or.inl (by omega)
                                | exact (Classical.em (-1 ≤ S232.1 54 59)).elim (fun hb => Or.inl hb) (fun hb => Or.inr ⟨by omega, by omega, by omega⟩)), (by
                                unfold P1
                                have e517 : S232.1 54 43 = S51h.1 54 43 := hS232.1 43 (by decide)
                                first | exact Or.inr (Or.inl (by omega)) | exact Or.inl (by omega)), by omega, by omega⟩, show (2 * (3020 - v51_1) + min 1 (max 0 (-1 - (S232.1 54 59)))).toNat < (2 * (3020 - v51_1) + min 1 (max 0 (-1 - (S51h.1 54 59)))).toNat by omega⟩
                      · refine ⟨by omega, ?_⟩
                        refine ⟨fun h210 => ?_, fun h210 => ?_⟩
                        · unfold wX11_parse_225
                          refine ⟨by omega, ?_⟩
                          refine ⟨fun h227 => ?_, fun h227 => ?_⟩
                          · intro S240 hS240e
                            have hS240 : Ch [60] [] S51h S240 := Ch_I hS240e
                            have hS240v : S240.1 54 60 = 0 := pI_at hS240e
                            refine ⟨by omega, ?_⟩
                            refine ⟨by omega, ?_⟩
                            refine ⟨by omega, ?_⟩
                            have e518 : S240.1 54 41 = S51h.1 54 41 := hS240.1 41 (by decide)
                            have e519 : S51h.1 54 41 = S18.1 54 41 := hS51h.1 41 (by decide)
                            have e520 : S18.1 54 41 = S12.1 54 41 := hS18.1 41 (by decide)
                            have e521 : S12.1 54 41 = S7.1 54 41 := hS12.1 41 (by decide)
                            have e522 : S7.1 54 41 = S2.1 54 41 := hS7.1 41 (by decide)
                            have e523 : S2.1 54 41 = S.1 54 41 := hS2.1 41 (by decide)
                            have e524 : S240.1 54 41 = S51h.1 54 41 := hS240.1 41 (by decide)
                            have e525 : S51h.1 54 41 = S18.1 54 41 := hS51h.1 41 (by decide)
                            have e526 : S18.1 54 41 = S12.1 54 41 := hS18.1 41 (by decide)
                            have e527 : S12.1 54 41 = S7.1 54 41 := hS12.1 41 (by decide)
                            have e528 : S7.1 54 41 = S2.1 54 41 := hS7.1 41 (by decide)
                            have e529 : S2.1 54 41 = S.1 54 41 := hS2.1 41 (by decide)
                            have e530 : S240.1 54 56 = S51h.1 54 56 := hS240.1 56 (by decide)
                            have e531 : S240.1 54 51 = S51h.1 54 51 := hS240.1 51 (by decide)
                            have e532 : S240.1 54 43 = S51h.1 54 43 := hS240.1 43 (by decide)
                            have e533 : S240.1 54 43 = S51h.1 54 43 := hS240.1 43 (by decide)
                            refine tX11_beginTag (by omega) (by omega) (by omega) (by omega) (by omega) (by omega) (PA.mv2 i51_5 ((hS240).1 51 (by decide)) ((hS240).1 56 (by decide)) ((hS240).2 92 (by decide)) ((hS240).2 93 (by decide)) ((hS240).2 94 (by decide)) ((hS240).2 95 (by decide))) (PR.mv i51_6 ((hS240).1 43 (by decide)) ((hS240).1 51 (by decide)) ((hS240).2 86 (by decide)) ((hS240).2 87 (by decide)) ((hS240).2 88 (by decide)) ((hS240).2 90 (by decide)) ((hS240).2 91 (by decide))) (PO.mv i51_7 ((hS240).1 43 (by decide)) ((hS240).2 88 (by decide))) (PE.mv i51_8 ((hS240).1 43 (by decide)) ((hS240).2 88 (by decide))) (by omega) (fun r247 S247 hS247 n247_0 n247_1 n247_2 n247_3 n247_4 n247_5 n247_6 n247_7 => ?_)
                            have hbr : (S247.1 54 43 = S240.1 54 43 + 1 ∧ S247.2 88 (S240.1 54 43) = v51_2) ∨ S247.1 54 43 = S240.1 54 43 := by
                              rcases n247_5 with h | h
                              · exact Or.inl h
                              · exact Or.inr h.1
                            intro q534
                            refine ⟨fun h255 => ?_, fun h255 => ?_⟩
                            · unfold wX11_parse_265
                              intro q535
                              refine ⟨fun h270 => ?_, fun h270 => ?_⟩
                              · unfold wX11_parse_283
                                refine ⟨by omega, ?_⟩
                                refine ⟨fun h287 => ?_, fun h287 => ?_⟩
                                · unfold wX11_parse_295
                                  unfold wX11_parse_297
                                  exact ⟨⟨(Ch.wk (Ch.tr (Ch.tr hS51h hS240) hS247) (by decide) (by decide)), by omega, by omega, by omega, by omega, by omega, n247_2, n247_3, n247_4, (PE_new (PE.mv i51_8 (hS240.1 43 (by decide)) (hS240.2 88 (by decide))) hbr n247_6), n247_7, (n247_5.elim (fun h => Or.inl (by omega)) (fun h => Or.inr (Or.inl (by omega)))), by omega, by omega⟩, show (2 * (3020 - r247) + min 1 (max 0 (-1 - (S247.1 54 59)))).toNat < (2 * (3020 - v51_1) + min 1 (max 0 (-1 - (S51h.1 54 59)))).toNat by omega⟩
                                · unfold wX11_parse_295
                                  unfold wX11_parse_297
                                  exact ⟨⟨(Ch.wk (Ch.tr (Ch.tr hS51h hS240) hS247) (by decide) (by decide)), by omega, by omega, by omega, by omega, by omega, n247_2, n247_3, n247_4, (PE_new (PE.mv i51_8 (hS240.1 43 (by decide)) (hS240.2 88 (by decide))) hbr n247_6), n247_7, (n247_5.elim (fun h => Or.inl (by omega)) (fun h => Or.inr (Or.inl (by omega)))), by omega, by omega⟩, show (2 * (3020 - r247) + min 1 (max 0 (-1 - (S247.1 54 59)))).toNat < (2 * (3020 - v51_1) + min 1 (max 0 (-1 - (S51h.1 54 59)))).toNat by omega⟩
                              · intro q536
                                unfold wX11_parse_283
                                refine ⟨by omega, ?_⟩
                                refine ⟨fun h287 => ?_, fun h287 => ?_⟩
                                · unfold wX11_parse_295
                                  unfold wX11_parse_297
                                  exact ⟨⟨(Ch.wk (Ch.tr (Ch.tr hS51h hS240) hS247) (by decide) (by decide)), by omega, by omega, by omega, by omega, by omega, n247_2, n247_3, n247_4, (PE_last (by omega)), n247_7, (n247_5.elim (fun h => Or.inl (by omega)) (fun h => Or.inr (Or.inl (by omega)))), by omega, by omega⟩, show (2 * (3020 - r247) + min 1 (max 0 (-1 - (S247.1 54 59)))).toNat < (2 * (3020 - v51_1) + min 1 (max 0 (-1 - (S51h.1 54 59)))).toNat by omega⟩
                                · unfold wX11_parse_295
                                  unfold wX11_parse_297
                                  exact ⟨⟨(Ch.wk (Ch.tr (Ch.tr hS51h hS240) hS247) (by decide) (by decide)), by omega, by omega, by omega, by omega, by omega, n247_2, n247_3, n247_4, (PE_last (by omega)), n247_7, (n247_5.elim (fun h => Or.inl (by omega)) (fun h => Or.inr (Or.inl (by omega)))), by omega, by omega⟩, show (2 * (3020 - r247) + min 1 (max 0 (-1 - (S247.1 54 59)))).toNat < (2 * (3020 - v51_1) + min 1 (max 0 (-1 - (S51h.1 54 59)))).toNat by omega⟩
                            · unfold wX11_parse_265
                              intro q537
                              refine ⟨fun h270 => ?_, fun h270 => ?_⟩
                              · unfold wX11_parse_283
                                refine ⟨by omega, ?_⟩
                                refine ⟨fun h287 => ?_, fun h287 => ?_⟩
                                · unfold wX11_parse_295
                                  unfold wX11_parse_297
                                  exact ⟨⟨(Ch.wk (Ch.tr (Ch.tr hS51h hS240) hS247) (by decide) (by decide)), by omega, by omega, by omega, by omega, by omega, n247_2, n247_3, n247_4, (PE_new (PE.mv i51_8 (hS240.1 43 (by decide)) (hS240.2 88 (by decide))) hbr n247_6), n247_7, (n247_5.elim (fun h => Or.inl (by omega)) (fun h => Or.inr (Or.inl (by omega)))), by omega, by omega⟩, show (2 * (3020 - r247) + min 1 (max 0 (-1 - (S247.1 54 59)))).toNat < (2 * (3020 - v51_1) + min 1 (max 0 (-1 - (S51h.1 54 59)))).toNat by omega⟩
                                · unfold wX11_parse_295
                                  unfold wX11_parse_297
                                  exact ⟨⟨(Ch.wk (Ch.tr (Ch.tr hS51h hS240) hS247) (by decide) (by decide)), by omega, by omega, by omega, by omega, by omega, n247_2, n247_3, n247_4, (PE_new (PE.mv i51_8 (hS240.1 43 (by decide)) (hS240.2 88 (by decide))) hbr n247_6), n247_7, (n247_5.elim (fun h => Or.inl (by omega)) (fun h => Or.inr (Or.inl (by omega)))), by omega, by omega⟩, show (2 * (3020 - r247) + min 1 (max 0 (-1 - (S247.1 54 59)))).toNat < (2 * (3020 - v51_1) + min 1 (max 0 (-1 - (S51h.1 54 59)))).toNat by omega⟩
                              · intro q538
                                unfold wX11_parse_283
                                refine ⟨by omega, ?_⟩
                                refine ⟨fun h287 => ?_, fun h287 => ?_⟩
                                · unfold wX11_parse_295
                                  unfold wX11_parse_297
                                  exact ⟨⟨(Ch.wk (Ch.tr (Ch.tr hS51h hS240) hS247) (by decide) (by decide)), by omega, by omega, by omega, by omega, by omega, n247_2, n247_3, n247_4, (PE_last (by omega)), n247_7, (n247_5.elim (fun h => Or.inl (by omega)) (fun h => Or.inr (Or.inl (by omega)))), by omega, by omega⟩, show (2 * (3020 - r247) + min 1 (max 0 (-1 - (S247.1 54 59)))).toNat < (2 * (3020 - v51_1) + min 1 (max 0 (-1 - (S51h.1 54 59)))).toNat by omega⟩
                                · unfold wX11_parse_295
                                  unfold wX11_parse_297
                                  exact ⟨⟨(Ch.wk (Ch.tr (Ch.tr hS51h hS240) hS247) (by decide) (by decide)), by omega, by omega, by omega, by omega, by omega, n247_2, n247_3, n247_4, (PE_last (by omega)), n247_7, (n247_5.elim (fun h => Or.inl (by omega)) (fun h => Or.inr (Or.inl (by omega)))), by omega, by omega⟩, show (2 * (3020 - r247) + min 1 (max 0 (-1 - (S247.1 54 59)))).toNat < (2 * (3020 - v51_1) + min 1 (max 0 (-1 - (S51h.1 54 59)))).toNat by omega⟩
                          · refine ⟨by omega, ?_⟩
                            refine tX11_fail (by omega) (fun r232 S232 hS232 n232_0 => ?_)
                            unfold wX11_parse_297
                            have e539 : S232.1 54 43 = S51h.1 54 43 := hS232.1 43 (by decide)
                            have e540 : S232.1 54 43 = S51h.1 54 43 := hS232.1 43 (by decide)
                            exact ⟨⟨(Ch.wk (Ch.tr hS51h hS232) (by decide) (by decide)), by omega, by omega, by omega, by omega, by omega, (PA.mv3 i51_5 ((hS232).1 51 (by decide)) ((hS232).2 92 (by decide)) ((hS232).2 93 (by decide)) ((hS232).2 94 (by decide)) ((hS232).2 95 (by decide))), (PR.mv i51_6 ((hS232).1 43 (by decide)) ((hS232).1 51 (by decide)) ((hS232).2 86 (by decide)) ((hS232).2 87 (by decide)) ((hS232).2 88 (by decide)) ((hS232).2 90 (by decide)) ((hS232).2 91 (by decide))), (PO.mv i51_7 ((hS232).1 43 (by decide)) ((hS232).2 88 (by decide))), (PE.mv i51_8 ((hS232).1 43 (by decide)) ((hS232).2 88 (by decide))), (by
                                  unfold PB
                                  have e541 : S232.1 54 41 = S51h.1 54 41 := hS232.1 41 (by decide)
                                  have e542 : S51h.1 54 41 = S18.1 54 41 := hS51h.1 41 (by decide)
                                  have e543 : S18.1 54 41 = S12.1 54 41 := hS18.1 41 (by decide)
                                  have e544 : S12.1 54 41 = S7.1 54 41 := hS12.1 41 (by decide)
                                  have e545 : S7.1 54 41 = S2.1 54 41 := hS7.1 41 (by decide)
                                  have e546 : S2.1 54 41 = S.1 54 41 := hS2.1 41 (by decide)
                                  have e547 : S232.1 54 56 = S51h.1 54 56 := hS232.1 56 (by decide)
                                  have e548 : S232.1 54 51 = S51h.1 54 51 := hS232.1 51 (by decide)
                                  first
                                  | exact Or.inl (by omega)
                                  | exact (Classical.em (-1 ≤ S232.1 54 59)).elim (fun hb => Or.inl hb) (fun hb => Or.inr ⟨by omega, by omega, by omega⟩)), (by
                                  unfold P1
                                  have e549 : S232.1 54 43 = S51h.1 54 43 := hS232.1 43 (by decide)
                                  first | exact Or.inr (Or.inl (by omega)) | exact Or.inl (by omega)), by omega, by omega⟩, show (2 * (3020 - v51_1) + min 1 (max 0 (-1 - (S232.1 54 59)))).toNat < (2 * (3020 - v51_1) + min 1 (max 0 (-1 - (S51h.1 54 59)))).toNat by omega⟩
                        · refine ⟨by omega, ?_⟩
                          refine ⟨by omega, ?_⟩
                          have e550 : S51h.1 54 41 = S18.1 54 41 := hS51h.1 41 (by decide)
                          have e551 : S18.1 54 41 = S12.1 54 41 := hS18.1 41 (by decide)
                          have e552 : S12.1 54 41 = S7.1 54 41 := hS12.1 41 (by decide)
                          have e553 : S7.1 54 41 = S2.1 54 41 := hS7.1 41 (by decide)
                          have e554 : S2.1 54 41 = S.1 54 41 := hS2.1 41 (by decide)
                          have e555 : S51h.1 54 41 = S18.1 54 41 := hS51h.1 41 (by decide)
                          have e556 : S18.1 54 41 = S12.1 54 41 := hS18.1 41 (by decide)
                          have e557 : S12.1 54 41 = S7.1 54 41 := hS12.1 41 (by decide)
                          have e558 : S7.1 54 41 = S2.1 54 41 := hS7.1 41 (by decide)
                          have e559 : S2.1 54 41 = S.1 54 41 := hS2.1 41 (by decide)
                          have e560 : S51h.1 54 41 = S18.1 54 41 := hS51h.1 41 (by decide)
                          have e561 : S18.1 54 41 = S12.1 54 41 := hS18.1 41 (by decide)
                          have e562 : S12.1 54 41 = S7.1 54 41 := hS12.1 41 (by decide)
                          have e563 : S7.1 54 41 = S2.1 54 41 := hS7.1 41 (by decide)
                          have e564 : S2.1 54 41 = S.1 54 41 := hS2.1 41 (by decide)
                          refine tX11_section (by omega) (by omega) (by omega) (by omega) (by omega) (by omega) (fun r218 S218 hS218 n218_0 n218_1 n218_2 n218_3 => ?_)
                          unfold wX11_parse_297
                          have e565 : S218.1 54 43 = S51h.1 54 43 := hS218.1 43 (by decide)
                          have e566 : S218.1 54 43 = S51h.1 54 43 := hS218.1 43 (by decide)
                          exact ⟨⟨(Ch.wk (Ch.tr hS51h hS218) (by decide) (by decide)), by omega, by omega, by omega, by omega, by omega, (PA.mv3 i51_5 ((hS218).1 51 (by decide)) ((hS218).2 92 (by decide)) ((hS218).2 93 (by decide)) ((hS218).2 94 (by decide)) ((hS218).2 95 (by decide))), (PR.mv i51_6 ((hS218).1 43 (by decide)) ((hS218).1 51 (by decide)) ((hS218).2 86 (by decide)) ((hS218).2 87 (by decide)) ((hS218).2 88 (by decide)) ((hS218).2 90 (by decide)) ((hS218).2 91 (by decide))), (PO.mv i51_7 ((hS218).1 43 (by decide)) ((hS218).2 88 (by decide))), (PE.mv i51_8 ((hS218).1 43 (by decide)) ((hS218).2 88 (by decide))), (by
                                unfold PB
                                have e567 : S218.1 54 41 = S51h.1 54 41 := hS218.1 41 (by decide)
                                have e568 : S51h.1 54 41 = S18.1 54 41 := hS51h.1 41 (by decide)
                                have e569 : S18.1 54 41 = S12.1 54 41 := hS18.1 41 (by decide)
                                have e570 : S12.1 54 41 = S7.1 54 41 := hS12.1 41 (by decide)
                                have e571 : S7.1 54 41 = S2.1 54 41 := hS7.1 41 (by decide)
                                have e572 : S2.1 54 41 = S.1 54 41 := hS2.1 41 (by decide)
                                have e573 : S218.1 54 51 = S51h.1 54 51 := hS218.1 51 (by decide)
                                first
                                | exact Or.inl (by omega)
                                | exact (Classical.em (-1 ≤ S218.1 54 59)).elim (fun hb => Or.inl hb) (fun hb => Or.inr ⟨by omega, by omega, by omega⟩)), (by
                                unfold P1
                                have e574 : S218.1 54 43 = S51h.1 54 43 := hS218.1 43 (by decide)
                                first | exact Or.inr (Or.inl (by omega)) | exact Or.inl (by omega)), by omega, by omega⟩, show (2 * (3020 - r218) + min 1 (max 0 (-1 - (S218.1 54 59)))).toNat < (2 * (3020 - v51_1) + min 1 (max 0 (-1 - (S51h.1 54 59)))).toNat by omega⟩
                    · have hE2 := hE.2.resolve_left (by omega)
                      have hpr := i51_6.at (x := v51_2) (by omega) (by omega)
                      refine ⟨by omega, ?_⟩
                      have e575 : S51h.1 54 41 = S18.1 54 41 := hS51h.1 41 (by decide)
                      have e576 : S18.1 54 41 = S12.1 54 41 := hS18.1 41 (by decide)
                      have e577 : S12.1 54 41 = S7.1 54 41 := hS12.1 41 (by decide)
                      have e578 : S7.1 54 41 = S2.1 54 41 := hS7.1 41 (by decide)
                      have e579 : S2.1 54 41 = S.1 54 41 := hS2.1 41 (by decide)
                      have e580 : S51h.1 54 41 = S18.1 54 41 := hS51h.1 41 (by decide)
                      have e581 : S18.1 54 41 = S12.1 54 41 := hS18.1 41 (by decide)
                      have e582 : S12.1 54 41 = S7.1 54 41 := hS12.1 41 (by decide)
                      have e583 : S7.1 54 41 = S2.1 54 41 := hS7.1 41 (by decide)
                      have e584 : S2.1 54 41 = S.1 54 41 := hS2.1 41 (by decide)
                      have e585 : S51h.1 54 41 = S18.1 54 41 := hS51h.1 41 (by decide)
                      have e586 : S18.1 54 41 = S12.1 54 41 := hS18.1 41 (by decide)
                      have e587 : S12.1 54 41 = S7.1 54 41 := hS12.1 41 (by decide)
                      have e588 : S7.1 54 41 = S2.1 54 41 := hS7.1 41 (by decide)
                      have e589 : S2.1 54 41 = S.1 54 41 := hS2.1 41 (by decide)
                      refine tX11_endTag (by omega) (by omega) (by omega) (by omega) (by omega) (fun r170 S170 hS170 n170_0 n170_1 n170_2 => ?_)
                      refine ⟨by omega, by omega, ?_⟩
                      intro q590
                      have e591 : S170.2 88 (v51_2) = S51h.2 88 (v51_2) := congrFun (hS170.2 88 (by decide)) _
                      intro x180 hx180
                      subst hx180
                      refine ⟨fun h187 => ?_, fun h187 => ?_⟩
                      · unfold wX11_parse_195
                        unfold wX11_parse_297
                        have e592 : S170.1 54 43 = S51h.1 54 43 := hS170.1 43 (by decide)
                        have e593 : S170.1 54 43 = S51h.1 54 43 := hS170.1 43 (by decide)
                        exact ⟨⟨(Ch.wk (Ch.tr hS51h hS170) (by decide) (by decide)), by omega, by omega, by omega, by omega, by omega, (PA.mv3 i51_5 ((hS170).1 51 (by decide)) ((hS170).2 92 (by decide)) ((hS170).2 93 (by decide)) ((hS170).2 94 (by decide)) ((hS170).2 95 (by decide))), (PR.mv i51_6 ((hS170).1 43 (by decide)) ((hS170).1 51 (by decide)) ((hS170).2 86 (by decide)) ((hS170).2 87 (by decide)) ((hS170).2 88 (by decide)) ((hS170).2 90 (by decide)) ((hS170).2 91 (by decide))), (PO.mv i51_7 ((hS170).1 43 (by decide)) ((hS170).2 88 (by decide))), (by
                              rw [show S170.2 88 v51_2 = S51h.2 88 v51_2 from congrFun (hS170.2 88 (by decide)) _]
                              exact (PE_up (e := v51_2) i51_6 i51_7 (by omega) (by omega)).mv (hS170.1 43 (by decide)) (hS170.2 88 (by decide))), (by
                              unfold PB
                              have e594 : S170.1 54 41 = S51h.1 54 41 := hS170.1 41 (by decide)
                              have e595 : S51h.1 54 41 = S18.1 54 41 := hS51h.1 41 (by decide)
                              have e596 : S18.1 54 41 = S12.1 54 41 := hS18.1 41 (by decide)
                              have e597 : S12.1 54 41 = S7.1 54 41 := hS12.1 41 (by decide)
                              have e598 : S7.1 54 41 = S2.1 54 41 := hS7.1 41 (by decide)
                              have e599 : S2.1 54 41 = S.1 54 41 := hS2.1 41 (by decide)
                              have e600 : S170.1 54 56 = S51h.1 54 56 := hS170.1 56 (by decide)
                              have e601 : S170.1 54 51 = S51h.1 54 51 := hS170.1 51 (by decide)
                              first
                              | exact Or.inl (by omega)
                              | exact (Classical.em (-1 ≤ S170.1 54 59)).elim (fun hb => Or.inl hb) (fun hb => Or.inr ⟨by omega, by omega, by omega⟩)), (by
                              unfold P1
                              have e602 : S170.1 54 43 = S51h.1 54 43 := hS170.1 43 (by decide)
                              first | exact Or.inr (Or.inl (by omega)) | exact Or.inl (by omega)), by omega, by omega⟩, show (2 * (3020 - r170) + min 1 (max 0 (-1 - (S170.1 54 59)))).toNat < (2 * (3020 - v51_1) + min 1 (max 0 (-1 - (S51h.1 54 59)))).toNat by omega⟩
                      · unfold wX11_parse_195
                        unfold wX11_parse_297
                        have e603 : S170.1 54 43 = S51h.1 54 43 := hS170.1 43 (by decide)
                        have e604 : S170.1 54 43 = S51h.1 54 43 := hS170.1 43 (by decide)
                        exact ⟨⟨(Ch.wk (Ch.tr hS51h hS170) (by decide) (by decide)), by omega, by omega, by omega, by omega, by omega, (PA.mv3 i51_5 ((hS170).1 51 (by decide)) ((hS170).2 92 (by decide)) ((hS170).2 93 (by decide)) ((hS170).2 94 (by decide)) ((hS170).2 95 (by decide))), (PR.mv i51_6 ((hS170).1 43 (by decide)) ((hS170).1 51 (by decide)) ((hS170).2 86 (by decide)) ((hS170).2 87 (by decide)) ((hS170).2 88 (by decide)) ((hS170).2 90 (by decide)) ((hS170).2 91 (by decide))), (PO.mv i51_7 ((hS170).1 43 (by decide)) ((hS170).2 88 (by decide))), (by
                              rw [show S170.2 88 v51_2 = S51h.2 88 v51_2 from congrFun (hS170.2 88 (by decide)) _]
                              exact (PE_up (e := v51_2) i51_6 i51_7 (by omega) (by omega)).mv (hS170.1 43 (by decide)) (hS170.2 88 (by decide))), (by
                              unfold PB
                              have e605 : S170.1 54 41 = S51h.1 54 41 := hS170.1 41 (by decide)
                              have e606 : S51h.1 54 41 = S18.1 54 41 := hS51h.1 41 (by decide)
                              have e607 : S18.1 54 41 = S12.1 54 41 := hS18.1 41 (by decide)
                              have e608 : S12.1 54 41 = S7.1 54 41 := hS12.1 41 (by decide)
                              have e609 : S7.1 54 41 = S2.1 54 41 := hS7.1 41 (by decide)
                              have e610 : S2.1 54 41 = S.1 54 41 := hS2.1 41 (by decide)
                              have e611 : S170.1 54 56 = S51h.1 54 56 := hS170.1 56 (by decide)
                              have e612 : S170.1 54 51 = S51h.1 54 51 := hS170.1 51 (by decide)
                              first
                              | exact Or.inl (by omega)
                              | exact (Classical.em (-1 ≤ S170.1 54 59)).elim (fun hb => Or.inl hb) (fun hb => Or.inr ⟨by omega, by omega, by omega⟩)), (by
                              unfold P1
                              have e613 : S170.1 54 43 = S51h.1 54 43 := hS170.1 43 (by decide)
                              first | exact Or.inr (Or.inl (by omega)) | exact Or.inl (by omega)), by omega, by omega⟩, show (2 * (3020 - r170) + min 1 (max 0 (-1 - (S170.1 54 59)))).toNat < (2 * (3020 - v51_1) + min 1 (max 0 (-1 - (S51h.1 54 59)))).toNat by omega⟩
                · refine ⟨by omega, ?_⟩
                  refine tX11_keep (by omega) (by omega) (fun r145 S145 hS145 n145_0 => ?_)
                  unfold wX11_parse_297
                  have e614 : S145.1 54 43 = S51h.1 54 43 := hS145.1 43 (by decide)
                  have e615 : S145.1 54 43 = S51h.1 54 43 := hS145.1 43 (by decide)
                  have e616 : S145.1 54 59 = S51h.1 54 59 := hS145.1 59 (by decide)
                  have e617 : S145.1 54 59 = S51h.1 54 59 := hS145.1 59 (by decide)
                  exact ⟨⟨(Ch.wk (Ch.tr hS51h hS145) (by decide) (by decide)), by omega, by omega, by omega, by omega, by omega, (PA.mv3 i51_5 ((hS145).1 51 (by decide)) ((hS145).2 92 (by decide)) ((hS145).2 93 (by decide)) ((hS145).2 94 (by decide)) ((hS145).2 95 (by decide))), (PR.mv i51_6 ((hS145).1 43 (by decide)) ((hS145).1 51 (by decide)) ((hS145).2 86 (by decide)) ((hS145).2 87 (by decide)) ((hS145).2 88 (by decide)) ((hS145).2 90 (by decide)) ((hS145).2 91 (by decide))), (PO.mv i51_7 ((hS145).1 43 (by decide)) ((hS145).2 88 (by decide))), (PE.mv i51_8 ((hS145).1 43 (by decide)) ((hS145).2 88 (by decide))), (by
                        unfold PB
                        have e618 : S145.1 54 59 = S51h.1 54 59 := hS145.1 59 (by decide)
                        have e619 : S145.1 54 41 = S51h.1 54 41 := hS145.1 41 (by decide)
                        have e620 : S51h.1 54 41 = S18.1 54 41 := hS51h.1 41 (by decide)
                        have e621 : S18.1 54 41 = S12.1 54 41 := hS18.1 41 (by decide)
                        have e622 : S12.1 54 41 = S7.1 54 41 := hS12.1 41 (by decide)
                        have e623 : S7.1 54 41 = S2.1 54 41 := hS7.1 41 (by decide)
                        have e624 : S2.1 54 41 = S.1 54 41 := hS2.1 41 (by decide)
                        have e625 : S145.1 54 51 = S51h.1 54 51 := hS145.1 51 (by decide)
                        first
                        | exact Or.inl (by omega)
                        | exact (Classical.em (-1 ≤ S145.1 54 59)).elim (fun hb => Or.inl hb) (fun hb => Or.inr ⟨by omega, by omega, by omega⟩)), (by
                        unfold P1
                        have e626 : S145.1 54 43 = S51h.1 54 43 := hS145.1 43 (by decide)
                        have e627 : S145.1 54 59 = S51h.1 54 59 := hS145.1 59 (by decide)
                        first | exact Or.inr (Or.inl (by omega)) | exact Or.inl (by omega)), by omega, by omega⟩, show (2 * (3020 - ((v51_1 + 1))) + min 1 (max 0 (-1 - (S145.1 54 59)))).toNat < (2 * (3020 - v51_1) + min 1 (max 0 (-1 - (S51h.1 54 59)))).toNat by omega⟩
              · refine ⟨by omega, ?_⟩
                refine ⟨by omega, ?_⟩
                have e628 : S51h.1 54 41 = S18.1 54 41 := hS51h.1 41 (by decide)
                have e629 : S18.1 54 41 = S12.1 54 41 := hS18.1 41 (by decide)
                have e630 : S12.1 54 41 = S7.1 54 41 := hS12.1 41 (by decide)
                have e631 : S7.1 54 41 = S2.1 54 41 := hS7.1 41 (by decide)
                have e632 : S2.1 54 41 = S.1 54 41 := hS2.1 41 (by decide)
                have e633 : S51h.1 54 41 = S18.1 54 41 := hS51h.1 41 (by decide)
                have e634 : S18.1 54 41 = S12.1 54 41 := hS18.1 41 (by decide)
                have e635 : S12.1 54 41 = S7.1 54 41 := hS12.1 41 (by decide)
                have e636 : S7.1 54 41 = S2.1 54 41 := hS7.1 41 (by decide)
                have e637 : S2.1 54 41 = S.1 54 41 := hS2.1 41 (by decide)
                have e638 : S51h.1 54 41 = S18.1 54 41 := hS51h.1 41 (by decide)
                have e639 : S18.1 54 41 = S12.1 54 41 := hS18.1 41 (by decide)
                have e640 : S12.1 54 41 = S7.1 54 41 := hS12.1 41 (by decide)
                have e641 : S7.1 54 41 = S2.1 54 41 := hS7.1 41 (by decide)
                have e642 : S2.1 54 41 = S.1 54 41 := hS2.1 41 (by decide)
                refine tX11_reference (by omega) (by omega) (by omega) (by omega) (by omega) (fun r127 S127 hS127 n127_0 n127_1 n127_2 n127_3 => ?_)
                unfold wX11_parse_297
                have e643 : S127.1 54 43 = S51h.1 54 43 := hS127.1 43 (by decide)
                have e644 : S127.1 54 43 = S51h.1 54 43 := hS127.1 43 (by decide)
                exact ⟨⟨(Ch.wk (Ch.tr hS51h hS127) (by decide) (by decide)), by omega, by omega, by omega, by omega, by omega, (PA.mv3 i51_5 ((hS127).1 51 (by decide)) ((hS127).2 92 (by decide)) ((hS127).2 93 (by decide)) ((hS127).2 94 (by decide)) ((hS127).2 95 (by decide))), (PR.mv i51_6 ((hS127).1 43 (by decide)) ((hS127).1 51 (by decide)) ((hS127).2 86 (by decide)) ((hS127).2 87 (by decide)) ((hS127).2 88 (by decide)) ((hS127).2 90 (by decide)) ((hS127).2 91 (by decide))), (PO.mv i51_7 ((hS127).1 43 (by decide)) ((hS127).2 88 (by decide))), (PE.mv i51_8 ((hS127).1 43 (by decide)) ((hS127).2 88 (by decide))), (by
                      unfold PB
                      have e645 : S127.1 54 41 = S51h.1 54 41 := hS127.1 41 (by decide)
                      have e646 : S51h.1 54 41 = S18.1 54 41 := hS51h.1 41 (by decide)
                      have e647 : S18.1 54 41 = S12.1 54 41 := hS18.1 41 (by decide)
                      have e648 : S12.1 54 41 = S7.1 54 41 := hS12.1 41 (by decide)
                      have e649 : S7.1 54 41 = S2.1 54 41 := hS7.1 41 (by decide)
                      have e650 : S2.1 54 41 = S.1 54 41 := hS2.1 41 (by decide)
                      have e651 : S127.1 54 51 = S51h.1 54 51 := hS127.1 51 (by decide)
                      first
                      | exact Or.inl (by omega)
                      | exact (Classical.em (-1 ≤ S127.1 54 59)).elim (fun hb => Or.inl hb) (fun hb => Or.inr ⟨by omega, by omega, by omega⟩)), (by
                      unfold P1
                      have e652 : S127.1 54 43 = S51h.1 54 43 := hS127.1 43 (by decide)
                      first | exact Or.inr (Or.inl (by omega)) | exact Or.inl (by omega)), by omega, by omega⟩, show (2 * (3020 - r127) + min 1 (max 0 (-1 - (S127.1 54 59)))).toNat < (2 * (3020 - v51_1) + min 1 (max 0 (-1 - (S51h.1 54 59)))).toNat by omega⟩
            · refine ⟨by omega, ?_⟩
              refine tX11_fail (by omega) (fun r111 S111 hS111 n111_0 => ?_)
              unfold wX11_parse_297
              have e653 : S111.1 54 43 = S51h.1 54 43 := hS111.1 43 (by decide)
              have e654 : S111.1 54 43 = S51h.1 54 43 := hS111.1 43 (by decide)
              exact ⟨⟨(Ch.wk (Ch.tr hS51h hS111) (by decide) (by decide)), by omega, by omega, by omega, by omega, by omega, (PA.mv3 i51_5 ((hS111).1 51 (by decide)) ((hS111).2 92 (by decide)) ((hS111).2 93 (by decide)) ((hS111).2 94 (by decide)) ((hS111).2 95 (by decide))), (PR.mv i51_6 ((hS111).1 43 (by decide)) ((hS111).1 51 (by decide)) ((hS111).2 86 (by decide)) ((hS111).2 87 (by decide)) ((hS111).2 88 (by decide)) ((hS111).2 90 (by decide)) ((hS111).2 91 (by decide))), (PO.mv i51_7 ((hS111).1 43 (by decide)) ((hS111).2 88 (by decide))), (PE.mv i51_8 ((hS111).1 43 (by decide)) ((hS111).2 88 (by decide))), (by
                    unfold PB
                    have e655 : S111.1 54 41 = S51h.1 54 41 := hS111.1 41 (by decide)
                    have e656 : S51h.1 54 41 = S18.1 54 41 := hS51h.1 41 (by decide)
                    have e657 : S18.1 54 41 = S12.1 54 41 := hS18.1 41 (by decide)
                    have e658 : S12.1 54 41 = S7.1 54 41 := hS12.1 41 (by decide)
                    have e659 : S7.1 54 41 = S2.1 54 41 := hS7.1 41 (by decide)
                    have e660 : S2.1 54 41 = S.1 54 41 := hS2.1 41 (by decide)
                    have e661 : S111.1 54 56 = S51h.1 54 56 := hS111.1 56 (by decide)
                    have e662 : S111.1 54 51 = S51h.1 54 51 := hS111.1 51 (by decide)
                    first
                    | exact Or.inl (by omega)
                    | exact (Classical.em (-1 ≤ S111.1 54 59)).elim (fun hb => Or.inl hb) (fun hb => Or.inr ⟨by omega, by omega, by omega⟩)), (by
                    unfold P1
                    have e663 : S111.1 54 43 = S51h.1 54 43 := hS111.1 43 (by decide)
                    first | exact Or.inr (Or.inl (by omega)) | exact Or.inl (by omega)), by omega, by omega⟩, show (2 * (3020 - v51_1) + min 1 (max 0 (-1 - (S111.1 54 59)))).toNat < (2 * (3020 - v51_1) + min 1 (max 0 (-1 - (S51h.1 54 59)))).toNat by omega⟩
          · unfold wX11_parse_97
            unfold wX11_parse_102
            refine ⟨by omega, ?_⟩
            refine ⟨fun h106 => ?_, fun h106 => ?_⟩
            · refine ⟨fun h121 => ?_, fun h121 => ?_⟩
              · refine ⟨fun h138 => ?_, fun h138 => ?_⟩
                · refine ⟨by omega, ?_⟩
                  refine ⟨fun h158 => ?_, fun h158 => ?_⟩
                  · unfold wX11_parse_200
                    refine ⟨by omega, ?_⟩
                    refine ⟨fun h204 => ?_, fun h204 => ?_⟩
                    · unfold wX11_parse_225
                      refine ⟨by omega, ?_⟩
                      refine ⟨fun h227 => ?_, fun h227 => ?_⟩
                      · intro S240 hS240e
                        have hS240 : Ch [60] [] S51h S240 := Ch_I hS240e
                        have hS240v : S240.1 54 60 = 0 := pI_at hS240e
                        refine ⟨by omega, ?_⟩
                        refine ⟨by omega, ?_⟩
                        refine ⟨by omega, ?_⟩
                        have e664 : S240.1 54 41 = S51h.1 54 41 := hS240.1 41 (by decide)
                        have e665 : S51h.1 54 41 = S18.1 54 41 := hS51h.1 41 (by decide)
                        have e666 : S18.1 54 41 = S12.1 54 41 := hS18.1 41 (by decide)
                        have e667 : S12.1 54 41 = S7.1 54 41 := hS12.1 41 (by decide)
                        have e668 : S7.1 54 41 = S2.1 54 41 := hS7.1 41 (by decide)
                        have e669 : S2.1 54 41 = S.1 54 41 := hS2.1 41 (by decide)
                        have e670 : S240.1 54 41 = S51h.1 54 41 := hS240.1 41 (by decide)
                        have e671 : S51h.1 54 41 = S18.1 54 41 := hS51h.1 41 (by decide)
                        have e672 : S18.1 54 41 = S12.1 54 41 := hS18.1 41 (by decide)
                        have e673 : S12.1 54 41 = S7.1 54 41 := hS12.1 41 (by decide)
                        have e674 : S7.1 54 41 = S2.1 54 41 := hS7.1 41 (by decide)
                        have e675 : S2.1 54 41 = S.1 54 41 := hS2.1 41 (by decide)
                        have e676 : S240.1 54 56 = S51h.1 54 56 := hS240.1 56 (by decide)
                        have e677 : S240.1 54 51 = S51h.1 54 51 := hS240.1 51 (by decide)
                        have e678 : S240.1 54 43 = S51h.1 54 43 := hS240.1 43 (by decide)
                        have e679 : S240.1 54 43 = S51h.1 54 43 := hS240.1 43 (by decide)
                        refine tX11_beginTag (by omega) (by omega) (by omega) (by omega) (by omega) (by omega) (PA.mv2 i51_5 ((hS240).1 51 (by decide)) ((hS240).1 56 (by decide)) ((hS240).2 92 (by decide)) ((hS240).2 93 (by decide)) ((hS240).2 94 (by decide)) ((hS240).2 95 (by decide))) (PR.mv i51_6 ((hS240).1 43 (by decide)) ((hS240).1 51 (by decide)) ((hS240).2 86 (by decide)) ((hS240).2 87 (by decide)) ((hS240).2 88 (by decide)) ((hS240).2 90 (by decide)) ((hS240).2 91 (by decide))) (PO.mv i51_7 ((hS240).1 43 (by decide)) ((hS240).2 88 (by decide))) (PE.mv i51_8 ((hS240).1 43 (by decide)) ((hS240).2 88 (by decide))) (by omega) (fun r247 S247 hS247 n247_0 n247_1 n247_2 n247_3 n247_4 n247_5 n247_6 n247_7 => ?_)
                        have hbr : (S247.1 54 43 = S240.1 54 43 + 1 ∧ S247.2 88 (S240.1 54 43) = v51_2) ∨ S247.1 54 43 = S240.1 54 43 := by
                          rcases n247_5 with h | h
                          · exact Or.inl h
                          · exact Or.inr h.1
                        intro q680
                        refine ⟨fun h255 => ?_, fun h255 => ?_⟩
                        · unfold wX11_parse_265
                          intro q681
                          refine ⟨fun h270 => ?_, fun h270 => ?_⟩
                          · unfold wX11_parse_283
                            refine ⟨by omega, ?_⟩
                            refine ⟨fun h287 => ?_, fun h287 => ?_⟩
                            · unfold wX11_parse_295
                              unfold wX11_parse_297
                              exact ⟨⟨(Ch.wk (Ch.tr (Ch.tr hS51h hS240) hS247) (by decide) (by decide)), by omega, by omega, by omega, by omega, by omega, n247_2, n247_3, n247_4, (PE_new (PE.mv i51_8 (hS240.1 43 (by decide)) (hS240.2 88 (by decide))) hbr n247_6), n247_7, (n247_5.elim (fun h => Or.inl (by omega)) (fun h => Or.inr (Or.inl (by omega)))), by omega, by omega⟩, show (2 * (3020 - r247) + min 1 (max 0 (-1 - (S247.1 54 59)))).toNat < (2 * (3020 - v51_1) + min 1 (max 0 (-1 - (S51h.1 54 59)))).toNat by omega⟩
                            · unfold wX11_parse_295
                              unfold wX11_parse_297
                              exact ⟨⟨(Ch.wk (Ch.tr (Ch.tr hS51h hS240) hS247) (by decide) (by decide)), by omega, by omega, by omega, by omega, by omega, n247_2, n247_3, n247_4, (PE_new (PE.mv i51_8 (hS240.1 43 (by decide)) (hS240.2 88 (by decide))) hbr n247_6), n247_7, (n247_5.elim (fun h => Or.inl (by omega)) (fun h => Or.inr (Or.inl (by omega)))), by omega, by omega⟩, show (2 * (3020 - r247) + min 1 (max 0 (-1 - (S247.1 54 59)))).toNat < (2 * (3020 - v51_1) + min 1 (max 0 (-1 - (S51h.1 54 59)))).toNat by omega⟩
                          · intro q682
                            unfold wX11_parse_283
                            refine ⟨by omega, ?_⟩
                            refine ⟨fun h287 => ?_, fun h287 => ?_⟩
                            · unfold wX11_parse_295
                              unfold wX11_parse_297
                              exact ⟨⟨(Ch.wk (Ch.tr (Ch.tr hS51h hS240) hS247) (by decide) (by decide)), by omega, by omega, by omega, by omega, by omega, n247_2, n247_3, n247_4, (PE_last (by omega)), n247_7, (n247_5.elim (fun h => Or.inl (by omega)) (fun h => Or.inr (Or.inl (by omega)))), by omega, by omega⟩, show (2 * (3020 - r247) + min 1 (max 0 (-1 - (S247.1 54 59)))).toNat < (2 * (3020 - v51_1) + min 1 (max 0 (-1 - (S51h.1 54 59)))).toNat by omega⟩
                            · unfold wX11_parse_295
                              unfold wX11_parse_297
                              exact ⟨⟨(Ch.wk (Ch.tr (Ch.tr hS51h hS240) hS247) (by decide) (by decide)), by omega, by omega, by omega, by omega, by omega, n247_2, n247_3, n247_4, (PE_last (by omega)), n247_7, (n247_5.elim (fun h => Or.inl (by omega)) (fun h => Or.inr (Or.inl (by omega)))), by omega, by omega⟩, show (2 * (3020 - r247) + min 1 (max 0 (-1 - (S247.1 54 59)))).toNat < (2 * (3020 - v51_1) + min 1 (max 0 (-1 - (S51h.1 54 59)))).toNat by omega⟩
                        · unfold wX11_parse_265
                          intro q683
                          refine ⟨fun h270 => ?_, fun h270 => ?_⟩
                          · unfold wX11_parse_283
                            refine ⟨by omega, ?_⟩
                            refine ⟨fun h287 => ?_, fun h287 => ?_⟩
                            · unfold wX11_parse_295
                              unfold wX11_parse_297
                              exact ⟨⟨(Ch.wk (Ch.tr (Ch.tr hS51h hS240) hS247) (by decide) (by decide)), by omega, by omega, by omega, by omega, by omega, n247_2, n247_3, n247_4, (PE_new (PE.mv i51_8 (hS240.1 43 (by decide)) (hS240.2 88 (by decide))) hbr n247_6), n247_7, (n247_5.elim (fun h => Or.inl (by omega)) (fun h => Or.inr (Or.inl (by omega)))), by omega, by omega⟩, show (2 * (3020 - r247) + min 1 (max 0 (-1 - (S247.1 54 59)))).toNat < (2 * (3020 - v51_1) + min 1 (max 0 (-1 - (S51h.1 54 59)))).toNat by omega⟩
                            · unfold wX11_parse_295
                              unfold wX11_parse_297
                              exact ⟨⟨(Ch.wk (Ch.tr (Ch.tr hS51h hS240) hS247) (by decide) (by decide)), by omega, by omega, by omega, by omega, by omega, n247_2, n247_3, n247_4, (PE_new (PE.mv i51_8 (hS240.1 43 (by decide)) (hS240.2 88 (by decide))) hbr n247_6), n247_7, (n247_5.elim (fun h => Or.inl (by omega)) (fun h => Or.inr (Or.inl (by omega)))), by omega, by omega⟩, show (2 * (3020 - r247) + min 1 (max 0 (-1 - (S247.1 54 59)))).toNat < (2 * (3020 - v51_1) + min 1 (max 0 (-1 - (S51h.1 54 59)))).toNat by omega⟩
                          · intro q684
                            unfold wX11_parse_283
                            refine ⟨by omega, ?_⟩
                            refine ⟨fun h287 => ?_, fun h287 => ?_⟩
                            · unfold wX11_parse_295
                              unfold wX11_parse_297
                              exact ⟨⟨(Ch.wk (Ch.tr (Ch.tr hS51h hS240) hS247) (by decide) (by decide)), by omega, by omega, by omega, by omega, by omega, n247_2, n247_3, n247_4, (PE_last (by omega)), n247_7, (n247_5.elim (fun h => Or.inl (by omega)) (fun h => Or.inr (Or.inl (by omega)))), by omega, by omega⟩, show (2 * (3020 - r247) + min 1 (max 0 (-1 - (S247.1 54 59)))).toNat < (2 * (3020 - v51_1) + min 1 (max 0 (-1 - (S51h.1 54 59)))).toNat by omega⟩
                            · unfold wX11_parse_295
                              unfold wX11_parse_297
                              exact ⟨⟨(Ch.wk (Ch.tr (Ch.tr hS51h hS240) hS247) (by decide) (by decide)), by omega, by omega, by omega, by omega, by omega, n247_2, n247_3, n247_4, (PE_last (by omega)), n247_7, (n247_5.elim (fun h => Or.inl (by omega)) (fun h => Or.inr (Or.inl (by omega)))), by omega, by omega⟩, show (2 * (3020 - r247) + min 1 (max 0 (-1 - (S247.1 54 59)))).toNat < (2 * (3020 - v51_1) + min 1 (max 0 (-1 - (S51h.1 54 59)))).toNat by omega⟩
                      · refine ⟨by omega, ?_⟩
                        refine tX11_fail (by omega) (fun r232 S232 hS232 n232_0 => ?_)
                        unfold wX11_parse_297
                        have e685 : S232.1 54 43 = S51h.1 54 43 := hS232.1 43 (by decide)
                        have e686 : S232.1 54 43 = S51h.1 54 43 := hS232.1 43 (by decide)
                        exact ⟨⟨(Ch.wk (Ch.tr hS51h hS232) (by decide) (by decide)), by omega, by omega, by omega, by omega, by omega, (PA.mv3 i51_5 ((hS232).1 51 (by decide)) ((hS232).2 92 (by decide)) ((hS232).2 93 (by decide)) ((hS232).2 94 (by decide)) ((hS232).2 95 (by decide))), (PR.mv i51_6 ((hS232).1 43 (by decide)) ((hS232).1 51 (by decide)) ((hS232).2 86 (by decide)) ((hS232).2 87 (by decide)) ((hS232).2 88 (by decide)) ((hS232).2 90 (by decide)) ((hS232).2 91 (by decide))), (PO.mv i51_7 ((hS232).1 43 (by decide)) ((hS232).2 88 (by decide))), (PE.mv i51_8 ((hS232).1 43 (by decide)) ((hS232).2 88 (by decide))), (by
                              unfold PB
                              have e687 : S232.1 54 41 = S51h.1 54 41 := hS232.1 41 (by decide)
                              have e688 : S51h.1 54 41 = S18.1 54 41 := hS51h.1 41 (by decide)
                              have e689 : S18.1 54 41 = S12.1 54 41 := hS18.1 41 (by decide)
                              have e690 : S12.1 54 41 = S7.1 54 41 := hS12.1 41 (by decide)
                              have e691 : S7.1 54 41 = S2.1 54 41 := hS7.1 41 (by decide)
                              have e692 : S2.1 54 41 = S.1 54 41 := hS2.1 41 (by decide)
                              have e693 : S232.1 54 56 = S51h.1 54 56 := hS232.1 56 (by decide)
                              have e694 : S232.1 54 51 = S51h.1 54 51 := hS232.1 51 (by decide)
                              first
                              | exact Or.inl (by omega)
                              | exact (Classical.em (-1 ≤ S232.1 54 59)).elim (fun hb => Or.inl hb) (fun hb => Or.inr ⟨by omega, by omega, by omega⟩)), (by
                              unfold P1
                              have e695 : S232.1 54 43 = S51h.1 54 43 := hS232.1 43 (by decide)
                              first | exact Or.inr (Or.inl (by omega)) | exact Or.inl (by omega)), by omega, by omega⟩, show (2 * (3020 - v51_1) + min 1 (max 0 (-1 - (S232.1 54 59)))).toNat < (2 * (3020 - v51_1) + min 1 (max 0 (-1 - (S51h.1 54 59)))).toNat by omega⟩
                    · refine ⟨by omega, ?_⟩
                      refine ⟨fun h210 => ?_, fun h210 => ?_⟩
                      · unfold wX11_parse_225
                        refine ⟨by omega, ?_⟩
                        refine ⟨fun h227 => ?_, fun h227 => ?_⟩
                        · intro S240 hS240e
                          have hS240 : Ch [60] [] S51h S240 := Ch_I hS240e
                          have hS240v : S240.1 54 60 = 0 := pI_at hS240e
                          refine ⟨by omega, ?_⟩
                          refine ⟨by omega, ?_⟩
                          refine ⟨by omega, ?_⟩
                          have e696 : S240.1 54 41 = S51h.1 54 41 := hS240.1 41 (by decide)
                          have e697 : S51h.1 54 41 = S18.1 54 41 := hS51h.1 41 (by decide)
                          have e698 : S18.1 54 41 = S12.1 54 41 := hS18.1 41 (by decide)
                          have e699 : S12.1 54 41 = S7.1 54 41 := hS12.1 41 (by decide)
                          have e700 : S7.1 54 41 = S2.1 54 41 := hS7.1 41 (by decide)
                          have e701 : S2.1 54 41 = S.1 54 41 := hS2.1 41 (by decide)
                          have e702 : S240.1 54 41 = S51h.1 54 41 := hS240.1 41 (by decide)
                          have e703 : S51h.1 54 41 = S18.1 54 41 := hS51h.1 41 (by decide)
                          have e704 : S18.1 54 41 = S12.1 54 41 := hS18.1 41 (by decide)
                          have e705 : S12.1 54 41 = S7.1 54 41 := hS12.1 41 (by decide)
                          have e706 : S7.1 54 41 = S2.1 54 41 := hS7.1 41 (by decide)
                          have e707 : S2.1 54 41 = S.1 54 41 := hS2.1 41 (by decide)
                          have e708 : S240.1 54 56 = S51h.1 54 56 := hS240.1 56 (by decide)
                          have e709 : S240.1 54 51 = S51h.1 54 51 := hS240.1 51 (by decide)
                          have e710 : S240.1 54 43 = S51h.1 54 43 := hS240.1 43 (by decide)
                          have e711 : S240.1 54 43 = S51h.1 54 43 := hS240.1 43 (by decide)
                          refine tX11_beginTag (by omega) (by omega) (by omega) (by omega) (by omega) (by omega) (PA.mv2 i51_5 ((hS240).1 51 (by decide)) ((hS240).1 56 (by decide)) ((hS240).2 92 (by decide)) ((hS240).2 93 (by decide)) ((hS240).2 94 (by decide)) ((hS240).2 95 (by decide))) (PR.mv i51_6 ((hS240).1 43 (by decide)) ((hS240).1 51 (by decide)) ((hS240).2 86 (by decide)) ((hS240).2 87 (by decide)) ((hS240).2 88 (by decide)) ((hS240).2 90 (by decide)) ((hS240).2 91 (by decide))) (PO.mv i51_7 ((hS240).1 43 (by decide)) ((hS240).2 88 (by decide))) (PE.mv i51_8 ((hS240).1 43 (by decide)) ((hS240).2 88 (by decide))) (by omega) (fun r247 S247 hS247 n247_0 n247_1 n247_2 n247_3 n247_4 n247_5 n247_6 n247_7 => ?_)
                          have hbr : (S247.1 54 43 = S240.1 54 43 + 1 ∧ S247.2 88 (S240.1 54 43) = v51_2) ∨ S247.1 54 43 = S240.1 54 43 := by
                            rcases n247_5 with h | h
                            · exact Or.inl h
                            · exact Or.inr h.1
                          intro q712
                          refine ⟨fun h255 => ?_, fun h255 => ?_⟩
                          · unfold wX11_parse_265
                            intro q713
                            refine ⟨fun h270 => ?_, fun h270 => ?_⟩
                            · unfold wX11_parse_283
                              refine ⟨by omega, ?_⟩
                              refine ⟨fun h287 => ?_, fun h287 => ?_⟩
                              · unfold wX11_parse_295
                                unfold wX11_parse_297
                                exact ⟨⟨(Ch.wk (Ch.tr (Ch.tr hS51h hS240) hS247) (by decide) (by decide)), by omega, by omega, by omega, by omega, by omega, n247_2, n247_3, n247_4, (PE_new (PE.mv i51_8 (hS240.1 43 (by decide)) (hS240.2 88 (by decide))) hbr n247_6), n247_7, (n247_5.elim (fun h => Or.inl (by omega)) (fun h => Or.inr (Or.inl (by omega)))), by omega, by omega⟩, show (2 * (3020 - r247) + min 1 (max 0 (-1 - (S247.1 54 59)))).toNat < (2 * (3020 - v51_1) + min 1 (max 0 (-1 - (S51h.1 54 59)))).toNat by omega⟩
                              · unfold wX11_parse_295
                                unfold wX11_parse_297
                                exact ⟨⟨(Ch.wk (Ch.tr (Ch.tr hS51h hS240) hS247) (by decide) (by decide)), by omega, by omega, by omega, by omega, by omega, n247_2, n247_3, n247_4, (PE_new (PE.mv i51_8 (hS240.1 43 (by decide)) (hS240.2 88 (by decide))) hbr n247_6), n247_7, (n247_5.elim (fun h => Or.inl (by omega)) (fun h => Or.inr (Or.inl (by omega)))), by omega, by omega⟩, show (2 * (3020 - r247) + min 1 (max 0 (-1 - (S247.1 54 59)))).toNat < (2 * (3020 - v51_1) + min 1 (max 0 (-1 - (S51h.1 54 59)))).toNat by omega⟩
                            · intro q714
                              unfold wX11_parse_283
                              refine ⟨by omega, ?_⟩
                              refine ⟨fun h287 => ?_, fun h287 => ?_⟩
                              · unfold wX11_parse_295
                                unfold wX11_parse_297
                                exact ⟨⟨(Ch.wk (Ch.tr (Ch.tr hS51h hS240) hS247) (by decide) (by decide)), by omega, by omega, by omega, by omega, by omega, n247_2, n247_3, n247_4, (PE_last (by omega)), n247_7, (n247_5.elim (fun h => Or.inl (by omega)) (fun h => Or.inr (Or.inl (by omega)))), by omega, by omega⟩, show (2 * (3020 - r247) + min 1 (max 0 (-1 - (S247.1 54 59)))).toNat < (2 * (3020 - v51_1) + min 1 (max 0 (-1 - (S51h.1 54 59)))).toNat by omega⟩
                              · unfold wX11_parse_295
                                unfold wX11_parse_297
                                exact ⟨⟨(Ch.wk (Ch.tr (Ch.tr hS51h hS240) hS247) (by decide) (by decide)), by omega, by omega, by omega, by omega, by omega, n247_2, n247_3, n247_4, (PE_last (by omega)), n247_7, (n247_5.elim (fun h => Or.inl (by omega)) (fun h => Or.inr (Or.inl (by omega)))), by omega, by omega⟩, show (2 * (3020 - r247) + min 1 (max 0 (-1 - (S247.1 54 59)))).toNat < (2 * (3020 - v51_1) + min 1 (max 0 (-1 - (S51h.1 54 59)))).toNat by omega⟩
                          · unfold wX11_parse_265
                            intro q715
                            refine ⟨fun h270 => ?_, fun h270 => ?_⟩
                            · unfold wX11_parse_283
                              refine ⟨by omega, ?_⟩
                              refine ⟨fun h287 => ?_, fun h287 => ?_⟩
                              · unfold wX11_parse_295
                                unfold wX11_parse_297
                                exact ⟨⟨(Ch.wk (Ch.tr (Ch.tr hS51h hS240) hS247) (by decide) (by decide)), by omega, by omega, by omega, by omega, by omega, n247_2, n247_3, n247_4, (PE_new (PE.mv i51_8 (hS240.1 43 (by decide)) (hS240.2 88 (by decide))) hbr n247_6), n247_7, (n247_5.elim (fun h => Or.inl (by omega)) (fun h => Or.inr (Or.inl (by omega)))), by omega, by omega⟩, show (2 * (3020 - r247) + min 1 (max 0 (-1 - (S247.1 54 59)))).toNat < (2 * (3020 - v51_1) + min 1 (max 0 (-1 - (S51h.1 54 59)))).toNat by omega⟩
                              · unfold wX11_parse_295
                                unfold wX11_parse_297
                                exact ⟨⟨(Ch.wk (Ch.tr (Ch.tr hS51h hS240) hS247) (by decide) (by decide)), by omega, by omega, by omega, by omega, by omega, n247_2, n247_3, n247_4, (PE_new (PE.mv i51_8 (hS240.1 43 (by decide)) (hS240.2 88 (by decide))) hbr n247_6), n247_7, (n247_5.elim (fun h => Or.inl (by omega)) (fun h => Or.inr (Or.inl (by omega)))), by omega, by omega⟩, show (2 * (3020 - r247) + min 1 (max 0 (-1 - (S247.1 54 59)))).toNat < (2 * (3020 - v51_1) + min 1 (max 0 (-1 - (S51h.1 54 59)))).toNat by omega⟩
                            · intro q716
                              unfold wX11_parse_283
                              refine ⟨by omega, ?_⟩
                              refine ⟨fun h287 => ?_, fun h287 => ?_⟩
                              · unfold wX11_parse_295
                                unfold wX11_parse_297
                                exact ⟨⟨(Ch.wk (Ch.tr (Ch.tr hS51h hS240) hS247) (by decide) (by decide)), by omega, by omega, by omega, by omega, by omega, n247_2, n247_3, n247_4, (PE_last (by omega)), n247_7, (n247_5.elim (fun h => Or.inl (by omega)) (fun h => Or.inr (Or.inl (by omega)))), by omega, by omega⟩, show (2 * (3020 - r247) + min 1 (max 0 (-1 - (S247.1 54 59)))).toNat < (2 * (3020 - v51_1) + min 1 (max 0 (-1 - (S51h.1 54 59)))).toNat by omega⟩
                              · unfold wX11_parse_295
                                unfold wX11_parse_297
                                exact ⟨⟨(Ch.wk (Ch.tr (Ch.tr hS51h hS240) hS247) (by decide) (by decide)), by omega, by omega, by omega, by omega, by omega, n247_2, n247_3, n247_4, (PE_last (by omega)), n247_7, (n247_5.elim (fun h => Or.inl (by omega)) (fun h => Or.inr (Or.inl (by omega)))), by omega, by omega⟩, show (2 * (3020 - r247) + min 1 (max 0 (-1 - (S247.1 54 59)))).toNat < (2 * (3020 - v51_1) + min 1 (max 0 (-1 - (S51h.1 54 59)))).toNat by omega⟩
                        · refine ⟨by omega, ?_⟩
                          refine tX11_fail (by omega) (fun r232 S232 hS232 n232_0 => ?_)
                          unfold wX11_parse_297
                          have e717 : S232.1 54 43 = S51h.1 54 43 := hS232.1 43 (by decide)
                          have e718 : S232.1 54 43 = S51h.1 54 43 := hS232.1 43 (by decide)
                          exact ⟨⟨(Ch.wk (Ch.tr hS51h hS232) (by decide) (by decide)), by omega, by omega, by omega, by omega, by omega, (PA.mv3 i51_5 ((hS232).1 51 (by decide)) ((hS232).2 92 (by decide)) ((hS232).2 93 (by decide)) ((hS232).2 94 (by decide)) ((hS232).2 95 (by decide))), (PR.mv i51_6 ((hS232).1 43 (by decide)) ((hS232).1 51 (by decide)) ((hS232).2 86 (by decide)) ((hS232).2 87 (by decide)) ((hS232).2 88 (by decide)) ((hS232).2 90 (by decide)) ((hS232).2 91 (by decide))), (PO.mv i51_7 ((hS232).1 43 (by decide)) ((hS232).2 88 (by decide))), (PE.mv i51_8 ((hS232).1 43 (by decide)) ((hS232).2 88 (by decide))), (by
                                unfold PB
                                have e719 : S232.1 54 41 = S51h.1 54 41 := hS232.1 41 (by decide)
                                have e720 : S51h.1 54 41 = S18.1 54 41 := hS51h.1 41 (by decide)
                                have e721 : S18.1 54 41 = S12.1 54 41 := hS18.1 41 (by decide)
                                have e722 : S12.1 54 41 = S7.1 54 41 := hS12.1 41 (by decide)
                                have e723 : S7.1 54 41 = S2.1 54 41 := hS7.1 41 (by decide)
                                have e724 : S2.1 54 41 = S.1 54 41 := hS2.1 41 (by decide)
                                have e725 : S232.1 54 56 = S51h.1 54 56 := hS232.1 56 (by decide)
                                have e726 : S232.1 54 51 = S51h.1 54 51 := hS232.1 51 (by decide)
                                first
                                | exact Or.inl (by omega)
                                | exact (Classical.em (-1 ≤ S232.1 54 59)).elim (fun hb => Or.inl hb) (fun hb => Or.inr ⟨by omega, by omega, by omega⟩)), (by
                                unfold P1
                                have e727 : S232.1 54 43 = S51h.1 54 43 := hS232.1 43 (by decide)
                                first | exact Or.inr (Or.inl (by omega)) | exact Or.inl (by omega)), by omega, by omega⟩, show (2 * (3020 - v51_1) + min 1 (max 0 (-1 - (S232.1 54 59)))).toNat < (2 * (3020 - v51_1) + min 1 (max 0 (-1 - (S51h.1 54 59)))).toNat by omega⟩
                      · refine ⟨by omega, ?_⟩
                        refine ⟨by omega, ?_⟩
                        have e728 : S51h.1 54 41 = S18.1 54 41 := hS51h.1 41 (by decide)
                        have e729 : S18.1 54 41 = S12.1 54 41 := hS18.1 41 (by decide)
                        have e730 : S12.1 54 41 = S7.1 54 41 := hS12.1 41 (by decide)
                        have e731 : S7.1 54 41 = S2.1 54 41 := hS7.1 41 (by decide)
                        have e732 : S2.1 54 41 = S.1 54 41 := hS2.1 41 (by decide)
                        have e733 : S51h.1 54 41 = S18.1 54 41 := hS51h.1 41 (by decide)
                        have e734 : S18.1 54 41 = S12.1 54 41 := hS18.1 41 (by decide)
                        have e735 : S12.1 54 41 = S7.1 54 41 := hS12.1 41 (by decide)
                        have e736 : S7.1 54 41 = S2.1 54 41 := hS7.1 41 (by decide)
                        have e737 : S2.1 54 41 = S.1 54 41 := hS2.1 41 (by decide)
                        have e738 : S51h.1 54 41 = S18.1 54 41 := hS51h.1 41 (by decide)
                        have e739 : S18.1 54 41 = S12.1 54 41 := hS18.1 41 (by decide)
                        have e740 : S12.1 54 41 = S7.1 54 41 := hS12.1 41 (by decide)
                        have e741 : S7.1 54 41 = S2.1 54 41 := hS7.1 41 (by decide)
                        have e742 : S2.1 54 41 = S.1 54 41 := hS2.1 41 (by decide)
                        refine tX11_section (by omega) (by omega) (by omega) (by omega) (by omega) (by omega) (fun r218 S218 hS218 n218_0 n218_1 n218_2 n218_3 => ?_)
                        unfold wX11_parse_297
                        have e743 : S218.1 54 43 = S51h.1 54 43 := hS218.1 43 (by decide)
                        have e744 : S218.1 54 43 = S51h.1 54 43 := hS218.1 43 (by decide)
                        exact ⟨⟨(Ch.wk (Ch.tr hS51h hS218) (by decide) (by decide)), by omega, by omega, by omega, by omega, by omega, (PA.mv3 i51_5 ((hS218).1 51 (by decide)) ((hS218).2 92 (by decide)) ((hS218).2 93 (by decide)) ((hS218).2 94 (by decide)) ((hS218).2 95 (by decide))), (PR.mv i51_6 ((hS218).1 43 (by decide)) ((hS218).1 51 (by decide)) ((hS218).2 86 (by decide)) ((hS218).2 87 (by decide)) ((hS218).2 88 (by decide)) ((hS218).2 90 (by decide)) ((hS218).2 91 (by decide))), (PO.mv i51_7 ((hS218).1 43 (by decide)) ((hS218).2 88 (by decide))), (PE.mv i51_8 ((hS218).1 43 (by decide)) ((hS218).2 88 (by decide))), (by
                              unfold PB
                              have e745 : S218.1 54 41 = S51h.1 54 41 := hS218.1 41 (by decide)
                              have e746 : S51h.1 54 41 = S18.1 54 41 := hS51h.1 41 (by decide)
                              have e747 : S18.1 54 41 = S12.1 54 41 := hS18.1 41 (by decide)
                              have e748 : S12.1 54 41 = S7.1 54 41 := hS12.1 41 (by decide)
                              have e749 : S7.1 54 41 = S2.1 54 41 := hS7.1 41 (by decide)
                              have e750 : S2.1 54 41 = S.1 54 41 := hS2.1 41 (by decide)
                              have e751 : S218.1 54 51 = S51h.1 54 51 := hS218.1 51 (by decide)
                              first
                              | exact Or.inl (by omega)
                              | exact (Classical.em (-1 ≤ S218.1 54 59)).elim (fun hb => Or.inl hb) (fun hb => Or.inr ⟨by omega, by omega, by omega⟩)), (by
                              unfold P1
                              have e752 : S218.1 54 43 = S51h.1 54 43 := hS218.1 43 (by decide)
                              first | exact Or.inr (Or.inl (by omega)) | exact Or.inl (by omega)), by omega, by omega⟩, show (2 * (3020 - r218) + min 1 (max 0 (-1 - (S218.1 54 59)))).toNat < (2 * (3020 - v51_1) + min 1 (max 0 (-1 - (S51h.1 54 59)))).toNat by omega⟩
                  · refine ⟨by omega, ?_⟩
                    refine ⟨fun h164 => ?_, fun h164 => ?_⟩
                    · unfold wX11_parse_200
                      refine ⟨by omega, ?_⟩
                      refine ⟨fun h204 => ?_, fun h204 => ?_⟩
                      · unfold wX11_parse_225
                        refine ⟨by omega, ?_⟩
                        refine ⟨fun h227 => ?_, fun h227 => ?_⟩
                        · intro S240 hS240e
                          have hS240 : Ch [60] [] S51h S240 := Ch_I hS240e
                          have hS240v : S240.1 54 60 = 0 := pI_at hS240e
                          refine ⟨by omega, ?_⟩
                          refine ⟨by omega, ?_⟩
                          refine ⟨by omega, ?_⟩
                          have e753 : S240.1 54 41 = S51h.1 54 41 := hS240.1 41 (by decide)
                          have e754 : S51h.1 54 41 = S18.1 54 41 := hS51h.1 41 (by decide)
                          have e755 : S18.1 54 41 = S12.1 54 41 := hS18.1 41 (by decide)
                          have e756 : S12.1 54 41 = S7.1 54 41 := hS12.1 41 (by decide)
                          have e757 : S7.1 54 41 = S2.1 54 41 := hS7.1 41 (by decide)
                          have e758 : S2.1 54 41 = S.1 54 41 := hS2.1 41 (by decide)
                          have e759 : S240.1 54 41 = S51h.1 54 41 := hS240.1 41 (by decide)
                          have e760 : S51h.1 54 41 = S18.1 54 41 := hS51h.1 41 (by decide)
                          have e761 : S18.1 54 41 = S12.1 54 41 := hS18.1 41 (by decide)
                          have e762 : S12.1 54 41 = S7.1 54 41 := hS12.1 41 (by decide)
                          have e763 : S7.1 54 41 = S2.1 54 41 := hS7.1 41 (by decide)
                          have e764 : S2.1 54 41 = S.1 54 41 := hS2.1 41 (by decide)
                          have e765 : S240.1 54 56 = S51h.1 54 56 := hS240.1 56 (by decide)
                          have e766 : S240.1 54 51 = S51h.1 54 51 := hS240.1 51 (by decide)
                          have e767 : S240.1 54 43 = S51h.1 54 43 := hS240.1 43 (by decide)
                          have e768 : S240.1 54 43 = S51h.1 54 43 := hS240.1 43 (by decide)
                          refine tX11_beginTag (by omega) (by omega) (by omega) (by omega) (by omega) (by omega) (PA.mv2 i51_5 ((hS240).1 51 (by decide)) ((hS240).1 56 (by decide)) ((hS240).2 92 (by decide)) ((hS240).2 93 (by decide)) ((hS240).2 94 (by decide)) ((hS240).2 95 (by decide))) (PR.mv i51_6 ((hS240).1 43 (by decide)) ((hS240).1 51 (by decide)) ((hS240).2 86 (by decide)) ((hS240).2 87 (by decide)) ((hS240).2 88 (by decide)) ((hS240).2 90 (by decide)) ((hS240).2 91 (by decide))) (PO.mv i51_7 ((hS240).1 43 (by decide)) ((hS240).2 88 (by decide))) (PE.mv i51_8 ((hS240).1 43 (by decide)) ((hS240).2 88 (by decide))) (by omega) (fun r247 S247 hS247 n247_0 n247_1 n247_2 n247_3 n247_4 n247_5 n247_6 n247_7 => ?_)
                          have hbr : (S247.1 54 43 = S240.1 54 43 + 1 ∧ S247.2 88 (S240.1 54 43) = v51_2) ∨ S247.1 54 43 = S240.1 54 43 := by
                            rcases n247_5 with h | h
                            · exact Or.inl h
                            · exact Or.inr h.1
                          intro q769
                          refine ⟨fun h255 => ?_, fun h255 => ?_⟩
                          · unfold wX11_parse_265
                            intro q770
                            refine ⟨fun h270 => ?_, fun h270 => ?_⟩
                            · unfold wX11_parse_283
                              refine ⟨by omega, ?_⟩
                              refine ⟨fun h287 => ?_, fun h287 => ?_⟩
                              · unfold wX11_parse_295
                                unfold wX11_parse_297
                                exact ⟨⟨(Ch.wk (Ch.tr (Ch.tr hS51h hS240) hS247) (by decide) (by decide)), by omega, by omega, by omega, by omega, by omega, n247_2, n247_3, n247_4, (PE_new (PE.mv i51_8 (hS240.1 43 (by decide)) (hS240.2 88 (by decide))) hbr n247_6), n247_7, (n247_5.elim (fun h => Or.inl (by omega)) (fun h => Or.inr (Or.inl (by omega)))), by omega, by omega⟩, show (2 * (3020 - r247) + min 1 (max 0 (-1 - (S247.1 54 59)))).toNat < (2 * (3020 - v51_1) + min 1 (max 0 (-1 - (S51h.1 54 59)))).toNat by omega⟩
                              · unfold wX11_parse_295
                                unfold wX11_parse_297
                                exact ⟨⟨(Ch.wk (Ch.tr (Ch.tr hS51h hS240) hS247) (by decide) (by decide)), by omega, by omega, by omega, by omega, by omega, n247_2, n247_3, n247_4, (PE_new (PE.mv i51_8 (hS240.1 43 (by decide)) (hS240.2 88 (by decide))) hbr n247_6), n247_7, (n247_5.elim (fun h => Or.inl (by omega)) (fun h => Or.inr (Or.inl (by omega)))), by omega, by omega⟩, show (2 * (3020 - r247) + min 1 (max 0 (-1 - (S247.1 54 59)))).toNat < (2 * (3020 - v51_1) + min 1 (max 0 (-1 - (S51h.1 54 59)))).toNat by omega⟩
                            · intro q771
                              unfold wX11_parse_283
                              refine ⟨by omega, ?_⟩
                              refine ⟨fun h287 => ?_, fun h287 => ?_⟩
                              · unfold wX11_parse_295
                                unfold wX11_parse_297
                                exact ⟨⟨(Ch.wk (Ch.tr (Ch.tr hS51h hS240) hS247) (by decide) (by decide)), by omega, by omega, by omega, by omega, by omega, n247_2, n247_3, n247_4, (PE_last (by omega)), n247_7, (n247_5.elim (fun h => Or.inl (by omega)) (fun h => Or.inr (Or.inl (by omega)))), by omega, by omega⟩, show (2 * (3020 - r247) + min 1 (max 0 (-1 - (S247.1 54 59)))).toNat < (2 * (3020 - v51_1) + min 1 (max 0 (-1 - (S51h.1 54 59)))).toNat by omega⟩
                              · unfold wX11_parse_295
                                unfold wX11_parse_297
                                exact ⟨⟨(Ch.wk (Ch.tr (Ch.tr hS51h hS240) hS247) (by decide) (by decide)), by omega, by omega, by omega, by omega, by omega, n247_2, n247_3, n247_4, (PE_last (by omega)), n247_7, (n247_5.elim (fun h => Or.inl (by omega)) (fun h => Or.inr (Or.inl (by omega)))), by omega, by omega⟩, show (2 * (3020 - r247) + min 1 (max 0 (-1 - (S247.1 54 59)))).toNat < (2 * (3020 - v51_1) + min 1 (max 0 (-1 - (S51h.1 54 59)))).toNat by omega⟩
                          · unfold wX11_parse_265
                            intro q772
                            refine ⟨fun h270 => ?_, fun h270 => ?_⟩
                            · unfold wX11_parse_283
                              refine ⟨by omega, ?_⟩
                              refine ⟨fun h287 => ?_, fun h287 => ?_⟩
                              · unfold wX11_parse_295
                                unfold wX11_parse_297
                                exact ⟨⟨(Ch.wk (Ch.tr (Ch.tr hS51h hS240) hS247) (by decide) (by decide)), by omega, by omega, by omega, by omega, by omega, n247_2, n247_3, n247_4, (PE_new (PE.mv i51_8 (hS240.1 43 (by decide)) (hS240.2 88 (by decide))) hbr n247_6), n247_7, (n247_5.elim (fun h => Or.inl (by omega)) (fun h => Or.inr (Or.inl (by omega)))), by omega, by omega⟩, show (2 * (3020 - r247) + min 1 (max 0 (-1 - (S247.1 54 59)))).toNat < (2 * (3020 - v51_1) + min 1 (max 0 (-1 - (S51h.1 54 59)))).toNat by omega⟩
                              · unfold wX11_parse_295
                                unfold wX11_parse_297
                                exact ⟨⟨(Ch.wk (Ch.tr (Ch.tr hS51h hS240) hS247) (by decide) (by decide)), by omega, by omega, by omega, by omega, by omega, n247_2, n247_3, n247_4, (PE_new (PE.mv i51_8 (hS240.1 43 (by decide)) (hS240.2 88 (by decide))) hbr n247_6), n247_7, (n247_5.elim (fun h => Or.inl (by omega)) (fun h => Or.inr (Or.inl (by omega)))), by omega, by omega⟩, show (2 * (3020 - r247) + min 1 (max 0 (-1 - (S247.1 54 59)))).toNat < (2 * (3020 - v51_1) + min 1 (max 0 (-1 - (S51h.1 54 59)))).toNat by omega⟩
                            · intro q773
                              unfold wX11_parse_283
                              refine ⟨by omega, ?_⟩
                              refine ⟨fun h287 => ?_, fun h287 => ?_⟩
                              · unfold wX11_parse_295
                                unfold wX11_parse_297
                                exact ⟨⟨(Ch.wk (Ch.tr (Ch.tr hS51h hS240) hS247) (by decide) (by decide)), by omega, by omega, by omega, by omega, by omega, n247_2, n247_3, n247_4, (PE_last (by omega)), n247_7, (n247_5.elim (fun h => Or.inl (by omega)) (fun h => Or.inr (Or.inl (by omega)))), by omega, by omega⟩, show (2 * (3020 - r247) + min 1 (max 0 (-1 - (S247.1 54 59)))).toNat < (2 * (3020 - v51_1) + min 1 (max 0 (-1 - (S51h.1 54 59)))).toNat by omega⟩
                              · unfold wX11_parse_295
                                unfold wX11_parse_297
                                exact ⟨⟨(Ch.wk (Ch.tr (Ch.tr hS51h hS240) hS247) (by decide) (by decide)), by omega, by omega, by omega, by omega, by omega, n247_2, n247_3, n247_4, (PE_last (by omega)), n247_7, (n247_5.elim (fun h => Or.inl (by omega)) (fun h => Or.inr (Or.inl (by omega)))), by omega, by omega⟩, show (2 * (3020 - r247) + min 1 (max 0 (-1 - (S247.1 54 59)))).toNat < (2 * (3020 - v51_1) + min 1 (max 0 (-1 - (S51h.1 54 59)))).toNat by omega⟩
                        · refine ⟨by omega, ?_⟩
                          refine tX11_fail (by omega) (fun r232 S232 hS232 n232_0 => ?_)
                          unfold wX11_parse_297
                          have e774 : S232.1 54 43 = S51h.1 54 43 := hS232.1 43 (by decide)
                          have e775 : S232.1 54 43 = S51h.1 54 43 := hS232.1 43 (by decide)
                          exact ⟨⟨(Ch.wk (Ch.tr hS51h hS232) (by decide) (by decide)), by omega, by omega, by omega, by omega, by omega, (PA.mv3 i51_5 ((hS232).1 51 (by decide)) ((hS232).2 92 (by decide)) ((hS232).2 93 (by decide)) ((hS232).2 94 (by decide)) ((hS232).2 95 (by decide))), (PR.mv i51_6 ((hS232).1 43 (by decide)) ((hS232).1 51 (by decide)) ((hS232).2 86 (by decide)) ((hS232).2 87 (by decide)) ((hS232).2 88 (by decide)) ((hS232).2 90 (by decide)) ((hS232).2 91 (by decide))), (PO.mv i51_7 ((hS232).1 43 (by decide)) ((hS232).2 88 (by decide))), (PE.mv i51_8 ((hS232).1 43 (by decide)) ((hS232).2 88 (by decide))), (by
                                unfold PB
                                have e776 : S232.1 54 41 = S51h.1 54 41 := hS232.1 41 (by decide)
                                have e777 : S51h.1 54 41 = S18.1 54 41 := hS51h.1 41 (by decide)
                                have e778 : S18.1 54 41 = S12.1 54 41 := hS18.1 41 (by decide)
                                have e779 : S12.1 54 41 = S7.1 54 41 := hS12.1 41 (by decide)
                                have e780 : S7.1 54 41 = S2.1 54 41 := hS7.1 41 (by decide)
                                have e781 : S2.1 54 41 = S.1 54 41 := hS2.1 41 (by decide)
                                have e782 : S232.1 54 56 = S51h.1 54 56 := hS232.1 56 (by decide)
                                have e783 : S232.1 54 51 = S51h.1 54 51 := hS232.1 51 (by decide)
                                first
                                | exact Or.inl (by omega)
                                | exact (Classical.em (-1 ≤ S232.1 54 59)).elim (fun hb => Or.inl hb) (fun hb => Or.inr ⟨by omega, by omega, by omega⟩)), (by
                                unfold P1
                                have e784 : S232.1 54 43 = S51h.1 54 43 := hS232.1 43 (by decide)
                                first | exact Or.inr (Or.inl (by omega)) | exact Or.inl (by omega)), by omega, by omega⟩, show (2 * (3020 - v51_1) + min 1 (max 0 (-1 - (S232.1 54 59)))).toNat < (2 * (3020 - v51_1) + min 1 (max 0 (-1 - (S51h.1 54 59)))).toNat by omega⟩
                      · refine ⟨by omega, ?_⟩
                        refine ⟨fun h210 => ?_, fun h210 => ?_⟩
                        · unfold wX11_parse_225
                          refine ⟨by omega, ?_⟩
                          refine ⟨fun h227 => ?_, fun h227 => ?_⟩
                          · intro S240 hS240e
                            have hS240 : Ch [60] [] S51h S240 := Ch_I hS240e
                            have hS240v : S240.1 54 60 = 0 := pI_at hS240e
                            refine ⟨by omega, ?_⟩
                            refine ⟨by omega, ?_⟩
                            refine ⟨by omega, ?_⟩
                            have e785 : S240.1 54 41 = S51h.1 54 41 := hS240.1 41 (by decide)
                            have e786 : S51h.1 54 41 = S18.1 54 41 := hS51h.1 41 (by decide)
                            have e787 : S18.1 54 41 = S12.1 54 41 := hS18.1 41 (by decide)
                            have e788 : S12.1 54 41 = S7.1 54 41 := hS12.1 41 (by decide)
                            have e789 : S7.1 54 41 = S2.1 54 41 := hS7.1 41 (by decide)
                            have e790 : S2.1 54 41 = S.1 54 41 := hS2.1 41 (by decide)
                            have e791 : S240.1 54 41 = S51h.1 54 41 := hS240.1 41 (by decide)
                            have e792 : S51h.1 54 41 = S18.1 54 41 := hS51h.1 41 (by decide)
                            have e793 : S18.1 54 41 = S12.1 54 41 := hS18.1 41 (by decide)
                            have e794 : S12.1 54 41 = S7.1 54 41 := hS12.1 41 (by decide)
                            have e795 : S7.1 54 41 = S2.1 54 41 := hS7.1 41 (by decide)
                            have e796 : S2.1 54 41 = S.1 54 41 := hS2.1 41 (by decide)
                            have e797 : S240.1 54 56 = S51h.1 54 56 := hS240.1 56 (by decide)
                            have e798 : S240.1 54 51 = S51h.1 54 51 := hS240.1 51 (by decide)
                            have e799 : S240.1 54 43 = S51h.1 54 43 := hS240.1 43 (by decide)
                            have e800 : S240.1 54 43 = S51h.1 54 43 := hS240.1 43 (by decide)
                            refine tX11_beginTag (by omega) (by omega) (by omega) (by omega) (by omega) (by omega) (PA.mv2 i51_5 ((hS240).1 51 (by decide)) ((hS240).1 56 (by decide)) ((hS240).2 92 (by decide)) ((hS240).2 93 (by decide)) ((hS240).2 94 (by decide)) ((hS240).2 95 (by decide))) (PR.mv i51_6 ((hS240).1 43 (by decide)) ((hS240).1 51 (by decide)) ((hS240).2 86 (by decide)) ((hS240).2 87 (by decide)) ((hS240).2 88 (by decide)) ((hS240).2 90 (by decide)) ((hS240).2 91 (by decide))) (PO.mv i51_7 ((hS240).1 43 (by decide)) ((hS240).2 88 (by decide))) (PE.mv i51_8 ((hS240).1 43 (by decide)) ((hS240).2 88 (by decide))) (by omega) (fun r247 S247 hS247 n247_0 n247_1 n247_2 n247_3 n247_4 n247_5 n247_6 n247_7 => ?_)
                            have hbr : (S247.1 54 43 = S240.1 54 43 + 1 ∧ S247.2 88 (S240.1 54 43) = v51_2) ∨ S247.1 54 43 = S240.1 54 43 := by
                              rcases n247_5 with h | h
                              · exact Or.inl h
                              · exact Or.inr h.1
                            intro q801
                            refine ⟨fun h255 => ?_, fun h255 => ?_⟩
                            · unfold wX11_parse_265
                              intro q802
                              refine ⟨fun h270 => ?_, fun h270 => ?_⟩
                              · unfold wX11_parse_283
                                refine ⟨by omega, ?_⟩
                                refine ⟨fun h287 => ?_, fun h287 => ?_⟩
                                · unfold wX11_parse_295
                                  unfold wX11_parse_297
                                  exact ⟨⟨(Ch.wk (Ch.tr (Ch.tr hS51h hS240) hS247) (by decide) (by decide)), by omega, by omega, by omega, by omega, by omega, n247_2, n247_3, n247_4, (PE_new (PE.mv i51_8 (hS240.1 43 (by decide)) (hS240.2 88 (by decide))) hbr n247_6), n247_7, (n247_5.elim (fun h => Or.inl (by omega)) (fun h => Or.inr (Or.inl (by omega)))), by omega, by omega⟩, show (2 * (3020 - r247) + min 1 (max 0 (-1 - (S247.1 54 59)))).toNat < (2 * (3020 - v51_1) + min 1 (max 0 (-1 - (S51h.1 54 59)))).toNat by omega⟩
                                · unfold wX11_parse_295
                                  unfold wX11_parse_297
                                  exact ⟨⟨(Ch.wk (Ch.tr (Ch.tr hS51h hS240) hS247) (by decide) (by decide)), by omega, by omega, by omega, by omega, by omega, n247_2, n247_3, n247_4, (PE_new (PE.mv i51_8 (hS240.1 43 (by decide)) (hS240.2 88 (by decide))) hbr n247_6), n247_7, (n247_5.elim (fun h => Or.inl (by omega)) (fun h => Or.inr (Or.inl (by omega)))), by omega, by omega⟩, show (2 * (3020 - r247) + min 1 (max 0 (-1 - (S247.1 54 59)))).toNat < (2 * (3020 - v51_1) + min 1 (max 0 (-1 - (S51h.1 54 59)))).toNat by omega⟩
                              · intro q803
                                unfold wX11_parse_283
                                refine ⟨by omega, ?_⟩
                                refine ⟨fun h287 => ?_, fun h287 => ?_⟩
                                · unfold wX11_parse_295
                                  unfold wX11_parse_297
                                  exact ⟨⟨(Ch.wk (Ch.tr (Ch.tr hS51h hS240) hS247) (by decide) (by decide)), by omega, by omega, by omega, by omega, by omega, n247_2, n247_3, n247_4, (PE_last (by omega)), n247_7, (n247_5.elim (fun h => Or.inl (by omega)) (fun h => Or.inr (Or.inl (by omega)))), by omega, by omega⟩, show (2 * (3020 - r247) + min 1 (max 0 (-1 - (S247.1 54 59)))).toNat < (2 * (3020 - v51_1) + min 1 (max 0 (-1 - (S51h.1 54 59)))).toNat by omega⟩
                                · unfold wX11_parse_295
                                  unfold wX11_parse_297
                                  exact ⟨⟨(Ch.wk (Ch.tr (Ch.tr hS51h hS240) hS247) (by decide) (by decide)), by omega, by omega, by omega, by omega, by omega, n247_2, n247_3, n247_4, (PE_last (by omega)), n247_7, (n247_5.elim (fun h => Or.inl (by omega)) (fun h => Or.inr (Or.inl (by omega)))), by omega, by omega⟩, show (2 * (3020 - r247) + min 1 (max 0 (-1 - (S247.1 54 59)))).toNat < (2 * (3020 - v51_1) + min 1 (max 0 (-1 - (S51h.1 54 59)))).toNat by omega⟩
                            · unfold wX11_parse_265
                              intro q804
                              refine ⟨fun h270 => ?_, fun h270 => ?_⟩
                              · unfold wX11_parse_283
                                refine ⟨by omega, ?_⟩
                                refine ⟨fun h287 => ?_, fun h287 => ?_⟩
                                · unfold wX11_parse_295
                                  unfold wX11_parse_297
                                  exact ⟨⟨(Ch.wk (Ch.tr (Ch.tr hS51h hS240) hS247) (by decide) (by decide)), by omega, by omega, by omega, by omega, by omega, n247_2, n247_3, n247_4, (PE_new (PE.mv i51_8 (hS240.1 43 (by decide)) (hS240.2 88 (by decide))) hbr n247_6), n247_7, (n247_5.elim (fun h => Or.inl (by omega)) (fun h => Or.inr (Or.inl (by omega)))), by omega, by omega⟩, show (2 * (3020 - r247) + min 1 (max 0 (-1 - (S247.1 54 59)))).toNat < (2 * (3020 - v51_1) + min 1 (max 0 (-1 - (S51h.1 54 59)))).toNat by omega⟩
                                · unfold wX11_parse_295
                                  unfold wX11_parse_297
                                  exact ⟨⟨(Ch.wk (Ch.tr (Ch.tr hS51h hS240) hS247) (by decide) (by decide)), by omega, by omega, by omega, by omega, by omega, n247_2, n247_3, n247_4, (PE_new (PE.mv i51_8 (hS240.1 43 (by decide)) (hS240.2 88 (by decide))) hbr n247_6), n247_7, (n247_5.elim (fun h => Or.inl (by omega)) (fun h => Or.inr (Or.inl (by omega)))), by omega, by omega⟩, show (2 * (3020 - r247) + min 1 (max 0 (-1 - (S247.1 54 59)))).toNat < (2 * (3020 - v51_1) + min 1 (max 0 (-1 - (S51h.1 54 59)))).toNat by omega⟩
                              · intro q805
                                unfold wX11_parse_283
                                refine ⟨by omega, ?_⟩
                                refine ⟨fun h287 => ?_, fun h287 => ?_⟩
                                · unfold wX11_parse_295
                                  unfold wX11_parse_297
                                  exact ⟨⟨(Ch.wk (Ch.tr (Ch.tr hS51h hS240) hS247) (by decide) (by decide)), by omega, by omega, by omega, by omega, by omega, n247_2, n247_3, n247_4, (PE_last (by omega)), n247_7, (n247_5.elim (fun h => Or.inl (by omega)) (fun h => Or.inr (Or.inl (by omega)))), by omega, by omega⟩, show (2 * (3020 - r247) + min 1 (max 0 (-1 - (S247.1 54 59)))).toNat < (2 * (3020 - v51_1) + min 1 (max 0 (-1 - (S51h.1 54 59)))).toNat by omega⟩
                                · unfold wX11_parse_295
                                  unfold wX11_parse_297
                                  exact ⟨⟨(Ch.wk (Ch.tr (Ch.tr hS51h hS240) hS247) (by decide) (by decide)), by omega, by omega, by omega, by omega, by omega, n247_2, n247_3, n247_4, (PE_last (by omega)), n247_7, (n247_5.elim (fun h => Or.inl (by omega)) (fun h => Or.inr (Or.inl (by omega)))), by omega, by omega⟩, show (2 * (3020 - r247) + min 1 (max 0 (-1 - (S247.1 54 59)))).toNat < (2 * (3020 - v51_1) + min 1 (max 0 (-1 - (S51h.1 54 59)))).toNat by omega⟩
                          · refine ⟨by omega, ?_⟩
                            refine tX11_fail (by omega) (fun r232 S232 hS232 n232_0 => ?_)
                            unfold wX11_parse_297
                            have e806 : S232.1 54 43 = S51h.1 54 43 := hS232.1 43 (by decide)
                            have e807 : S232.1 54 43 = S51h.1 54 43 := hS232.1 43 (by decide)
                            exact ⟨⟨(Ch.wk (Ch.tr hS51h hS232) (by decide) (by decide)), by omega, by omega, by omega, by omega, by omega, (PA.mv3 i51_5 ((hS232).1 51 (by decide)) ((hS232).2 92 (by decide)) ((hS232).2 93 (by decide)) ((hS232).2 94 (by decide)) ((hS232).2 95 (by decide))), (PR.mv i51_6 ((hS232).1 43 (by decide)) ((hS232).1 51 (by decide)) ((hS232).2 86 (by decide)) ((hS232).2 87 (by decide)) ((hS232).2 88 (by decide)) ((hS232).2 90 (by decide)) ((hS232).2 91 (by decide))), (PO.mv i51_7 ((hS232).1 43 (by decide)) ((hS232).2 88 (by decide))), (PE.mv i51_8 ((hS232).1 43 (by decide)) ((hS232).2 88 (by decide))), (by
                                  unfold PB
                                  have e808 : S232.1 54 41 = S51h.1 54 41 := hS232.1 41 (by decide)
                                  have e809 : S51h.1 54 41 = S18.1 54 41 := hS51h.1 41 (by decide)
                                  have e810 : S18.1 54 41 = S12.1 54 41 := hS18.1 41 (by decide)
                                  have e811 : S12.1 54 41 = S7.1 54 41 := hS12.1 41 (by decide)
                                  have e812 : S7.1 54 41 = S2.1 54 41 := hS7.1 41 (by decide)
                                  have e813 : S2.1 54 41 = S.1 54 41 := hS2.1 41 (by decide)
                                  have e814 : S232.1 54 56 = S51h.1 54 56 := hS232.1 56 (by decide)
                                  have e815 : S232.1 54 51 = S51h.1 54 51 := hS232.1 51 (by decide)
                                  first
                                  | exact Or.inl (by omega)
                                  | exact (Classical.em (-1 ≤ S232.1 54 59)).elim (fun hb => Or.inl hb) (fun hb => Or.inr ⟨by omega, by omega, by omega⟩)), (by
                                  unfold P1
                                  have e816 : S232.1 54 43 = S51h.1 54 43 := hS232.1 43 (by decide)
                                  first | exact Or.inr (Or.inl (by omega)) | exact Or.inl (by omega)), by omega, by omega⟩, show (2 * (3020 - v51_1) + min 1 (max 0 (-1 - (S232.1 54 59)))).toNat < (2 * (3020 - v51_1) + min 1 (max 0 (-1 - (S51h.1 54 59)))).toNat by omega⟩
                        · refine ⟨by omega, ?_⟩
                          refine ⟨by omega, ?_⟩
                          have e817 : S51h.1 54 41 = S18.1 54 41 := hS51h.1 41 (by decide)
                          have e818 : S18.1 54 41 = S12.1 54 41 := hS18.1 41 (by decide)
                          have e819 : S12.1 54 41 = S7.1 54 41 := hS12.1 41 (by decide)
                          have e820 : S7.1 54 41 = S2.1 54 41 := hS7.1 41 (by decide)
                          have e821 : S2.1 54 41 = S.1 54 41 := hS2.1 41 (by decide)
                          have e822 : S51h.1 54 41 = S18.1 54 41 := hS51h.1 41 (by decide)
                          have e823 : S18.1 54 41 = S12.1 54 41 := hS18.1 41 (by decide)
                          have e824 : S12.1 54 41 = S7.1 54 41 := hS12.1 41 (by decide)
                          have e825 : S7.1 54 41 = S2.1 54 41 := hS7.1 41 (by decide)
                          have e826 : S2.1 54 41 = S.1 54 41 := hS2.1 41 (by decide)
                          have e827 : S51h.1 54 41 = S18.1 54 41 := hS51h.1 41 (by decide)
                          have e828 : S18.1 54 41 = S12.1 54 41 := hS18.1 41 (by decide)
                          have e829 : S12.1 54 41 = S7.1 54 41 := hS12.1 41 (by decide)
                          have e830 : S7.1 54 41 = S2.1 54 41 := hS7.1 41 (by decide)
                          have e831 : S2.1 54 41 = S.1 54 41 := hS2.1 41 (by decide)
                          refine tX11_section (by omega) (by omega) (by omega) (by omega) (by omega) (by omega) (fun r218 S218 hS218 n218_0 n218_1 n218_2 n218_3 => ?_)
                          unfold wX11_parse_297
                          have e832 : S218.1 54 43 = S51h.1 54 43 := hS218.1 43 (by decide)
                          have e833 : S218.1 54 43 = S51h.1 54 43 := hS218.1 43 (by decide)
                          exact ⟨⟨(Ch.wk (Ch.tr hS51h hS218) (by decide) (by decide)), by omega, by omega, by omega, by omega, by omega, (PA.mv3 i51_5 ((hS218).1 51 (by decide)) ((hS218).2 92 (by decide)) ((hS218).2 93 (by decide)) ((hS218).2 94 (by decide)) ((hS218).2 95 (by decide))), (PR.mv i51_6 ((hS218).1 43 (by decide)) ((hS218).1 51 (by decide)) ((hS218).2 86 (by decide)) ((hS218).2 87 (by decide)) ((hS218).2 88 (by decide)) ((hS218).2 90 (by decide)) ((hS218).2 91 (by decide))), (PO.mv i51_7 ((hS218).1 43 (by decide)) ((hS218).2 88 (by decide))), (PE.mv i51_8 ((hS218).1 43 (by decide)) ((hS218).2 88 (by decide))), (by
                                unfold PB
                                have e834 : S218.1 54 41 = S51h.1 54 41 := hS218.1 41 (by decide)
                                have e835 : S51h.1 54 41 = S18.1 54 41 := hS51h.1 41 (by decide)
                                have e836 : S18.1 54 41 = S12.1 54 41 := hS18.1 41 (by decide)
                                have e837 : S12.1 54 41 = S7.1 54 41 := hS12.1 41 (by decide)
                                have e838 : S7.1 54 41 = S2.1 54 41 := hS7.1 41 (by decide)
                                have e839 : S2.1 54 41 = S.1 54 41 := hS2.1 41 (by decide)
                                have e840 : S218.1 54 51 = S51h.1 54 51 := hS218.1 51 (by decide)
                                first
                                | exact Or.inl (by omega)
                                | exact (Classical.em (-1 ≤ S218.1 54 59)).elim (fun hb => Or.inl hb) (fun hb => Or.inr ⟨by omega, by omega, by omega⟩)), (by
                                unfold P1
                                have e841 : S218.1 54 43 = S51h.1 54 43 := hS218.1 43 (by decide)
                                first | exact Or.inr (Or.inl (by omega)) | exact Or.inl (by omega)), by omega, by omega⟩, show (2 * (3020 - r218) + min 1 (max 0 (-1 - (S218.1 54 59)))).toNat < (2 * (3020 - v51_1) + min 1 (max 0 (-1 - (S51h.1 54 59)))).toNat by omega⟩
                    · have hE2 := hE.2.resolve_left (by omega)
                      have hpr := i51_6.at (x := v51_2) (by omega) (by omega)
                      refine ⟨by omega, ?_⟩
                      have e842 : S51h.1 54 41 = S18.1 54 41 := hS51h.1 41 (by decide)
                      have e843 : S18.1 54 41 = S12.1 54 41 := hS18.1 41 (by decide)
                      have e844 : S12.1 54 41 = S7.1 54 41 := hS12.1 41 (by decide)
                      have e845 : S7.1 54 41 = S2.1 54 41 := hS7.1 41 (by decide)
                      have e846 : S2.1 54 41 = S.1 54 41 := hS2.1 41 (by decide)
                      have e847 : S51h.1 54 41 = S18.1 54 41 := hS51h.1 41 (by decide)
                      have e848 : S18.1 54 41 = S12.1 54 41 := hS18.1 41 (by decide)
                      have e849 : S12.1 54 41 = S7.1 54 41 := hS12.1 41 (by decide)
                      have e850 : S7.1 54 41 = S2.1 54 41 := hS7.1 41 (by decide)
                      have e851 : S2.1 54 41 = S.1 54 41 := hS2.1 41 (by decide)
                      have e852 : S51h.1 54 41 = S18.1 54 41 := hS51h.1 41 (by decide)
                      have e853 : S18.1 54 41 = S12.1 54 41 := hS18.1 41 (by decide)
                      have e854 : S12.1 54 41 = S7.1 54 41 := hS12.1 41 (by decide)
                      have e855 : S7.1 54 41 = S2.1 54 41 := hS7.1 41 (by decide)
                      have e856 : S2.1 54 41 = S.1 54 41 := hS2.1 41 (by decide)
                      refine tX11_endTag (by omega) (by omega) (by omega) (by omega) (by omega) (fun r170 S170 hS170 n170_0 n170_1 n170_2 => ?_)
                      refine ⟨by omega, by omega, ?_⟩
                      intro q857
                      have e858 : S170.2 88 (v51_2) = S51h.2 88 (v51_2) := congrFun (hS170.2 88 (by decide)) _
                      intro x180 hx180
                      subst hx180
                      refine ⟨fun h187 => ?_, fun h187 => ?_⟩
                      · unfold wX11_parse_195
                        unfold wX11_parse_297
                        have e859 : S170.1 54 43 = S51h.1 54 43 := hS170.1 43 (by decide)
                        have e860 : S170.1 54 43 = S51h.1 54 43 := hS170.1 43 (by decide)
                        exact ⟨⟨(Ch.wk (Ch.tr hS51h hS170) (by decide) (by decide)), by omega, by omega, by omega, by omega, by omega, (PA.mv3 i51_5 ((hS170).1 51 (by decide)) ((hS170).2 92 (by decide)) ((hS170).2 93 (by decide)) ((hS170).2 94 (by decide)) ((hS170).2 95 (by decide))), (PR.mv i51_6 ((hS170).1 43 (by decide)) ((hS170).1 51 (by decide)) ((hS170).2 86 (by decide)) ((hS170).2 87 (by decide)) ((hS170).2 88 (by decide)) ((hS170).2 90 (by decide)) ((hS170).2 91 (by decide))), (PO.mv i51_7 ((hS170).1 43 (by decide)) ((hS170).2 88 (by decide))), (by
                              rw [show S170.2 88 v51_2 = S51h.2 88 v51_2 from congrFun (hS170.2 88 (by decide)) _]
                              exact (PE_up (e := v51_2) i51_6 i51_7 (by omega) (by omega)).mv (hS170.1 43 (by decide)) (hS170.2 88 (by decide))), (by
                              unfold PB
                              have e861 : S170.1 54 41 = S51h.1 54 41 := hS170.1 41 (by decide)
                              have e862 : S51h.1 54 41 = S18.1 54 41 := hS51h.1 41 (by decide)
                              have e863 : S18.1 54 41 = S12.1 54 41 := hS18.1 41 (by decide)
                              have e864 : S12.1 54 41 = S7.1 54 41 := hS12.1 41 (by decide)
                              have e865 : S7.1 54 41 = S2.1 54 41 := hS7.1 41 (by decide)
                              have e866 : S2.1 54 41 = S.1 54 41 := hS2.1 41 (by decide)
                              have e867 : S170.1 54 56 = S51h.1 54 56 := hS170.1 56 (by decide)
                              have e868 : S170.1 54 51 = S51h.1 54 51 := hS170.1 51 (by decide)
                              first
                              | exact Or.inl (by omega)
                              | exact (Classical.em (-1 ≤ S170.1 54 59)).elim (fun hb => Or.inl hb) (fun hb => Or.inr ⟨by omega, by omega, by omega⟩)), (by
                              unfold P1
                              have e869 : S170.1 54 43 = S51h.1 54 43 := hS170.1 43 (by decide)
                              first | exact Or.inr (Or.inl (by omega)) | exact Or.inl (by omega)), by omega, by omega⟩, show (2 * (3020 - r170) + min 1 (max 0 (-1 - (S170.1 54 59)))).toNat < (2 * (3020 - v51_1) + min 1 (max 0 (-1 - (S51h.1 54 59)))).toNat by omega⟩
                      · unfold wX11_parse_195
                        unfold wX11_parse_297
                        have e870 : S170.1 54 43 = S51h.1 54 43 := hS170.1 43 (by decide)
                        have e871 : S170.1 54 43 = S51h.1 54 43 := hS170.1 43 (by decide)
                        exact ⟨⟨(Ch.wk (Ch.tr hS51h hS170) (by decide) (by decide)), by omega, by omega, by omega, by omega, by omega, (PA.mv3 i51_5 ((hS170).1 51 (by decide)) ((hS170).2 92 (by decide)) ((hS170).2 93 (by decide)) ((hS170).2 94 (by decide)) ((hS170).2 95 (by decide))), (PR.mv i51_6 ((hS170).1 43 (by decide)) ((hS170).1 51 (by decide)) ((hS170).2 86 (by decide)) ((hS170).2 87 (by decide)) ((hS170).2 88 (by decide)) ((hS170).2 90 (by decide)) ((hS170).2 91 (by decide))), (PO.mv i51_7 ((hS170).1 43 (by decide)) ((hS170).2 88 (by decide))), (by
                              rw [show S170.2 88 v51_2 = S51h.2 88 v51_2 from congrFun (hS170.2 88 (by decide)) _]
                              exact (PE_up (e := v51_2) i51_6 i51_7 (by omega) (by omega)).mv (hS170.1 43 (by decide)) (hS170.2 88 (by decide))), (by
                              unfold PB
                              have e872 : S170.1 54 41 = S51h.1 54 41 := hS170.1 41 (by decide)
                              have e873 : S51h.1 54 41 = S18.1 54 41 := hS51h.1 41 (by decide)
                              have e874 : S18.1 54 41 = S12.1 54 41 := hS18.1 41 (by decide)
                              have e875 : S12.1 54 41 = S7.1 54 41 := hS12.1 41 (by decide)
                              have e876 : S7.1 54 41 = S2.1 54 41 := hS7.1 41 (by decide)
                              have e877 : S2.1 54 41 = S.1 54 41 := hS2.1 41 (by decide)
                              have e878 : S170.1 54 56 = S51h.1 54 56 := hS170.1 56 (by decide)
                              have e879 : S170.1 54 51 = S51h.1 54 51 := hS170.1 51 (by decide)
                              first
                              | exact Or.inl (by omega)
                              | exact (Classical.em (-1 ≤ S170.1 54 59)).elim (fun hb => Or.inl hb) (fun hb => Or.inr ⟨by omega, by omega, by omega⟩)), (by
                              unfold P1
                              have e880 : S170.1 54 43 = S51h.1 54 43 := hS170.1 43 (by decide)
                              first | exact Or.inr (Or.inl (by omega)) | exact Or.inl (by omega)), by omega, by omega⟩, show (2 * (3020 - r170) + min 1 (max 0 (-1 - (S170.1 54 59)))).toNat < (2 * (3020 - v51_1) + min 1 (max 0 (-1 - (S51h.1 54 59)))).toNat by omega⟩
                · refine ⟨by omega, ?_⟩
                  refine tX11_keep (by omega) (by omega) (fun r145 S145 hS145 n145_0 => ?_)
                  unfold wX11_parse_297
                  have e881 : S145.1 54 43 = S51h.1 54 43 := hS145.1 43 (by decide)
                  have e882 : S145.1 54 43 = S51h.1 54 43 := hS145.1 43 (by decide)
                  have e883 : S145.1 54 59 = S51h.1 54 59 := hS145.1 59 (by decide)
                  have e884 : S145.1 54 59 = S51h.1 54 59 := hS145.1 59 (by decide)
                  exact ⟨⟨(Ch.wk (Ch.tr hS51h hS145) (by decide) (by decide)), by omega, by omega, by omega, by omega, by omega, (PA.mv3 i51_5 ((hS145).1 51 (by decide)) ((hS145).2 92 (by decide)) ((hS145).2 93 (by decide)) ((hS145).2 94 (by decide)) ((hS145).2 95 (by decide))), (PR.mv i51_6 ((hS145).1 43 (by decide)) ((hS145).1 51 (by decide)) ((hS145).2 86 (by decide)) ((hS145).2 87 (by decide)) ((hS145).2 88 (by decide)) ((hS145).2 90 (by decide)) ((hS145).2 91 (by decide))), (PO.mv i51_7 ((hS145).1 43 (by decide)) ((hS145).2 88 (by decide))), (PE.mv i51_8 ((hS145).1 43 (by decide)) ((hS145).2 88 (by decide))), (by
                        unfold PB
                        have e885 : S145.1 54 59 = S51h.1 54 59 := hS145.1 59 (by decide)
                        have e886 : S145.1 54 41 = S51h.1 54 41 := hS145.1 41 (by decide)
                        have e887 : S51h.1 54 41 = S18.1 54 41 := hS51h.1 41 (by decide)
                        have e888 : S18.1 54 41 = S12.1 54 41 := hS18.1 41 (by decide)
                        have e889 : S12.1 54 41 = S7.1 54 41 := hS12.1 41 (by decide)
                        have e890 : S7.1 54 41 = S2.1 54 41 := hS7.1 41 (by decide)
                        have e891 : S2.1 54 41 = S.1 54 41 := hS2.1 41 (by decide)
                        have e892 : S145.1 54 51 = S51h.1 54 51 := hS145.1 51 (by decide)
                        first
                        | exact Or.inl (by omega)
                        | exact (Classical.em (-1 ≤ S145.1 54 59)).elim (fun hb => Or.inl hb) (fun hb => Or.inr ⟨by omega, by omega, by omega⟩)), (by
                        unfold P1
                        have e893 : S145.1 54 43 = S51h.1 54 43 := hS145.1 43 (by decide)
                        have e894 : S145.1 54 59 = S51h.1 54 59 := hS145.1 59 (by decide)
                        first | exact Or.inr (Or.inl (by omega)) | exact Or.inl (by omega)), by omega, by omega⟩, show (2 * (3020 - ((v51_1 + 1))) + min 1 (max 0 (-1 - (S145.1 54 59)))).toNat < (2 * (3020 - v51_1) + min 1 (max 0 (-1 - (S51h.1 54 59)))).toNat by omega⟩
              · refine ⟨by omega, ?_⟩
                refine ⟨by omega, ?_⟩
                have e895 : S51h.1 54 41 = S18.1 54 41 := hS51h.1 41 (by decide)
                have e896 : S18.1 54 41 = S12.1 54 41 := hS18.1 41 (by decide)
                have e897 : S12.1 54 41 = S7.1 54 41 := hS12.1 41 (by decide)
                have e898 : S7.1 54 41 = S2.1 54 41 := hS7.1 41 (by decide)
                have e899 : S2.1 54 41 = S.1 54 41 := hS2.1 41 (by decide)
                have e900 : S51h.1 54 41 = S18.1 54 41 := hS51h.1 41 (by decide)
                have e901 : S18.1 54 41 = S12.1 54 41 := hS18.1 41 (by decide)
                have e902 : S12.1 54 41 = S7.1 54 41 := hS12.1 41 (by decide)
                have e903 : S7.1 54 41 = S2.1 54 41 := hS7.1 41 (by decide)
                have e904 : S2.1 54 41 = S.1 54 41 := hS2.1 41 (by decide)
                have e905 : S51h.1 54 41 = S18.1 54 41 := hS51h.1 41 (by decide)
                have e906 : S18.1 54 41 = S12.1 54 41 := hS18.1 41 (by decide)
                have e907 : S12.1 54 41 = S7.1 54 41 := hS12.1 41 (by decide)
                have e908 : S7.1 54 41 = S2.1 54 41 := hS7.1 41 (by decide)
                have e909 : S2.1 54 41 = S.1 54 41 := hS2.1 41 (by decide)
                refine tX11_reference (by omega) (by omega) (by omega) (by omega) (by omega) (fun r127 S127 hS127 n127_0 n127_1 n127_2 n127_3 => ?_)
                unfold wX11_parse_297
                have e910 : S127.1 54 43 = S51h.1 54 43 := hS127.1 43 (by decide)
                have e911 : S127.1 54 43 = S51h.1 54 43 := hS127.1 43 (by decide)
                exact ⟨⟨(Ch.wk (Ch.tr hS51h hS127) (by decide) (by decide)), by omega, by omega, by omega, by omega, by omega, (PA.mv3 i51_5 ((hS127).1 51 (by decide)) ((hS127).2 92 (by decide)) ((hS127).2 93 (by decide)) ((hS127).2 94 (by decide)) ((hS127).2 95 (by decide))), (PR.mv i51_6 ((hS127).1 43 (by decide)) ((hS127).1 51 (by decide)) ((hS127).2 86 (by decide)) ((hS127).2 87 (by decide)) ((hS127).2 88 (by decide)) ((hS127).2 90 (by decide)) ((hS127).2 91 (by decide))), (PO.mv i51_7 ((hS127).1 43 (by decide)) ((hS127).2 88 (by decide))), (PE.mv i51_8 ((hS127).1 43 (by decide)) ((hS127).2 88 (by decide))), (by
                      unfold PB
                      have e912 : S127.1 54 41 = S51h.1 54 41 := hS127.1 41 (by decide)
                      have e913 : S51h.1 54 41 = S18.1 54 41 := hS51h.1 41 (by decide)
                      have e914 : S18.1 54 41 = S12.1 54 41 := hS18.1 41 (by decide)
                      have e915 : S12.1 54 41 = S7.1 54 41 := hS12.1 41 (by decide)
                      have e916 : S7.1 54 41 = S2.1 54 41 := hS7.1 41 (by decide)
                      have e917 : S2.1 54 41 = S.1 54 41 := hS2.1 41 (by decide)
                      have e918 : S127.1 54 51 = S51h.1 54 51 := hS127.1 51 (by decide)
                      first
                      | exact Or.inl (by omega)
                      | exact (Classical.em (-1 ≤ S127.1 54 59)).elim (fun hb => Or.inl hb) (fun hb => Or.inr ⟨by omega, by omega, by omega⟩)), (by
                      unfold P1
                      have e919 : S127.1 54 43 = S51h.1 54 43 := hS127.1 43 (by decide)
                      first | exact Or.inr (Or.inl (by omega)) | exact Or.inl (by omega)), by omega, by omega⟩, show (2 * (3020 - r127) + min 1 (max 0 (-1 - (S127.1 54 59)))).toNat < (2 * (3020 - v51_1) + min 1 (max 0 (-1 - (S51h.1 54 59)))).toNat by omega⟩
            · refine ⟨by omega, ?_⟩
              refine tX11_fail (by omega) (fun r111 S111 hS111 n111_0 => ?_)
              unfold wX11_parse_297
              have e920 : S111.1 54 43 = S51h.1 54 43 := hS111.1 43 (by decide)
              have e921 : S111.1 54 43 = S51h.1 54 43 := hS111.1 43 (by decide)
              exact ⟨⟨(Ch.wk (Ch.tr hS51h hS111) (by decide) (by decide)), by omega, by omega, by omega, by omega, by omega, (PA.mv3 i51_5 ((hS111).1 51 (by decide)) ((hS111).2 92 (by decide)) ((hS111).2 93 (by decide)) ((hS111).2 94 (by decide)) ((hS111).2 95 (by decide))), (PR.mv i51_6 ((hS111).1 43 (by decide)) ((hS111).1 51 (by decide)) ((hS111).2 86 (by decide)) ((hS111).2 87 (by decide)) ((hS111).2 88 (by decide)) ((hS111).2 90 (by decide)) ((hS111).2 91 (by decide))), (PO.mv i51_7 ((hS111).1 43 (by decide)) ((hS111).2 88 (by decide))), (PE.mv i51_8 ((hS111).1 43 (by decide)) ((hS111).2 88 (by decide))), (by
                    unfold PB
                    have e922 : S111.1 54 41 = S51h.1 54 41 := hS111.1 41 (by decide)
                    have e923 : S51h.1 54 41 = S18.1 54 41 := hS51h.1 41 (by decide)
                    have e924 : S18.1 54 41 = S12.1 54 41 := hS18.1 41 (by decide)
                    have e925 : S12.1 54 41 = S7.1 54 41 := hS12.1 41 (by decide)
                    have e926 : S7.1 54 41 = S2.1 54 41 := hS7.1 41 (by decide)
                    have e927 : S2.1 54 41 = S.1 54 41 := hS2.1 41 (by decide)
                    have e928 : S111.1 54 56 = S51h.1 54 56 := hS111.1 56 (by decide)
                    have e929 : S111.1 54 51 = S51h.1 54 51 := hS111.1 51 (by decide)
                    first
                    | exact Or.inl (by omega)
                    | exact (Classical.em (-1 ≤ S111.1 54 59)).elim (fun hb => Or.inl hb) (fun hb => Or.inr ⟨by omega, by omega, by omega⟩)), (by
                    unfold P1
                    have e930 : S111.1 54 43 = S51h.1 54 43 := hS111.1 43 (by decide)
                    first | exact Or.inr (Or.inl (by omega)) | exact Or.inl (by omega)), by omega, by omega⟩, show (2 * (3020 - v51_1) + min 1 (max 0 (-1 - (S111.1 54 59)))).toNat < (2 * (3020 - v51_1) + min 1 (max 0 (-1 - (S51h.1 54 59)))).toNat by omega⟩
  · refine tX11_fail (by omega) (fun r39 S39 hS39 n39_0 => ?_)
    have e931 : S39.1 54 43 = S18.1 54 43 := hS39.1 43 (by decide)
    have e932 : S18.1 54 43 = S12.1 54 43 := hS18.1 43 (by decide)
    have e933 : S12.1 54 43 = S7.1 54 43 := hS12.1 43 (by decide)
    have e934 : S7.1 54 43 = S2.1 54 43 := hS7.1 43 (by decide)
    have e935 : S39.1 54 43 = S18.1 54 43 := hS39.1 43 (by decide)
    have e936 : S18.1 54 43 = S12.1 54 43 := hS18.1 43 (by decide)
    have e937 : S12.1 54 43 = S7.1 54 43 := hS12.1 43 (by decide)
    have e938 : S7.1 54 43 = S2.1 54 43 := hS7.1 43 (by decide)
    have e939 : S39.1 54 51 = S18.1 54 51 := hS39.1 51 (by decide)
    have e940 : S18.1 54 51 = S12.1 54 51 := hS18.1 51 (by decide)
    have e941 : S12.1 54 51 = S7.1 54 51 := hS12.1 51 (by decide)
    have e942 : S39.1 54 56 = S18.1 54 56 := hS39.1 56 (by decide)
    have e943 : S18.1 54 56 = S12.1 54 56 := hS18.1 56 (by decide)
    exact hK (0) S39 (Ch.wk (Ch.tr (Ch.tr (Ch.tr (Ch.tr hS2 hS7) hS12) hS18) hS39) (by decide) (by decide)) (by
          unfold PA
          intro x
          have e944 : S39.1 54 51 = S18.1 54 51 := hS39.1 51 (by decide)
          have e945 : S18.1 54 51 = S12.1 54 51 := hS18.1 51 (by decide)
          have e946 : S12.1 54 51 = S7.1 54 51 := hS12.1 51 (by decide)
          omega) (by
          unfold PR
          intro x
          have e947 : S39.1 54 43 = S18.1 54 43 := hS39.1 43 (by decide)
          have e948 : S18.1 54 43 = S12.1 54 43 := hS18.1 43 (by decide)
          have e949 : S12.1 54 43 = S7.1 54 43 := hS12.1 43 (by decide)
          have e950 : S7.1 54 43 = S2.1 54 43 := hS7.1 43 (by decide)
          omega) (by
          unfold PO
          intro x
          have e951 : S39.1 54 43 = S18.1 54 43 := hS39.1 43 (by decide)
          have e952 : S18.1 54 43 = S12.1 54 43 := hS18.1 43 (by decide)
          have e953 : S12.1 54 43 = S7.1 54 43 := hS12.1 43 (by decide)
          have e954 : S7.1 54 43 = S2.1 54 43 := hS7.1 43 (by decide)
          omega) (by omega) (by omega) (by omega)
