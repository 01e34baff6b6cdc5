set_option maxRecDepth 100000 in
set_option maxHeartbeats 4000000 in
theorem tX11_same {a1 : Int} {S : St} {K : Int → St → Prop} (p1 : HV S) (p2 : (S.1 54 18) = 0 ∨ 1 ≤ (S.2 67) 1) (p3 : (S.2 67) 0 ≤ 30) (p4 : (S.2 67) 1 ≤ 30) (hK : ∀ (r : Int) (S' : St), Ch [71] [105, 106] S S' → (iv 0 1 r) → K r S') : wX11_same a1 S K := by
  unfold wX11_same
  intro g1
  intro q1
  refine ⟨fun h4 => ?_, fun h4 => ?_⟩
  · exact hK (0) S (Ch.wk Ch.rf (by decide) (by decide)) (by omega)
  · refine tX11_isObject (by omega) (fun r10 n10_0 => ?_)
    refine ⟨by omega, ?_⟩
    refine ⟨fun h13 => ?_, fun h13 => ?_⟩
    · intro S20 hS20e
      have hS20 : Ch [71] [] S S20 := Ch_I hS20e
      have hS20v : S20.1 54 71 = 0 := pI_at hS20e
      have e2 : S20.2 67 0 = S.2 67 0 := congrFun (hS20.2 67 (by decide)) _
      have e3 : S20.2 67 1 = S.2 67 1 := congrFun (hS20.2 67 (by decide)) _
      have e4 : S20.2 67 0 = S.2 67 0 := congrFun (hS20.2 67 (by decide)) _
      have e5 : S20.2 67 1 = S.2 67 1 := congrFun (hS20.2 67 (by decide)) _
      refine tX11_pair (by omega) (by omega) (by omega) (by omega) (by unfold PI0; intro x; omega) (by unfold PD0; intro x y; omega) (by omega) (fun r26 S26 hS26 n26_0 n26_1 n26_2 n26_3 n26_4 => ?_)
      unfold wX11_same_32
      refine ⟨fun u2 u3 Sx => Ch [71] [105, 106] S26 Sx ∧ (iv 0 1 u2) ∧ (iv 0 30 u3) ∧ (PI0 Sx) ∧ (PD0 Sx) ∧ ((Sx.1 54 71) ≤ 30), fun u2 u3 Sx => (31 - u3).toNat, ?_, fun v32_2 v32_3 S32h hI => ?_⟩
      · exact ⟨Ch.re, by omega, by omega, n26_1, n26_2, by omega⟩
      obtain ⟨hS32h, i32_0, i32_1, i32_2, i32_3, i32_4⟩ := hI
      unfold wX11_same_32'
      intro q6
      refine ⟨by omega, ?_⟩
      refine ⟨fun h37 => ?_, fun h37 => ?_⟩
      · refine ⟨by omega, ?_⟩
        exact hK (v32_2) S32h (Ch.wk (Ch.tr (Ch.tr hS20 hS26) hS32h) (by decide) (by decide)) (by omega)
      · refine ⟨by omega, ?_⟩
        refine ⟨fun h41 => ?_, fun h41 => ?_⟩
        · refine ⟨by omega, ?_⟩
          exact hK (v32_2) S32h (Ch.wk (Ch.tr (Ch.tr hS20 hS26) hS32h) (by decide) (by decide)) (by omega)
        · refine ⟨by omega, by omega, ?_⟩
          intro q7
          have hpi := (((i32_2 v32_3).resolve_left (by omega)).resolve_left (by omega))
          refine ⟨by omega, by omega, ?_⟩
          intro q8
          have e9 : S32h.2 67 0 = S26.2 67 0 := congrFun (hS32h.2 67 (by decide)) _
          have e10 : S26.2 67 0 = S20.2 67 0 := congrFun (hS26.2 67 (by decide)) _
          have e11 : S20.2 67 0 = S.2 67 0 := congrFun (hS20.2 67 (by decide)) _
          have e12 : S32h.2 67 1 = S26.2 67 1 := congrFun (hS32h.2 67 (by decide)) _
          have e13 : S26.2 67 1 = S20.2 67 1 := congrFun (hS26.2 67 (by decide)) _
          have e14 : S20.2 67 1 = S.2 67 1 := congrFun (hS20.2 67 (by decide)) _
          have e15 : S32h.2 67 0 = S26.2 67 0 := congrFun (hS32h.2 67 (by decide)) _
          have e16 : S26.2 67 0 = S20.2 67 0 := congrFun (hS26.2 67 (by decide)) _
          have e17 : S20.2 67 0 = S.2 67 0 := congrFun (hS20.2 67 (by decide)) _
          have e18 : S32h.2 67 1 = S26.2 67 1 := congrFun (hS32h.2 67 (by decide)) _
          have e19 : S26.2 67 1 = S20.2 67 1 := congrFun (hS26.2 67 (by decide)) _
          have e20 : S20.2 67 1 = S.2 67 1 := congrFun (hS20.2 67 (by decide)) _
          refine tX11_areSame (by omega) (by omega) (HV.mv p1 (((Ch.tr (Ch.tr hS20 hS26) hS32h)).1 2 (by decide)) (((Ch.tr (Ch.tr hS20 hS26) hS32h)).2 59 (by decide)) (((Ch.tr (Ch.tr hS20 hS26) hS32h)).2 67 (by decide)) (((Ch.tr (Ch.tr hS20 hS26) hS32h)).2 68 (by decide)) (((Ch.tr (Ch.tr hS20 hS26) hS32h)).2 69 (by decide)) (((Ch.tr (Ch.tr hS20 hS26) hS32h)).2 70 (by decide))) (i32_2) (i32_3) (by omega) (by omega) (by omega) (fun r57 S57 hS57 n57_0 n57_1 n57_2 n57_3 n57_4 => ?_)
          exact ⟨⟨(Ch.wk (Ch.tr hS32h hS57) (by decide) (by decide)), by omega, by omega, n57_1, n57_2, by omega⟩, show (31 - ((v32_3 + 1))).toNat < (31 - v32_3).toNat by omega⟩
    · exact hK (0) S (Ch.wk Ch.rf (by decide) (by decide)) (by omega)

