set_option maxRecDepth 100000 in
set_option maxHeartbeats 4000000 in
theorem tX11_leads {a1 : Int} {S : St} {K : Int → St → Prop} (p1 : iv 0 199 a1) (p2 : a1 < (S.1 54 43)) (p3 : (S.1 54 43) ≤ 200) (p4 : PR S) (p5 : PA S) (p6 : OKg S 2 60) (p7 : OLg S 2 60) (p8 : (S.1 54 51) ≤ 600) (p9 : iv 0 30 ((S.2 67) 2)) (p10 : (S.1 54 56) ≤ 3000) (p11 : EA S ((S.1 54 43))) (p12 : (S.2 98) a1 = 5) (hK : ∀ (r : Int) (S' : St), Ch [67] [69, 70, 104] S S' → (iv 0 1 r) → (OKg S' 2 60) → (OLg S' 2 60) → (FR S S') → (r = 0 ∨ 1 ≤ a1) → K r S') : wX11_leads a1 S K := by
  unfold wX11_leads
  intro g1
  have hpr := p4.at (x := a1) (by omega) (by omega)
  have hEI := p11.at (x := a1) (by omega) (by omega)
  unfold EI at hEI
  obtain ⟨hE1, hE2, hE3, hE4⟩ := hEI
  have hE5 := hE3.resolve_left (fun h => h p12)
  clear hE1 hE2 hE3 hE4
  refine tX11_target (by omega) (by omega) (p4) (p5) (by omega) (by omega) (by omega) (by omega) (fun r2 S2 hS2 n2_0 => ?_)
  refine ⟨by omega, ?_⟩
  refine ⟨fun h9 => ?_, fun h9 => ?_⟩
  · have hEt := p11.at (x := r2) (by omega) (by omega)
    unfold EI at hEt
    have hEt2 := hEt.2.1.resolve_left (by omega)
    clear hEt
    refine ⟨by omega, by omega, ?_⟩
    intro q1
    have e2 : S2.2 100 (a1) = S.2 100 (a1) := congrFun (hS2.2 100 (by decide)) _
    intro x20 hx20
    subst hx20
    refine ⟨fun h24 => ?_, fun h24 => ?_⟩
    · unfold wX11_leads_73
      refine ⟨by omega, ?_⟩
      refine ⟨fun h76 => ?_, fun h76 => ?_⟩
      · unfold wX11_leads_105
        refine ⟨by omega, ?_⟩
        refine ⟨fun h108 => ?_, fun h108 => ?_⟩
        · exact hK (1) S2 (Ch.wk hS2 (by decide) (by decide)) (by omega) (p6.mv ((hS2).2 59 (by decide)) ((hS2).2 67 (by decide)) ((hS2).2 68 (by decide)) ((hS2).2 69 (by decide))) (p7.mv ((hS2).2 59 (by decide)) ((hS2).2 67 (by decide)) ((hS2).2 68 (by decide)) ((hS2).2 69 (by decide)) ((hS2).2 70 (by decide))) (FR.re ((hS2).2 67 (by decide)) ((hS2).2 68 (by decide)) ((hS2).2 69 (by decide)) ((hS2).2 70 (by decide))) (by omega)
        · refine ⟨by omega, by omega, ?_⟩
          intro q3
          have e4 : S2.2 101 (a1) = S.2 101 (a1) := congrFun (hS2.2 101 (by decide)) _
          refine ⟨by omega, by omega, ?_⟩
          intro q5
          have e6 : S2.2 99 (r2) = S.2 99 (r2) := congrFun (hS2.2 99 (by decide)) _
          refine ⟨by omega, by omega, ?_⟩
          refine ⟨by omega, ?_⟩
          intro S132 hS132e
          have hS132 : Ch [] [70] S2 S132 := Ch_A hS132e
          have hS132v : ∀ x, (x = ((20 * (S2.2 100 (a1))) + S2.2 101 (a1)) ∧ S132.2 70 x = S2.2 99 (r2)) ∨ (¬ x = ((20 * (S2.2 100 (a1))) + S2.2 101 (a1)) ∧ S132.2 70 x = S2.2 70 x) := pA_at hS132e
          have hOKp : OKg S2 2 60 := p6.mv ((hS2).2 59 (by decide)) ((hS2).2 67 (by decide)) ((hS2).2 68 (by decide)) ((hS2).2 69 (by decide))
          have hOLp : OLg S2 2 60 := p7.mv ((hS2).2 59 (by decide)) ((hS2).2 67 (by decide)) ((hS2).2 68 (by decide)) ((hS2).2 69 (by decide)) ((hS2).2 70 (by decide))
          have hcp : S2.2 67 2 = S.2 67 2 := congrFun ((hS2).2 67 (by decide)) _
          have hRI := ref_item (k := S.2 100 a1) (i := S.2 101 a1) (w := (S2.2 99 (r2))) hOKp hOLp ((hS132).2 59 (by decide)) ((hS132).2 67 (by decide)) ((hS132).2 68 (by decide)) ((hS132).2 69 (by decide)) (fun x => by have q := hS132v x; omega) (by omega) (by omega) (by omega)
          exact hK (1) S132 (Ch.wk (Ch.tr hS2 hS132) (by decide) (by decide)) (by omega) (hRI.1) (hRI.2) ((FR.re ((hS2).2 67 (by decide)) ((hS2).2 68 (by decide)) ((hS2).2 69 (by decide)) ((hS2).2 70 (by decide))).tr ⟨fun x => Or.inr (congrFun ((hS132).2 67 (by decide)) _), fun x => Or.inr (congrFun ((hS132).2 68 (by decide)) _), fun x => Or.inr (congrFun ((hS132).2 69 (by decide)) _), fun x => by have q := hS132v x; omega⟩) (by omega)
      · refine ⟨by omega, by omega, ?_⟩
        intro q7
        have e8 : S2.2 101 (a1) = S.2 101 (a1) := congrFun (hS2.2 101 (by decide)) _
        refine ⟨fun h87 => ?_, fun h87 => ?_⟩
        · unfold wX11_leads_105
          refine ⟨by omega, ?_⟩
          refine ⟨fun h108 => ?_, fun h108 => ?_⟩
          · exact hK (1) S2 (Ch.wk hS2 (by decide) (by decide)) (by omega) (p6.mv ((hS2).2 59 (by decide)) ((hS2).2 67 (by decide)) ((hS2).2 68 (by decide)) ((hS2).2 69 (by decide))) (p7.mv ((hS2).2 59 (by decide)) ((hS2).2 67 (by decide)) ((hS2).2 68 (by decide)) ((hS2).2 69 (by decide)) ((hS2).2 70 (by decide))) (FR.re ((hS2).2 67 (by decide)) ((hS2).2 68 (by decide)) ((hS2).2 69 (by decide)) ((hS2).2 70 (by decide))) (by omega)
          · refine ⟨by omega, by omega, ?_⟩
            intro q9
            have e10 : S2.2 101 (a1) = S.2 101 (a1) := congrFun (hS2.2 101 (by decide)) _
            refine ⟨by omega, by omega, ?_⟩
            intro q11
            have e12 : S2.2 99 (r2) = S.2 99 (r2) := congrFun (hS2.2 99 (by decide)) _
            refine ⟨by omega, by omega, ?_⟩
            refine ⟨by omega, ?_⟩
            intro S132 hS132e
            have hS132 : Ch [] [70] S2 S132 := Ch_A hS132e
            have hS132v : ∀ x, (x = ((20 * (S2.2 100 (a1))) + S2.2 101 (a1)) ∧ S132.2 70 x = S2.2 99 (r2)) ∨ (¬ x = ((20 * (S2.2 100 (a1))) + S2.2 101 (a1)) ∧ S132.2 70 x = S2.2 70 x) := pA_at hS132e
            have hOKp : OKg S2 2 60 := p6.mv ((hS2).2 59 (by decide)) ((hS2).2 67 (by decide)) ((hS2).2 68 (by decide)) ((hS2).2 69 (by decide))
            have hOLp : OLg S2 2 60 := p7.mv ((hS2).2 59 (by decide)) ((hS2).2 67 (by decide)) ((hS2).2 68 (by decide)) ((hS2).2 69 (by decide)) ((hS2).2 70 (by decide))
            have hcp : S2.2 67 2 = S.2 67 2 := congrFun ((hS2).2 67 (by decide)) _
            have hRI := ref_item (k := S.2 100 a1) (i := S.2 101 a1) (w := (S2.2 99 (r2))) hOKp hOLp ((hS132).2 59 (by decide)) ((hS132).2 67 (by decide)) ((hS132).2 68 (by decide)) ((hS132).2 69 (by decide)) (fun x => by have q := hS132v x; omega) (by omega) (by omega) (by omega)
            exact hK (1) S132 (Ch.wk (Ch.tr hS2 hS132) (by decide) (by decide)) (by omega) (hRI.1) (hRI.2) ((FR.re ((hS2).2 67 (by decide)) ((hS2).2 68 (by decide)) ((hS2).2 69 (by decide)) ((hS2).2 70 (by decide))).tr ⟨fun x => Or.inr (congrFun ((hS132).2 67 (by decide)) _), fun x => Or.inr (congrFun ((hS132).2 68 (by decide)) _), fun x => Or.inr (congrFun ((hS132).2 69 (by decide)) _), fun x => by have q := hS132v x; omega⟩) (by omega)
        · refine ⟨by omega, by omega, ?_⟩
          intro q13
          have e14 : S2.2 99 (r2) = S.2 99 (r2) := congrFun (hS2.2 99 (by decide)) _
          refine ⟨by omega, by omega, ?_⟩
          refine ⟨by omega, ?_⟩
          intro S101 hS101e
          have hS101 : Ch [] [69] S2 S101 := Ch_A hS101e
          have hS101v : ∀ x, (x = (S2.2 100 (a1)) ∧ S101.2 69 x = S2.2 99 (r2)) ∨ (¬ x = (S2.2 100 (a1)) ∧ S101.2 69 x = S2.2 69 x) := pA_at hS101e
          have hOKp : OKg S2 2 60 := p6.mv ((hS2).2 59 (by decide)) ((hS2).2 67 (by decide)) ((hS2).2 68 (by decide)) ((hS2).2 69 (by decide))
          have hOLp : OLg S2 2 60 := p7.mv ((hS2).2 59 (by decide)) ((hS2).2 67 (by decide)) ((hS2).2 68 (by decide)) ((hS2).2 69 (by decide)) ((hS2).2 70 (by decide))
          have hcp : S2.2 67 2 = S.2 67 2 := congrFun ((hS2).2 67 (by decide)) _
          have hrk : rk S2 (S.2 100 a1) = 2 := by
            unfold rk
            rw [show S2.2 59 = S.2 59 from ((hS2).2 59 (by decide)), show S2.2 68 = S.2 68 from ((hS2).2 68 (by decide))]
            unfold rk at hE5
            omega
          have hRV := ref_val (k := S.2 100 a1) (w := (S2.2 99 (r2))) hOKp hOLp ((hS101).2 59 (by decide)) ((hS101).2 67 (by decide)) ((hS101).2 68 (by decide)) ((hS101).2 70 (by decide)) (fun x => by have q := hS101v x; omega) (by omega) hrk (by omega)
          exact hK (1) S101 (Ch.wk (Ch.tr hS2 hS101) (by decide) (by decide)) (by omega) (hRV.1) (hRV.2) ((FR.re ((hS2).2 67 (by decide)) ((hS2).2 68 (by decide)) ((hS2).2 69 (by decide)) ((hS2).2 70 (by decide))).tr ⟨fun x => Or.inr (congrFun ((hS101).2 67 (by decide)) _), fun x => Or.inr (congrFun ((hS101).2 68 (by decide)) _), fun x => by have q := hS101v x; omega, fun x => Or.inr (congrFun ((hS101).2 70 (by decide)) _)⟩) (by omega)
    · refine ⟨by omega, by omega, ?_⟩
      intro q15
      have e16 : S2.2 101 (a1) = S.2 101 (a1) := congrFun (hS2.2 101 (by decide)) _
      refine ⟨fun h35 => ?_, fun h35 => ?_⟩
      · unfold wX11_leads_73
        refine ⟨by omega, ?_⟩
        refine ⟨fun h76 => ?_, fun h76 => ?_⟩
        · unfold wX11_leads_105
          refine ⟨by omega, ?_⟩
          refine ⟨fun h108 => ?_, fun h108 => ?_⟩
          · exact hK (1) S2 (Ch.wk hS2 (by decide) (by decide)) (by omega) (p6.mv ((hS2).2 59 (by decide)) ((hS2).2 67 (by decide)) ((hS2).2 68 (by decide)) ((hS2).2 69 (by decide))) (p7.mv ((hS2).2 59 (by decide)) ((hS2).2 67 (by decide)) ((hS2).2 68 (by decide)) ((hS2).2 69 (by decide)) ((hS2).2 70 (by decide))) (FR.re ((hS2).2 67 (by decide)) ((hS2).2 68 (by decide)) ((hS2).2 69 (by decide)) ((hS2).2 70 (by decide))) (by omega)
          · refine ⟨by omega, by omega, ?_⟩
            intro q17
            have e18 : S2.2 101 (a1) = S.2 101 (a1) := congrFun (hS2.2 101 (by decide)) _
            refine ⟨by omega, by omega, ?_⟩
            intro q19
            have e20 : S2.2 99 (r2) = S.2 99 (r2) := congrFun (hS2.2 99 (by decide)) _
            refine ⟨by omega, by omega, ?_⟩
            refine ⟨by omega, ?_⟩
            intro S132 hS132e
            have hS132 : Ch [] [70] S2 S132 := Ch_A hS132e
            have hS132v : ∀ x, (x = ((20 * (S2.2 100 (a1))) + S2.2 101 (a1)) ∧ S132.2 70 x = S2.2 99 (r2)) ∨ (¬ x = ((20 * (S2.2 100 (a1))) + S2.2 101 (a1)) ∧ S132.2 70 x = S2.2 70 x) := pA_at hS132e
            have hOKp : OKg S2 2 60 := p6.mv ((hS2).2 59 (by decide)) ((hS2).2 67 (by decide)) ((hS2).2 68 (by decide)) ((hS2).2 69 (by decide))
            have hOLp : OLg S2 2 60 := p7.mv ((hS2).2 59 (by decide)) ((hS2).2 67 (by decide)) ((hS2).2 68 (by decide)) ((hS2).2 69 (by decide)) ((hS2).2 70 (by decide))
            have hcp : S2.2 67 2 = S.2 67 2 := congrFun ((hS2).2 67 (by decide)) _
            have hRI := ref_item (k := S.2 100 a1) (i := S.2 101 a1) (w := (S2.2 99 (r2))) hOKp hOLp ((hS132).2 59 (by decide)) ((hS132).2 67 (by decide)) ((hS132).2 68 (by decide)) ((hS132).2 69 (by decide)) (fun x => by have q := hS132v x; omega) (by omega) (by omega) (by omega)
            exact hK (1) S132 (Ch.wk (Ch.tr hS2 hS132) (by decide) (by decide)) (by omega) (hRI.1) (hRI.2) ((FR.re ((hS2).2 67 (by decide)) ((hS2).2 68 (by decide)) ((hS2).2 69 (by decide)) ((hS2).2 70 (by decide))).tr ⟨fun x => Or.inr (congrFun ((hS132).2 67 (by decide)) _), fun x => Or.inr (congrFun ((hS132).2 68 (by decide)) _), fun x => Or.inr (congrFun ((hS132).2 69 (by decide)) _), fun x => by have q := hS132v x; omega⟩) (by omega)
        · refine ⟨by omega, by omega, ?_⟩
          intro q21
          have e22 : S2.2 101 (a1) = S.2 101 (a1) := congrFun (hS2.2 101 (by decide)) _
          refine ⟨fun h87 => ?_, fun h87 => ?_⟩
          · unfold wX11_leads_105
            refine ⟨by omega, ?_⟩
            refine ⟨fun h108 => ?_, fun h108 => ?_⟩
            · exact hK (1) S2 (Ch.wk hS2 (by decide) (by decide)) (by omega) (p6.mv ((hS2).2 59 (by decide)) ((hS2).2 67 (by decide)) ((hS2).2 68 (by decide)) ((hS2).2 69 (by decide))) (p7.mv ((hS2).2 59 (by decide)) ((hS2).2 67 (by decide)) ((hS2).2 68 (by decide)) ((hS2).2 69 (by decide)) ((hS2).2 70 (by decide))) (FR.re ((hS2).2 67 (by decide)) ((hS2).2 68 (by decide)) ((hS2).2 69 (by decide)) ((hS2).2 70 (by decide))) (by omega)
            · refine ⟨by omega, by omega, ?_⟩
              intro q23
              have e24 : S2.2 101 (a1) = S.2 101 (a1) := congrFun (hS2.2 101 (by decide)) _
              refine ⟨by omega, by omega, ?_⟩
              intro q25
              have e26 : S2.2 99 (r2) = S.2 99 (r2) := congrFun (hS2.2 99 (by decide)) _
              refine ⟨by omega, by omega, ?_⟩
              refine ⟨by omega, ?_⟩
              intro S132 hS132e
              have hS132 : Ch [] [70] S2 S132 := Ch_A hS132e
              have hS132v : ∀ x, (x = ((20 * (S2.2 100 (a1))) + S2.2 101 (a1)) ∧ S132.2 70 x = S2.2 99 (r2)) ∨ (¬ x = ((20 * (S2.2 100 (a1))) + S2.2 101 (a1)) ∧ S132.2 70 x = S2.2 70 x) := pA_at hS132e
              have hOKp : OKg S2 2 60 := p6.mv ((hS2).2 59 (by decide)) ((hS2).2 67 (by decide)) ((hS2).2 68 (by decide)) ((hS2).2 69 (by decide))
              have hOLp : OLg S2 2 60 := p7.mv ((hS2).2 59 (by decide)) ((hS2).2 67 (by decide)) ((hS2).2 68 (by decide)) ((hS2).2 69 (by decide)) ((hS2).2 70 (by decide))
              have hcp : S2.2 67 2 = S.2 67 2 := congrFun ((hS2).2 67 (by decide)) _
              have hRI := ref_item (k := S.2 100 a1) (i := S.2 101 a1) (w := (S2.2 99 (r2))) hOKp hOLp ((hS132).2 59 (by decide)) ((hS132).2 67 (by decide)) ((hS132).2 68 (by decide)) ((hS132).2 69 (by decide)) (fun x => by have q := hS132v x; omega) (by omega) (by omega) (by omega)
              exact hK (1) S132 (Ch.wk (Ch.tr hS2 hS132) (by decide) (by decide)) (by omega) (hRI.1) (hRI.2) ((FR.re ((hS2).2 67 (by decide)) ((hS2).2 68 (by decide)) ((hS2).2 69 (by decide)) ((hS2).2 70 (by decide))).tr ⟨fun x => Or.inr (congrFun ((hS132).2 67 (by decide)) _), fun x => Or.inr (congrFun ((hS132).2 68 (by decide)) _), fun x => Or.inr (congrFun ((hS132).2 69 (by decide)) _), fun x => by have q := hS132v x; omega⟩) (by omega)
          · refine ⟨by omega, by omega, ?_⟩
            intro q27
            have e28 : S2.2 99 (r2) = S.2 99 (r2) := congrFun (hS2.2 99 (by decide)) _
            refine ⟨by omega, by omega, ?_⟩
            refine ⟨by omega, ?_⟩
            intro S101 hS101e
            have hS101 : Ch [] [69] S2 S101 := Ch_A hS101e
            have hS101v : ∀ x, (x = (S2.2 100 (a1)) ∧ S101.2 69 x = S2.2 99 (r2)) ∨ (¬ x = (S2.2 100 (a1)) ∧ S101.2 69 x = S2.2 69 x) := pA_at hS101e
            have hOKp : OKg S2 2 60 := p6.mv ((hS2).2 59 (by decide)) ((hS2).2 67 (by decide)) ((hS2).2 68 (by decide)) ((hS2).2 69 (by decide))
            have hOLp : OLg S2 2 60 := p7.mv ((hS2).2 59 (by decide)) ((hS2).2 67 (by decide)) ((hS2).2 68 (by decide)) ((hS2).2 69 (by decide)) ((hS2).2 70 (by decide))
            have hcp : S2.2 67 2 = S.2 67 2 := congrFun ((hS2).2 67 (by decide)) _
            have hrk : rk S2 (S.2 100 a1) = 2 := by
              unfold rk
              rw [show S2.2 59 = S.2 59 from ((hS2).2 59 (by decide)), show S2.2 68 = S.2 68 from ((hS2).2 68 (by decide))]
              unfold rk at hE5
              omega
            have hRV := ref_val (k := S.2 100 a1) (w := (S2.2 99 (r2))) hOKp hOLp ((hS101).2 59 (by decide)) ((hS101).2 67 (by decide)) ((hS101).2 68 (by decide)) ((hS101).2 70 (by decide)) (fun x => by have q := hS101v x; omega) (by omega) hrk (by omega)
            exact hK (1) S101 (Ch.wk (Ch.tr hS2 hS101) (by decide) (by decide)) (by omega) (hRV.1) (hRV.2) ((FR.re ((hS2).2 67 (by decide)) ((hS2).2 68 (by decide)) ((hS2).2 69 (by decide)) ((hS2).2 70 (by decide))).tr ⟨fun x => Or.inr (congrFun ((hS101).2 67 (by decide)) _), fun x => Or.inr (congrFun ((hS101).2 68 (by decide)) _), fun x => by have q := hS101v x; omega, fun x => Or.inr (congrFun ((hS101).2 70 (by decide)) _)⟩) (by omega)
      · refine ⟨by omega, by omega, ?_⟩
        intro q29
        have e30 : S2.2 86 (a1) = S.2 86 (a1) := congrFun (hS2.2 86 (by decide)) _
        refine ⟨by omega, by omega, ?_⟩
        intro q31
        have e32 : S2.2 87 (a1) = S.2 87 (a1) := congrFun (hS2.2 87 (by decide)) _
        have e33 : S2.1 54 2 = S.1 54 2 := hS2.1 2 (by decide)
        have e34 : S2.1 54 2 = S.1 54 2 := hS2.1 2 (by decide)
        refine tX11_classNamed (by omega) (by omega) (by omega) (fun r51 n51_0 n51_1 => ?_)
        refine ⟨by omega, by omega, ?_⟩
        intro q35
        have e36 : S2.2 99 (r2) = S.2 99 (r2) := congrFun (hS2.2 99 (by decide)) _
        refine ⟨by omega, by omega, ?_⟩
        intro q37
        have e38 : S2.2 68 ((60 + S2.2 99 (r2))) = S.2 68 ((60 + S2.2 99 (r2))) := congrFun (hS2.2 68 (by decide)) _
        refine ⟨by omega, ?_⟩
        refine ⟨fun h68 => ?_, fun h68 => ?_⟩
        · unfold wX11_leads_73
          refine ⟨by omega, ?_⟩
          refine ⟨fun h76 => ?_, fun h76 => ?_⟩
          · unfold wX11_leads_105
            refine ⟨by omega, ?_⟩
            refine ⟨fun h108 => ?_, fun h108 => ?_⟩
            · exact hK (1) S2 (Ch.wk hS2 (by decide) (by decide)) (by omega) (p6.mv ((hS2).2 59 (by decide)) ((hS2).2 67 (by decide)) ((hS2).2 68 (by decide)) ((hS2).2 69 (by decide))) (p7.mv ((hS2).2 59 (by decide)) ((hS2).2 67 (by decide)) ((hS2).2 68 (by decide)) ((hS2).2 69 (by decide)) ((hS2).2 70 (by decide))) (FR.re ((hS2).2 67 (by decide)) ((hS2).2 68 (by decide)) ((hS2).2 69 (by decide)) ((hS2).2 70 (by decide))) (by omega)
            · refine ⟨by omega, by omega, ?_⟩
              intro q39
              have e40 : S2.2 101 (a1) = S.2 101 (a1) := congrFun (hS2.2 101 (by decide)) _
              refine ⟨by omega, by omega, ?_⟩
              intro q41
              have e42 : S2.2 99 (r2) = S.2 99 (r2) := congrFun (hS2.2 99 (by decide)) _
              refine ⟨by omega, by omega, ?_⟩
              refine ⟨by omega, ?_⟩
              intro S132 hS132e
              have hS132 : Ch [] [70] S2 S132 := Ch_A hS132e
              have hS132v : ∀ x, (x = ((20 * (S2.2 100 (a1))) + S2.2 101 (a1)) ∧ S132.2 70 x = S2.2 99 (r2)) ∨ (¬ x = ((20 * (S2.2 100 (a1))) + S2.2 101 (a1)) ∧ S132.2 70 x = S2.2 70 x) := pA_at hS132e
              have hOKp : OKg S2 2 60 := p6.mv ((hS2).2 59 (by decide)) ((hS2).2 67 (by decide)) ((hS2).2 68 (by decide)) ((hS2).2 69 (by decide))
              have hOLp : OLg S2 2 60 := p7.mv ((hS2).2 59 (by decide)) ((hS2).2 67 (by decide)) ((hS2).2 68 (by decide)) ((hS2).2 69 (by decide)) ((hS2).2 70 (by decide))
              have hcp : S2.2 67 2 = S.2 67 2 := congrFun ((hS2).2 67 (by decide)) _
              have hRI := ref_item (k := S.2 100 a1) (i := S.2 101 a1) (w := (S2.2 99 (r2))) hOKp hOLp ((hS132).2 59 (by decide)) ((hS132).2 67 (by decide)) ((hS132).2 68 (by decide)) ((hS132).2 69 (by decide)) (fun x => by have q := hS132v x; omega) (by omega) (by omega) (by omega)
              exact hK (1) S132 (Ch.wk (Ch.tr hS2 hS132) (by decide) (by decide)) (by omega) (hRI.1) (hRI.2) ((FR.re ((hS2).2 67 (by decide)) ((hS2).2 68 (by decide)) ((hS2).2 69 (by decide)) ((hS2).2 70 (by decide))).tr ⟨fun x => Or.inr (congrFun ((hS132).2 67 (by decide)) _), fun x => Or.inr (congrFun ((hS132).2 68 (by decide)) _), fun x => Or.inr (congrFun ((hS132).2 69 (by decide)) _), fun x => by have q := hS132v x; omega⟩) (by omega)
          · refine ⟨by omega, by omega, ?_⟩
            intro q43
            have e44 : S2.2 101 (a1) = S.2 101 (a1) := congrFun (hS2.2 101 (by decide)) _
            refine ⟨fun h87 => ?_, fun h87 => ?_⟩
            · unfold wX11_leads_105
              refine ⟨by omega, ?_⟩
              refine ⟨fun h108 => ?_, fun h108 => ?_⟩
              · exact hK (1) S2 (Ch.wk hS2 (by decide) (by decide)) (by omega) (p6.mv ((hS2).2 59 (by decide)) ((hS2).2 67 (by decide)) ((hS2).2 68 (by decide)) ((hS2).2 69 (by decide))) (p7.mv ((hS2).2 59 (by decide)) ((hS2).2 67 (by decide)) ((hS2).2 68 (by decide)) ((hS2).2 69 (by decide)) ((hS2).2 70 (by decide))) (FR.re ((hS2).2 67 (by decide)) ((hS2).2 68 (by decide)) ((hS2).2 69 (by decide)) ((hS2).2 70 (by decide))) (by omega)
              · refine ⟨by omega, by omega, ?_⟩
                intro q45
                have e46 : S2.2 101 (a1) = S.2 101 (a1) := congrFun (hS2.2 101 (by decide)) _
                refine ⟨by omega, by omega, ?_⟩
                intro q47
                have e48 : S2.2 99 (r2) = S.2 99 (r2) := congrFun (hS2.2 99 (by decide)) _
                refine ⟨by omega, by omega, ?_⟩
                refine ⟨by omega, ?_⟩
                intro S132 hS132e
                have hS132 : Ch [] [70] S2 S132 := Ch_A hS132e
                have hS132v : ∀ x, (x = ((20 * (S2.2 100 (a1))) + S2.2 101 (a1)) ∧ S132.2 70 x = S2.2 99 (r2)) ∨ (¬ x = ((20 * (S2.2 100 (a1))) + S2.2 101 (a1)) ∧ S132.2 70 x = S2.2 70 x) := pA_at hS132e
                have hOKp : OKg S2 2 60 := p6.mv ((hS2).2 59 (by decide)) ((hS2).2 67 (by decide)) ((hS2).2 68 (by decide)) ((hS2).2 69 (by decide))
                have hOLp : OLg S2 2 60 := p7.mv ((hS2).2 59 (by decide)) ((hS2).2 67 (by decide)) ((hS2).2 68 (by decide)) ((hS2).2 69 (by decide)) ((hS2).2 70 (by decide))
                have hcp : S2.2 67 2 = S.2 67 2 := congrFun ((hS2).2 67 (by decide)) _
                have hRI := ref_item (k := S.2 100 a1) (i := S.2 101 a1) (w := (S2.2 99 (r2))) hOKp hOLp ((hS132).2 59 (by decide)) ((hS132).2 67 (by decide)) ((hS132).2 68 (by decide)) ((hS132).2 69 (by decide)) (fun x => by have q := hS132v x; omega) (by omega) (by omega) (by omega)
                exact hK (1) S132 (Ch.wk (Ch.tr hS2 hS132) (by decide) (by decide)) (by omega) (hRI.1) (hRI.2) ((FR.re ((hS2).2 67 (by decide)) ((hS2).2 68 (by decide)) ((hS2).2 69 (by decide)) ((hS2).2 70 (by decide))).tr ⟨fun x => Or.inr (congrFun ((hS132).2 67 (by decide)) _), fun x => Or.inr (congrFun ((hS132).2 68 (by decide)) _), fun x => Or.inr (congrFun ((hS132).2 69 (by decide)) _), fun x => by have q := hS132v x; omega⟩) (by omega)
            · refine ⟨by omega, by omega, ?_⟩
              intro q49
              have e50 : S2.2 99 (r2) = S.2 99 (r2) := congrFun (hS2.2 99 (by decide)) _
              refine ⟨by omega, by omega, ?_⟩
              refine ⟨by omega, ?_⟩
              intro S101 hS101e
              have hS101 : Ch [] [69] S2 S101 := Ch_A hS101e
              have hS101v : ∀ x, (x = (S2.2 100 (a1)) ∧ S101.2 69 x = S2.2 99 (r2)) ∨ (¬ x = (S2.2 100 (a1)) ∧ S101.2 69 x = S2.2 69 x) := pA_at hS101e
              have hOKp : OKg S2 2 60 := p6.mv ((hS2).2 59 (by decide)) ((hS2).2 67 (by decide)) ((hS2).2 68 (by decide)) ((hS2).2 69 (by decide))
              have hOLp : OLg S2 2 60 := p7.mv ((hS2).2 59 (by decide)) ((hS2).2 67 (by decide)) ((hS2).2 68 (by decide)) ((hS2).2 69 (by decide)) ((hS2).2 70 (by decide))
              have hcp : S2.2 67 2 = S.2 67 2 := congrFun ((hS2).2 67 (by decide)) _
              have hrk : rk S2 (S.2 100 a1) = 2 := by
                unfold rk
                rw [show S2.2 59 = S.2 59 from ((hS2).2 59 (by decide)), show S2.2 68 = S.2 68 from ((hS2).2 68 (by decide))]
                unfold rk at hE5
                omega
              have hRV := ref_val (k := S.2 100 a1) (w := (S2.2 99 (r2))) hOKp hOLp ((hS101).2 59 (by decide)) ((hS101).2 67 (by decide)) ((hS101).2 68 (by decide)) ((hS101).2 70 (by decide)) (fun x => by have q := hS101v x; omega) (by omega) hrk (by omega)
              exact hK (1) S101 (Ch.wk (Ch.tr hS2 hS101) (by decide) (by decide)) (by omega) (hRV.1) (hRV.2) ((FR.re ((hS2).2 67 (by decide)) ((hS2).2 68 (by decide)) ((hS2).2 69 (by decide)) ((hS2).2 70 (by decide))).tr ⟨fun x => Or.inr (congrFun ((hS101).2 67 (by decide)) _), fun x => Or.inr (congrFun ((hS101).2 68 (by decide)) _), fun x => by have q := hS101v x; omega, fun x => Or.inr (congrFun ((hS101).2 70 (by decide)) _)⟩) (by omega)
        · exact hK (0) S2 (Ch.wk hS2 (by decide) (by decide)) (by omega) (p6.mv ((hS2).2 59 (by decide)) ((hS2).2 67 (by decide)) ((hS2).2 68 (by decide)) ((hS2).2 69 (by decide))) (p7.mv ((hS2).2 59 (by decide)) ((hS2).2 67 (by decide)) ((hS2).2 68 (by decide)) ((hS2).2 69 (by decide)) ((hS2).2 70 (by decide))) (FR.re ((hS2).2 67 (by decide)) ((hS2).2 68 (by decide)) ((hS2).2 69 (by decide)) ((hS2).2 70 (by decide))) (by omega)
  · exact hK (0) S2 (Ch.wk hS2 (by decide) (by decide)) (by omega) (p6.mv ((hS2).2 59 (by decide)) ((hS2).2 67 (by decide)) ((hS2).2 68 (by decide)) ((hS2).2 69 (by decide))) (p7.mv ((hS2).2 59 (by decide)) ((hS2).2 67 (by decide)) ((hS2).2 68 (by decide)) ((hS2).2 69 (by decide)) ((hS2).2 70 (by decide))) (FR.re ((hS2).2 67 (by decide)) ((hS2).2 68 (by decide)) ((hS2).2 69 (by decide)) ((hS2).2 70 (by decide))) (by omega)

