set_option maxRecDepth 100000 in
set_option maxHeartbeats 4000000 in
theorem tX11_isListed {a1 a2 a3 : Int} {S : St} {K : Int → St → Prop} (p1 : iv 0 199 a1) (p2 : a1 < (S.1 54 43)) (p3 : (S.1 54 43) ≤ 200) (p4 : PR S) (p5 : PA S) (p6 : OKg S 2 60) (p7 : OLg S 2 60) (p8 : (S.1 54 51) ≤ 600) (p9 : iv 0 30 ((S.2 67) 2)) (p10 : (S.1 54 56) ≤ 3000) (p11 : 0 ≤ a2 ∧ a2 < (S.2 67) 2) (p12 : iv 0 3 a3) (p13 : (S.2 59) (4 * (S.2 68) (60 + a2) + a3) = 3) (hK : ∀ (r : Int) (S' : St), Ch [67] [67, 68, 69, 70, 98, 99, 100, 101, 102, 103, 104] S S' → (iv 0 1 r) → (r = 0 ∨ (OKg S' 2 60 ∧ OLg S' 2 60)) → (FR S S') → ((S.2 67) 2 ≤ (S'.2 67) 2) → (∀ i, i < 0 ∨ (S.2 67) 2 ≤ i ∨ (S'.2 68) (60 + i) = (S.2 68) (60 + i)) → (∀ x, x = a1 ∨ (S'.2 98) x = (S.2 98) x) → (∀ x, x = a1 ∨ (S'.2 99) x = (S.2 99) x) → (∀ x, x = a1 ∨ (S'.2 100) x = (S.2 100) x) → (∀ x, x = a1 ∨ (S'.2 101) x = (S.2 101) x) → (r = 0 ∨ ((S'.2 98) a1 = 4 ∧ 0 ≤ (S'.2 99) a1 ∧ (S'.2 99) a1 < (S'.2 67) 2) ∨ ((S'.2 98) a1 = 5 ∧ (S.2 91) a1 = 1 ∧ ¬ (a1 + 1 < (S.1 54 43) ∧ (S.2 88) (a1 + 1) = a1))) → (r = 0 ∨ ((S'.2 100) a1 = (4 * (60 + a2) + a3) ∧ 0 ≤ (S'.2 101) a1)) → (iv 0 30 ((S'.2 67) 2)) → K r S') : wX11_isListed a1 a2 a3 S K := by
  unfold wX11_isListed
  intro g1 g2 g3
  have ht := p6.at2 (x := a2) (y := a3) (by omega) (by omega) (by omega) (by omega)
  unfold tyV at ht
  have ht3 := ht.2.2.resolve_left (fun h => h p13)
  clear ht
  intro x8 hx8
  subst hx8
  refine ⟨by omega, by omega, ?_⟩
  intro q1
  refine ⟨fun h19 => ?_, fun h19 => ?_⟩
  · refine ⟨by omega, by omega, ?_⟩
    refine ⟨by omega, ?_⟩
    intro S31 hS31e
    have hS31 : Ch [] [100] S S31 := Ch_A hS31e
    have hS31v : ∀ x, (x = a1 ∧ S31.2 100 x = (((4 * (60 + a2)) + a3))) ∨ (¬ x = a1 ∧ S31.2 100 x = S.2 100 x) := pA_at hS31e
    refine ⟨by omega, by omega, ?_⟩
    intro q2
    have e3 : S31.2 69 ((((4 * (60 + a2)) + a3))) = S.2 69 ((((4 * (60 + a2)) + a3))) := congrFun (hS31.2 69 (by decide)) _
    refine ⟨by omega, by omega, ?_⟩
    refine ⟨by omega, ?_⟩
    intro S44 hS44e
    have hS44 : Ch [] [101] S31 S44 := Ch_A hS44e
    have hS44v : ∀ x, (x = a1 ∧ S44.2 101 x = S31.2 69 ((((4 * (60 + a2)) + a3)))) ∨ (¬ x = a1 ∧ S44.2 101 x = S31.2 101 x) := pA_at hS44e
    refine ⟨by omega, by omega, ?_⟩
    intro q4
    have e5 : S44.2 69 ((((4 * (60 + a2)) + a3))) = S31.2 69 ((((4 * (60 + a2)) + a3))) := congrFun (hS44.2 69 (by decide)) _
    have e6 : S31.2 69 ((((4 * (60 + a2)) + a3))) = S.2 69 ((((4 * (60 + a2)) + a3))) := congrFun (hS31.2 69 (by decide)) _
    refine ⟨by omega, by omega, ?_⟩
    refine ⟨by omega, ?_⟩
    intro S55 hS55e
    have hS55 : Ch [] [69] S44 S55 := Ch_A hS55e
    have hS55v : ∀ x, (x = (((4 * (60 + a2)) + a3)) ∧ S55.2 69 x = (S44.2 69 ((((4 * (60 + a2)) + a3))) + 1)) ∨ (¬ x = (((4 * (60 + a2)) + a3)) ∧ S55.2 69 x = S44.2 69 x) := pA_at hS55e
    have ha69 : ∀ x : Int, (x = (4 * (60 + a2) + a3) ∧ S55.2 69 x = S.2 69 (4 * (60 + a2) + a3) + 1) ∨ (¬ x = (4 * (60 + a2) + a3) ∧ S55.2 69 x = S.2 69 x) := by
      intro x
      have q := hS55v x
      have q1 : S44.2 69 x = S.2 69 x := congrFun (((Ch.tr hS31 hS44)).2 69 (by decide)) _
      have q2 : S44.2 69 (4 * (60 + a2) + a3) = S.2 69 (4 * (60 + a2) + a3) := congrFun (((Ch.tr hS31 hS44)).2 69 (by decide)) _
      omega
    have hOK5 : OKg S55 2 60 := OK_slot (k := (4 * (60 + a2) + a3)) p6 (((Ch.tr (Ch.tr hS31 hS44) hS55)).2 59 (by decide)) (((Ch.tr (Ch.tr hS31 hS44) hS55)).2 67 (by decide)) (((Ch.tr (Ch.tr hS31 hS44) hS55)).2 68 (by decide)) (fun x => by have q := ha69 x; omega) (fun x y x0 x1 y0 y1 q => by
      have ex : x = a2 := by omega
      have ey : y = a3 := by omega
      subst ex
      subst ey
      have q := ha69 (4 * (60 + x) + y)
      unfold tyV
      omega)
    have e7 : S55.1 54 43 = S44.1 54 43 := hS55.1 43 (by decide)
    have e8 : S44.1 54 43 = S31.1 54 43 := hS44.1 43 (by decide)
    have e9 : S31.1 54 43 = S.1 54 43 := hS31.1 43 (by decide)
    have e10 : S55.1 54 43 = S44.1 54 43 := hS55.1 43 (by decide)
    have e11 : S44.1 54 43 = S31.1 54 43 := hS44.1 43 (by decide)
    have e12 : S31.1 54 43 = S.1 54 43 := hS31.1 43 (by decide)
    have e13 : S55.1 54 51 = S44.1 54 51 := hS55.1 51 (by decide)
    have e14 : S44.1 54 51 = S31.1 54 51 := hS44.1 51 (by decide)
    have e15 : S31.1 54 51 = S.1 54 51 := hS31.1 51 (by decide)
    have e16 : S55.2 67 2 = S44.2 67 2 := congrFun (hS55.2 67 (by decide)) _
    have e17 : S44.2 67 2 = S31.2 67 2 := congrFun (hS44.2 67 (by decide)) _
    have e18 : S31.2 67 2 = S.2 67 2 := congrFun (hS31.2 67 (by decide)) _
    have e19 : S55.1 54 56 = S44.1 54 56 := hS55.1 56 (by decide)
    have e20 : S44.1 54 56 = S31.1 54 56 := hS44.1 56 (by decide)
    have e21 : S31.1 54 56 = S.1 54 56 := hS31.1 56 (by decide)
    have e22 : S55.2 91 (a1) = S44.2 91 (a1) := congrFun (hS55.2 91 (by decide)) _
    have e23 : S44.2 91 (a1) = S31.2 91 (a1) := congrFun (hS44.2 91 (by decide)) _
    have e24 : S31.2 91 (a1) = S.2 91 (a1) := congrFun (hS31.2 91 (by decide)) _
    have e25 : S55.1 54 43 = S44.1 54 43 := hS55.1 43 (by decide)
    have e26 : S44.1 54 43 = S31.1 54 43 := hS44.1 43 (by decide)
    have e27 : S31.1 54 43 = S.1 54 43 := hS31.1 43 (by decide)
    have e28 : S55.2 88 ((a1) + 1) = S44.2 88 ((a1) + 1) := congrFun (hS55.2 88 (by decide)) _
    have e29 : S44.2 88 ((a1) + 1) = S31.2 88 ((a1) + 1) := congrFun (hS44.2 88 (by decide)) _
    have e30 : S31.2 88 ((a1) + 1) = S.2 88 ((a1) + 1) := congrFun (hS31.2 88 (by decide)) _
    refine tX11_isObjectElement (by omega) (by omega) (by omega) (PR.mv p4 (((Ch.tr (Ch.tr hS31 hS44) hS55)).1 43 (by decide)) (((Ch.tr (Ch.tr hS31 hS44) hS55)).1 51 (by decide)) (((Ch.tr (Ch.tr hS31 hS44) hS55)).2 86 (by decide)) (((Ch.tr (Ch.tr hS31 hS44) hS55)).2 87 (by decide)) (((Ch.tr (Ch.tr hS31 hS44) hS55)).2 88 (by decide)) (((Ch.tr (Ch.tr hS31 hS44) hS55)).2 90 (by decide)) (((Ch.tr (Ch.tr hS31 hS44) hS55)).2 91 (by decide))) (PA.mv2 p5 (((Ch.tr (Ch.tr hS31 hS44) hS55)).1 51 (by decide)) (((Ch.tr (Ch.tr hS31 hS44) hS55)).1 56 (by decide)) (((Ch.tr (Ch.tr hS31 hS44) hS55)).2 92 (by decide)) (((Ch.tr (Ch.tr hS31 hS44) hS55)).2 93 (by decide)) (((Ch.tr (Ch.tr hS31 hS44) hS55)).2 94 (by decide)) (((Ch.tr (Ch.tr hS31 hS44) hS55)).2 95 (by decide))) (hOK5) (by omega) (by omega) (by omega) (by omega) (fun r59 S59 hS59 n59_0 n59_1 n59_2 n59_3 n59_4 n59_5 n59_6 => ?_)
    refine ⟨by omega, by omega, ?_⟩
    intro q31
    have e32 : S59.2 101 (a1) = S55.2 101 (a1) := congrFun (hS59.2 101 (by decide)) _
    have e33 : S55.2 101 (a1) = S44.2 101 (a1) := congrFun (hS55.2 101 (by decide)) _
    have e34 : S44.2 101 (a1) = (S31.2 69 ((((4 * (60 + a2)) + a3)))) := by have q := hS44v (a1); omega
    have e35 : S31.2 101 (a1) = S.2 101 (a1) := congrFun (hS31.2 101 (by decide)) _
    refine ⟨by omega, by omega, ?_⟩
    intro q36
    first | have e37 : S59.2 98 (a1) = S55.2 98 (a1) := by have q := n59_3 (a1); omega | have e37 := n59_3 (a1)
    have e38 : S55.2 98 (a1) = S44.2 98 (a1) := congrFun (hS55.2 98 (by decide)) _
    have e39 : S44.2 98 (a1) = S31.2 98 (a1) := congrFun (hS44.2 98 (by decide)) _
    have e40 : S31.2 98 (a1) = S.2 98 (a1) := congrFun (hS31.2 98 (by decide)) _
    refine ⟨fun h87 => ?_, fun h87 => ?_⟩
    · refine ⟨by omega, by omega, ?_⟩
      intro S101 hS101e
      have hS101 : Ch [] [70] S59 S101 := Ch_A hS101e
      have hS101v : ∀ x, (x = ((20 * (((4 * (60 + a2)) + a3))) + S59.2 101 (a1)) ∧ S101.2 70 x = (-2)) ∨ (¬ x = ((20 * (((4 * (60 + a2)) + a3))) + S59.2 101 (a1)) ∧ S101.2 70 x = S59.2 70 x) := pA_at hS101e
      refine ⟨by omega, ?_⟩
      have e41 : S101.2 67 2 = S59.2 67 2 := congrFun (hS101.2 67 (by decide)) _
      have e42 : S101.2 98 a1 = S59.2 98 a1 := congrFun (hS101.2 98 (by decide)) _
      first | have e43 : S59.2 98 a1 = S55.2 98 a1 := by have q := n59_3 a1; omega | have e43 := n59_3 a1
      have e44 : S55.2 98 a1 = S44.2 98 a1 := congrFun (hS55.2 98 (by decide)) _
      have e45 : S44.2 98 a1 = S31.2 98 a1 := congrFun (hS44.2 98 (by decide)) _
      have e46 : S31.2 98 a1 = S.2 98 a1 := congrFun (hS31.2 98 (by decide)) _
      have e47 : S101.2 99 a1 = S59.2 99 a1 := congrFun (hS101.2 99 (by decide)) _
      first | have e48 : S59.2 99 a1 = S55.2 99 a1 := by have q := n59_4 a1; omega | have e48 := n59_4 a1
      have e49 : S55.2 99 a1 = S44.2 99 a1 := congrFun (hS55.2 99 (by decide)) _
      have e50 : S44.2 99 a1 = S31.2 99 a1 := congrFun (hS44.2 99 (by decide)) _
      have e51 : S31.2 99 a1 = S.2 99 a1 := congrFun (hS31.2 99 (by decide)) _
      have e52 : S101.2 67 2 = S59.2 67 2 := congrFun (hS101.2 67 (by decide)) _
      have e53 : S101.2 100 a1 = S59.2 100 a1 := congrFun (hS101.2 100 (by decide)) _
      have e54 : S59.2 100 a1 = S55.2 100 a1 := congrFun (hS59.2 100 (by decide)) _
      have e55 : S55.2 100 a1 = S44.2 100 a1 := congrFun (hS55.2 100 (by decide)) _
      have e56 : S44.2 100 a1 = S31.2 100 a1 := congrFun (hS44.2 100 (by decide)) _
      have e57 : S31.2 100 a1 = ((((4 * (60 + a2)) + a3))) := by have q := hS31v a1; omega
      have e58 : S101.2 101 a1 = S59.2 101 a1 := congrFun (hS101.2 101 (by decide)) _
      have e59 : S59.2 101 a1 = S55.2 101 a1 := congrFun (hS59.2 101 (by decide)) _
      have e60 : S55.2 101 a1 = S44.2 101 a1 := congrFun (hS55.2 101 (by decide)) _
      have e61 : S44.2 101 a1 = (S31.2 69 ((((4 * (60 + a2)) + a3)))) := by have q := hS44v a1; omega
      have e62 : S31.2 101 a1 = S.2 101 a1 := congrFun (hS31.2 101 (by decide)) _
      have e63 : S101.2 67 2 = S59.2 67 2 := congrFun (hS101.2 67 (by decide)) _
      have hit : S59.2 101 a1 = S.2 69 (4 * (60 + a2) + a3) := by
        rw [show S59.2 101 = S44.2 101 from (((Ch.tr hS55 hS59)).2 101 (by decide))]
        have q := hS44v a1
        have q1 : S31.2 69 (4 * (60 + a2) + a3) = S.2 69 (4 * (60 + a2) + a3) := congrFun ((hS31).2 69 (by decide)) _
        omega
      have hres : r59 = 0 ∨ (OKg S101 2 60 ∧ OLg S101 2 60) := by
        rcases n59_5 with h | h
        · exact Or.inl h
        · refine Or.inr ⟨n59_2.mv ((hS101).2 59 (by decide)) ((hS101).2 67 (by decide)) ((hS101).2 68 (by decide)) ((hS101).2 69 (by decide)), OLg_list (v := S.2 69 (4 * (60 + a2) + a3)) (w := ((-2))) p7 p6 (((Ch.tr (Ch.tr (Ch.tr (Ch.tr hS31 hS44) hS55) hS59) hS101)).2 59 (by decide)) p11.1 p11.2 p12.1 p12.2 rfl p13 (((Ch.tr (Ch.tr hS31 hS44) hS55)).2 67 (by decide)) (((Ch.tr (Ch.tr hS31 hS44) hS55)).2 68 (by decide)) (((Ch.tr (Ch.tr hS31 hS44) hS55)).2 70 (by decide)) (((Ch.tr (Ch.tr hS31 hS44) hS55)).2 59 (by decide)) ha69 n59_1 ((hS101).2 67 (by decide)) ((hS101).2 68 (by decide)) ((hS101).2 69 (by decide)) (fun x => by have q := hS101v x; rw [hit] at q; omega) (by omega)⟩
      have hfr : FR S S101 := ((FR.re (((Ch.tr hS31 hS44)).2 67 (by decide)) (((Ch.tr hS31 hS44)).2 68 (by decide)) (((Ch.tr hS31 hS44)).2 69 (by decide)) (((Ch.tr hS31 hS44)).2 70 (by decide))).tr ⟨fun x => Or.inr (congrFun ((hS55).2 67 (by decide)) _), fun x => Or.inr (congrFun ((hS55).2 68 (by decide)) _), fun x => by have q := hS55v x; omega, fun x => Or.inr (congrFun ((hS55).2 70 (by decide)) _)⟩).tr ((n59_1.fr (by have q : S55.2 67 2 = S.2 67 2 := congrFun (((Ch.tr (Ch.tr hS31 hS44) hS55)).2 67 (by decide)) _; omega)).tr ⟨fun x => Or.inr (congrFun ((hS101).2 67 (by decide)) _), fun x => Or.inr (congrFun ((hS101).2 68 (by decide)) _), fun x => Or.inr (congrFun ((hS101).2 69 (by decide)) _), fun x => by have q := hS101v x; rw [hit] at q; omega⟩)
      have hc59 : S101.2 67 2 = S59.2 67 2 := congrFun ((hS101).2 67 (by decide)) _
      have hc55 : S55.2 67 2 = S.2 67 2 := congrFun (((Ch.tr (Ch.tr hS31 hS44) hS55)).2 67 (by decide)) _
      have hcc := n59_1.1
      exact hK (r59) S101 (Ch.wk (Ch.tr (Ch.tr (Ch.tr (Ch.tr hS31 hS44) hS55) hS59) hS101) (by decide) (by decide)) (by omega) hres hfr (by omega) (fun i => by
            have q := n59_1.2.2.1 (60 + i)
            have q1 : S101.2 68 (60 + i) = S59.2 68 (60 + i) := congrFun ((hS101).2 68 (by decide)) _
            have q2 : S55.2 68 (60 + i) = S.2 68 (60 + i) := congrFun (((Ch.tr (Ch.tr hS31 hS44) hS55)).2 68 (by decide)) _
            omega) (by
            intro x
            have e64 : S101.2 98 x = S59.2 98 x := congrFun (hS101.2 98 (by decide)) _
            have e65 := n59_3 x
            have e66 : S55.2 98 x = S44.2 98 x := congrFun (hS55.2 98 (by decide)) _
            have e67 : S44.2 98 x = S31.2 98 x := congrFun (hS44.2 98 (by decide)) _
            have e68 : S31.2 98 x = S.2 98 x := congrFun (hS31.2 98 (by decide)) _
            omega) (by
            intro x
            have e69 : S101.2 99 x = S59.2 99 x := congrFun (hS101.2 99 (by decide)) _
            have e70 := n59_4 x
            have e71 : S55.2 99 x = S44.2 99 x := congrFun (hS55.2 99 (by decide)) _
            have e72 : S44.2 99 x = S31.2 99 x := congrFun (hS44.2 99 (by decide)) _
            have e73 : S31.2 99 x = S.2 99 x := congrFun (hS31.2 99 (by decide)) _
            omega) (by
            intro x
            have e74 : S101.2 100 x = S59.2 100 x := congrFun (hS101.2 100 (by decide)) _
            have e75 : S59.2 100 x = S55.2 100 x := congrFun (hS59.2 100 (by decide)) _
            have e76 : S55.2 100 x = S44.2 100 x := congrFun (hS55.2 100 (by decide)) _
            have e77 : S44.2 100 x = S31.2 100 x := congrFun (hS44.2 100 (by decide)) _
            have e78 := hS31v x
            omega) (by
            intro x
            have e79 : S101.2 101 x = S59.2 101 x := congrFun (hS101.2 101 (by decide)) _
            have e80 : S59.2 101 x = S55.2 101 x := congrFun (hS59.2 101 (by decide)) _
            have e81 : S55.2 101 x = S44.2 101 x := congrFun (hS55.2 101 (by decide)) _
            have e82 := hS44v x
            have e83 : S31.2 101 x = S.2 101 x := congrFun (hS31.2 101 (by decide)) _
            omega) (by omega) (by omega) (by omega)
    · refine ⟨by omega, by omega, ?_⟩
      intro q84
      first | have e85 : S59.2 99 (a1) = S55.2 99 (a1) := by have q := n59_4 (a1); omega | have e85 := n59_4 (a1)
      have e86 : S55.2 99 (a1) = S44.2 99 (a1) := congrFun (hS55.2 99 (by decide)) _
      have e87 : S44.2 99 (a1) = S31.2 99 (a1) := congrFun (hS44.2 99 (by decide)) _
      have e88 : S31.2 99 (a1) = S.2 99 (a1) := congrFun (hS31.2 99 (by decide)) _
      refine ⟨by omega, by omega, ?_⟩
      refine ⟨by omega, ?_⟩
      intro S101 hS101e
      have hS101 : Ch [] [70] S59 S101 := Ch_A hS101e
      have hS101v : ∀ x, (x = ((20 * (((4 * (60 + a2)) + a3))) + S59.2 101 (a1)) ∧ S101.2 70 x = S59.2 99 (a1)) ∨ (¬ x = ((20 * (((4 * (60 + a2)) + a3))) + S59.2 101 (a1)) ∧ S101.2 70 x = S59.2 70 x) := pA_at hS101e
      refine ⟨by omega, ?_⟩
      have e89 : S101.2 67 2 = S59.2 67 2 := congrFun (hS101.2 67 (by decide)) _
      have e90 : S101.2 98 a1 = S59.2 98 a1 := congrFun (hS101.2 98 (by decide)) _
      first | have e91 : S59.2 98 a1 = S55.2 98 a1 := by have q := n59_3 a1; omega | have e91 := n59_3 a1
      have e92 : S55.2 98 a1 = S44.2 98 a1 := congrFun (hS55.2 98 (by decide)) _
      have e93 : S44.2 98 a1 = S31.2 98 a1 := congrFun (hS44.2 98 (by decide)) _
      have e94 : S31.2 98 a1 = S.2 98 a1 := congrFun (hS31.2 98 (by decide)) _
      have e95 : S101.2 99 a1 = S59.2 99 a1 := congrFun (hS101.2 99 (by decide)) _
      first | have e96 : S59.2 99 a1 = S55.2 99 a1 := by have q := n59_4 a1; omega | have e96 := n59_4 a1
      have e97 : S55.2 99 a1 = S44.2 99 a1 := congrFun (hS55.2 99 (by decide)) _
      have e98 : S44.2 99 a1 = S31.2 99 a1 := congrFun (hS44.2 99 (by decide)) _
      have e99 : S31.2 99 a1 = S.2 99 a1 := congrFun (hS31.2 99 (by decide)) _
      have e100 : S101.2 67 2 = S59.2 67 2 := congrFun (hS101.2 67 (by decide)) _
      have e101 : S101.2 100 a1 = S59.2 100 a1 := congrFun (hS101.2 100 (by decide)) _
      have e102 : S59.2 100 a1 = S55.2 100 a1 := congrFun (hS59.2 100 (by decide)) _
      have e103 : S55.2 100 a1 = S44.2 100 a1 := congrFun (hS55.2 100 (by decide)) _
      have e104 : S44.2 100 a1 = S31.2 100 a1 := congrFun (hS44.2 100 (by decide)) _
      have e105 : S31.2 100 a1 = ((((4 * (60 + a2)) + a3))) := by have q := hS31v a1; omega
      have e106 : S101.2 101 a1 = S59.2 101 a1 := congrFun (hS101.2 101 (by decide)) _
      have e107 : S59.2 101 a1 = S55.2 101 a1 := congrFun (hS59.2 101 (by decide)) _
      have e108 : S55.2 101 a1 = S44.2 101 a1 := congrFun (hS55.2 101 (by decide)) _
      have e109 : S44.2 101 a1 = (S31.2 69 ((((4 * (60 + a2)) + a3)))) := by have q := hS44v a1; omega
      have e110 : S31.2 101 a1 = S.2 101 a1 := congrFun (hS31.2 101 (by decide)) _
      have e111 : S101.2 67 2 = S59.2 67 2 := congrFun (hS101.2 67 (by decide)) _
      have hit : S59.2 101 a1 = S.2 69 (4 * (60 + a2) + a3) := by
        rw [show S59.2 101 = S44.2 101 from (((Ch.tr hS55 hS59)).2 101 (by decide))]
        have q := hS44v a1
        have q1 : S31.2 69 (4 * (60 + a2) + a3) = S.2 69 (4 * (60 + a2) + a3) := congrFun ((hS31).2 69 (by decide)) _
        omega
      have hres : r59 = 0 ∨ (OKg S101 2 60 ∧ OLg S101 2 60) := by
        rcases n59_5 with h | h
        · exact Or.inl h
        · refine Or.inr ⟨n59_2.mv ((hS101).2 59 (by decide)) ((hS101).2 67 (by decide)) ((hS101).2 68 (by decide)) ((hS101).2 69 (by decide)), OLg_list (v := S.2 69 (4 * (60 + a2) + a3)) (w := (S59.2 99 (a1))) p7 p6 (((Ch.tr (Ch.tr (Ch.tr (Ch.tr hS31 hS44) hS55) hS59) hS101)).2 59 (by decide)) p11.1 p11.2 p12.1 p12.2 rfl p13 (((Ch.tr (Ch.tr hS31 hS44) hS55)).2 67 (by decide)) (((Ch.tr (Ch.tr hS31 hS44) hS55)).2 68 (by decide)) (((Ch.tr (Ch.tr hS31 hS44) hS55)).2 70 (by decide)) (((Ch.tr (Ch.tr hS31 hS44) hS55)).2 59 (by decide)) ha69 n59_1 ((hS101).2 67 (by decide)) ((hS101).2 68 (by decide)) ((hS101).2 69 (by decide)) (fun x => by have q := hS101v x; rw [hit] at q; omega) (by omega)⟩
      have hfr : FR S S101 := ((FR.re (((Ch.tr hS31 hS44)).2 67 (by decide)) (((Ch.tr hS31 hS44)).2 68 (by decide)) (((Ch.tr hS31 hS44)).2 69 (by decide)) (((Ch.tr hS31 hS44)).2 70 (by decide))).tr ⟨fun x => Or.inr (congrFun ((hS55).2 67 (by decide)) _), fun x => Or.inr (congrFun ((hS55).2 68 (by decide)) _), fun x => by have q := hS55v x; omega, fun x => Or.inr (congrFun ((hS55).2 70 (by decide)) _)⟩).tr ((n59_1.fr (by have q : S55.2 67 2 = S.2 67 2 := congrFun (((Ch.tr (Ch.tr hS31 hS44) hS55)).2 67 (by decide)) _; omega)).tr ⟨fun x => Or.inr (congrFun ((hS101).2 67 (by decide)) _), fun x => Or.inr (congrFun ((hS101).2 68 (by decide)) _), fun x => Or.inr (congrFun ((hS101).2 69 (by decide)) _), fun x => by have q := hS101v x; rw [hit] at q; omega⟩)
      have hc59 : S101.2 67 2 = S59.2 67 2 := congrFun ((hS101).2 67 (by decide)) _
      have hc55 : S55.2 67 2 = S.2 67 2 := congrFun (((Ch.tr (Ch.tr hS31 hS44) hS55)).2 67 (by decide)) _
      have hcc := n59_1.1
      exact hK (r59) S101 (Ch.wk (Ch.tr (Ch.tr (Ch.tr (Ch.tr hS31 hS44) hS55) hS59) hS101) (by decide) (by decide)) (by omega) hres hfr (by omega) (fun i => by
            have q := n59_1.2.2.1 (60 + i)
            have q1 : S101.2 68 (60 + i) = S59.2 68 (60 + i) := congrFun ((hS101).2 68 (by decide)) _
            have q2 : S55.2 68 (60 + i) = S.2 68 (60 + i) := congrFun (((Ch.tr (Ch.tr hS31 hS44) hS55)).2 68 (by decide)) _
            omega) (by
            intro x
            have e112 : S101.2 98 x = S59.2 98 x := congrFun (hS101.2 98 (by decide)) _
            have e113 := n59_3 x
            have e114 : S55.2 98 x = S44.2 98 x := congrFun (hS55.2 98 (by decide)) _
            have e115 : S44.2 98 x = S31.2 98 x := congrFun (hS44.2 98 (by decide)) _
            have e116 : S31.2 98 x = S.2 98 x := congrFun (hS31.2 98 (by decide)) _
            omega) (by
            intro x
            have e117 : S101.2 99 x = S59.2 99 x := congrFun (hS101.2 99 (by decide)) _
            have e118 := n59_4 x
            have e119 : S55.2 99 x = S44.2 99 x := congrFun (hS55.2 99 (by decide)) _
            have e120 : S44.2 99 x = S31.2 99 x := congrFun (hS44.2 99 (by decide)) _
            have e121 : S31.2 99 x = S.2 99 x := congrFun (hS31.2 99 (by decide)) _
            omega) (by
            intro x
            have e122 : S101.2 100 x = S59.2 100 x := congrFun (hS101.2 100 (by decide)) _
            have e123 : S59.2 100 x = S55.2 100 x := congrFun (hS59.2 100 (by decide)) _
            have e124 : S55.2 100 x = S44.2 100 x := congrFun (hS55.2 100 (by decide)) _
            have e125 : S44.2 100 x = S31.2 100 x := congrFun (hS44.2 100 (by decide)) _
            have e126 := hS31v x
            omega) (by
            intro x
            have e127 : S101.2 101 x = S59.2 101 x := congrFun (hS101.2 101 (by decide)) _
            have e128 : S59.2 101 x = S55.2 101 x := congrFun (hS59.2 101 (by decide)) _
            have e129 : S55.2 101 x = S44.2 101 x := congrFun (hS55.2 101 (by decide)) _
            have e130 := hS44v x
            have e131 : S31.2 101 x = S.2 101 x := congrFun (hS31.2 101 (by decide)) _
            omega) (by omega) (by omega) (by omega)
  · exact hK (0) S (Ch.wk Ch.rf (by decide) (by decide)) (by omega) (Or.inl rfl) (FR.re rfl rfl rfl rfl) (by omega) (fun i => Or.inr (Or.inr rfl)) (by
          intro x
          omega) (by
          intro x
          omega) (by
          intro x
          omega) (by
          intro x
          omega) (by omega) (by omega) (by omega)

