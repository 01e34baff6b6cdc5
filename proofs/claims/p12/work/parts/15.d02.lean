set_option maxRecDepth 100000 in
set_option maxHeartbeats 4000000 in
theorem tX11_meaningless {S : St} {K : Int → St → Prop} (p1 : 1 ≤ (S.1 54 43)) (p2 : (S.1 54 43) ≤ 200) (p3 : PR S) (p4 : PA S) (p5 : PO S) (p6 : (S.1 54 51) ≤ 600) (p7 : (S.1 54 56) ≤ 3000) (hK : ∀ (r : Int) (S' : St), Ch [67] [67, 68, 69, 70, 98, 99, 100, 101, 102, 103, 104] S S' → (r = -2 ∨ (0 ≤ r ∧ r < (S.1 54 43))) → (¬ r = -2 ∨ (OKg S' 2 60 ∧ OLg S' 2 60 ∧ 1 ≤ (S'.2 67) 2)) → (FR S S') → K r S') : wX11_meaningless  S K := by
  unfold wX11_meaningless
  refine ⟨by omega, by omega, ?_⟩
  intro S6 hS6e
  have hS6 : Ch [] [67] S S6 := Ch_A hS6e
  have hS6v : ∀ x, (x = 2 ∧ S6.2 67 x = 0) ∨ (¬ x = 2 ∧ S6.2 67 x = S.2 67 x) := pA_at hS6e
  unfold wX11_meaningless_9
  have e1 : S6.2 98 0 = S.2 98 0 := congrFun (hS6.2 98 (by decide)) _
  have e2 : S6.2 67 2 = (0) := by have q := hS6v 2; omega
  refine ⟨fun u1 Sx => Ch [67] [67, 68, 69, 70, 98, 99, 100, 101, 102, 103, 104] S6 Sx ∧ (iv 0 200 u1) ∧ (OKg Sx 2 60) ∧ (OLg Sx 2 60) ∧ (EA Sx u1) ∧ (FR S Sx) ∧ (u1 = 0 ∨ u1 ≤ (S.1 54 43)) ∧ (u1 = 0 ∨ (Sx.2 98) 0 = 4 ∨ (Sx.2 98) 0 = 5) ∧ (iv 0 30 ((Sx.2 67) 2)), fun u1 Sx => (201 - u1).toNat, ?_, fun v9_1 S9h hI => ?_⟩
  · exact ⟨Ch.re, by omega, by unfold OKg; intro x y; have q := hS6v 2; omega, by unfold OLg; intro x y z; have q := hS6v 2; omega, by unfold EA; intro x; omega, (⟨fun x => by have q := hS6v x; omega, fun x => Or.inr (congrFun ((hS6).2 68 (by decide)) _), fun x => Or.inr (congrFun ((hS6).2 69 (by decide)) _), fun x => Or.inr (congrFun ((hS6).2 70 (by decide)) _)⟩ : FR S S6), by omega, by omega, by omega⟩
  obtain ⟨hS9h, i9_0, i9_1, i9_2, i9_3, i9_4, i9_5, i9_6, i9_7⟩ := hI
  unfold wX11_meaningless_9'
  intro q3
  have e4 : S9h.1 54 43 = S6.1 54 43 := hS9h.1 43 (by decide)
  have e5 : S6.1 54 43 = S.1 54 43 := hS6.1 43 (by decide)
  refine ⟨by omega, ?_⟩
  refine ⟨fun h14 => ?_, fun h14 => ?_⟩
  · unfold wX11_meaningless_35
    refine ⟨fun u1 Sx => Ch [67] [69, 70, 104] S9h Sx ∧ (iv 0 200 u1) ∧ (OKg Sx 2 60) ∧ (OLg Sx 2 60) ∧ (EA Sx ((S.1 54 43))) ∧ (FR S Sx) ∧ (u1 = 0 ∨ u1 ≤ (S.1 54 43)) ∧ ((Sx.2 98) 0 = 4 ∨ (Sx.2 98) 0 = 5) ∧ (u1 = 0 ∨ ¬ (Sx.2 98) 0 = 5) ∧ (iv 0 30 ((Sx.2 67) 2)), fun u1 Sx => (201 - u1).toNat, ?_, fun v35_1 S35h hI => ?_⟩
    · exact ⟨Ch.re, by omega, i9_1, i9_2, i9_3.to (by omega), i9_4, by omega, by omega, by omega, by omega⟩
    obtain ⟨hS35h, i35_0, i35_1, i35_2, i35_3, i35_4, i35_5, i35_6, i35_7, i35_8⟩ := hI
    unfold wX11_meaningless_35'
    intro q6
    have e7 : S35h.1 54 43 = S9h.1 54 43 := hS35h.1 43 (by decide)
    have e8 : S9h.1 54 43 = S6.1 54 43 := hS9h.1 43 (by decide)
    have e9 : S6.1 54 43 = S.1 54 43 := hS6.1 43 (by decide)
    refine ⟨by omega, ?_⟩
    refine ⟨fun h40 => ?_, fun h40 => ?_⟩
    · have hE0 := i35_3.at (x := 0) (by omega) (by omega)
      unfold EI at hE0
      have hcnt : 1 ≤ S35h.2 67 2 := by
        have q := hE0.2.1.resolve_left (by omega)
        omega
      have e10 : S35h.2 67 2 = S9h.2 67 2 := congrFun (hS35h.2 67 (by decide)) _
      exact hK ((-2)) S35h (Ch.wk (Ch.tr (Ch.tr hS6 hS9h) hS35h) (by decide) (by decide)) (by omega) (Or.inr ⟨i35_1, i35_2, hcnt⟩) (i35_4)
    · refine ⟨by omega, by omega, ?_⟩
      intro q11
      have e12 : S35h.2 98 (v35_1) = S9h.2 98 (v35_1) := congrFun (hS35h.2 98 (by decide)) _
      refine ⟨fun h50 => ?_, fun h50 => ?_⟩
      · unfold wX11_meaningless_63
        have hz : ¬ v35_1 = 0 ∨ S9h.2 98 (v35_1) = S9h.2 98 0 := by
          by_cases h : v35_1 = 0
          · right; rw [h]
          · left; exact h
        have e13 : S35h.2 98 0 = S9h.2 98 0 := congrFun (hS35h.2 98 (by decide)) _
        have e14 : S35h.2 98 0 = S9h.2 98 0 := congrFun (hS35h.2 98 (by decide)) _
        have e15 : S35h.2 67 2 = S9h.2 67 2 := congrFun (hS35h.2 67 (by decide)) _
        exact ⟨⟨(Ch.wk hS35h (by decide) (by decide)), by omega, i35_1, i35_2, i35_3, i35_4, by omega, by omega, by omega, by omega⟩, show (201 - ((v35_1 + 1))).toNat < (201 - v35_1).toNat by omega⟩
      · have e16 : S35h.1 54 43 = S9h.1 54 43 := hS35h.1 43 (by decide)
        have e17 : S9h.1 54 43 = S6.1 54 43 := hS9h.1 43 (by decide)
        have e18 : S6.1 54 43 = S.1 54 43 := hS6.1 43 (by decide)
        have e19 : S35h.1 54 43 = S9h.1 54 43 := hS35h.1 43 (by decide)
        have e20 : S9h.1 54 43 = S6.1 54 43 := hS9h.1 43 (by decide)
        have e21 : S6.1 54 43 = S.1 54 43 := hS6.1 43 (by decide)
        have e22 : S35h.1 54 51 = S9h.1 54 51 := hS35h.1 51 (by decide)
        have e23 : S9h.1 54 51 = S6.1 54 51 := hS9h.1 51 (by decide)
        have e24 : S6.1 54 51 = S.1 54 51 := hS6.1 51 (by decide)
        have e25 : S35h.2 67 2 = S9h.2 67 2 := congrFun (hS35h.2 67 (by decide)) _
        have e26 : S35h.1 54 56 = S9h.1 54 56 := hS35h.1 56 (by decide)
        have e27 : S9h.1 54 56 = S6.1 54 56 := hS9h.1 56 (by decide)
        have e28 : S6.1 54 56 = S.1 54 56 := hS6.1 56 (by decide)
        have e29 : S35h.1 54 43 = S9h.1 54 43 := hS35h.1 43 (by decide)
        have e30 : S9h.1 54 43 = S6.1 54 43 := hS9h.1 43 (by decide)
        have e31 : S6.1 54 43 = S.1 54 43 := hS6.1 43 (by decide)
        have e32 : S35h.2 98 (v35_1) = S9h.2 98 (v35_1) := congrFun (hS35h.2 98 (by decide)) _
        refine tX11_leads (by omega) (by omega) (by omega) (PR.mv p3 (((Ch.tr (Ch.tr hS6 hS9h) hS35h)).1 43 (by decide)) (((Ch.tr (Ch.tr hS6 hS9h) hS35h)).1 51 (by decide)) (((Ch.tr (Ch.tr hS6 hS9h) hS35h)).2 86 (by decide)) (((Ch.tr (Ch.tr hS6 hS9h) hS35h)).2 87 (by decide)) (((Ch.tr (Ch.tr hS6 hS9h) hS35h)).2 88 (by decide)) (((Ch.tr (Ch.tr hS6 hS9h) hS35h)).2 90 (by decide)) (((Ch.tr (Ch.tr hS6 hS9h) hS35h)).2 91 (by decide))) (PA.mv2 p4 (((Ch.tr (Ch.tr hS6 hS9h) hS35h)).1 51 (by decide)) (((Ch.tr (Ch.tr hS6 hS9h) hS35h)).1 56 (by decide)) (((Ch.tr (Ch.tr hS6 hS9h) hS35h)).2 92 (by decide)) (((Ch.tr (Ch.tr hS6 hS9h) hS35h)).2 93 (by decide)) (((Ch.tr (Ch.tr hS6 hS9h) hS35h)).2 94 (by decide)) (((Ch.tr (Ch.tr hS6 hS9h) hS35h)).2 95 (by decide))) (i35_1) (i35_2) (by omega) (by omega) (by omega) (by rw [show S35h.1 54 43 = S.1 54 43 from (((Ch.tr (Ch.tr hS6 hS9h) hS35h)).1 43 (by decide))]; exact i35_3) (by omega) (fun r55 S55 hS55 n55_0 n55_1 n55_2 n55_3 n55_4 => ?_)
        refine ⟨by omega, ?_⟩
        refine ⟨fun h58 => ?_, fun h58 => ?_⟩
        · unfold wX11_meaningless_63
          have hz : ¬ v35_1 = 0 ∨ S9h.2 98 (v35_1) = S9h.2 98 0 := by
            by_cases h : v35_1 = 0
            · right; rw [h]
            · left; exact h
          have e33 : S55.2 98 0 = S35h.2 98 0 := congrFun (hS55.2 98 (by decide)) _
          have e34 : S35h.2 98 0 = S9h.2 98 0 := congrFun (hS35h.2 98 (by decide)) _
          have e35 : S55.2 98 0 = S35h.2 98 0 := congrFun (hS55.2 98 (by decide)) _
          have e36 : S35h.2 98 0 = S9h.2 98 0 := congrFun (hS35h.2 98 (by decide)) _
          have e37 : S55.2 67 2 = S35h.2 67 2 := congrFun (hS55.2 67 (by decide)) _
          have e38 : S35h.2 67 2 = S9h.2 67 2 := congrFun (hS35h.2 67 (by decide)) _
          exact ⟨⟨(Ch.wk (Ch.tr hS35h hS55) (by decide) (by decide)), by omega, n55_1, n55_2, (i35_3.mv ((hS55).2 98 (by decide)) ((hS55).2 99 (by decide)) ((hS55).2 100 (by decide)) ((hS55).2 101 (by decide)) ((hS55).1 43 (by decide)) ((hS55).2 88 (by decide)) ((hS55).2 91 (by decide)) ((hS55).2 59 (by decide)) ((hS55).2 67 (by decide)) ((hS55).2 68 (by decide))), (i35_4.tr n55_3), by omega, by omega, by omega, by omega⟩, show (201 - ((v35_1 + 1))).toNat < (201 - v35_1).toNat by omega⟩
        · have e39 : S55.2 67 2 = S35h.2 67 2 := congrFun (hS55.2 67 (by decide)) _
          have e40 : S35h.2 67 2 = S9h.2 67 2 := congrFun (hS35h.2 67 (by decide)) _
          exact hK (v35_1) S55 (Ch.wk (Ch.tr (Ch.tr (Ch.tr hS6 hS9h) hS35h) hS55) (by decide) (by decide)) (by omega) (Or.inl (by omega)) (i35_4.tr n55_3)
  · have hpr := p3.at (x := v9_1) (by omega) (by omega)
    have e41 : S9h.1 54 43 = S6.1 54 43 := hS9h.1 43 (by decide)
    have e42 : S6.1 54 43 = S.1 54 43 := hS6.1 43 (by decide)
    have e43 : S9h.1 54 43 = S6.1 54 43 := hS9h.1 43 (by decide)
    have e44 : S6.1 54 43 = S.1 54 43 := hS6.1 43 (by decide)
    have e45 : S9h.1 54 51 = S6.1 54 51 := hS9h.1 51 (by decide)
    have e46 : S6.1 54 51 = S.1 54 51 := hS6.1 51 (by decide)
    have e47 : S9h.1 54 56 = S6.1 54 56 := hS9h.1 56 (by decide)
    have e48 : S6.1 54 56 = S.1 54 56 := hS6.1 56 (by decide)
    have e49 : S9h.2 88 (v9_1) = S6.2 88 (v9_1) := congrFun (hS9h.2 88 (by decide)) _
    have e50 : S6.2 88 (v9_1) = S.2 88 (v9_1) := congrFun (hS6.2 88 (by decide)) _
    refine tX11_hasMeaning (by omega) (by omega) (by omega) (PR.mv p3 (((Ch.tr hS6 hS9h)).1 43 (by decide)) (((Ch.tr hS6 hS9h)).1 51 (by decide)) (((Ch.tr hS6 hS9h)).2 86 (by decide)) (((Ch.tr hS6 hS9h)).2 87 (by decide)) (((Ch.tr hS6 hS9h)).2 88 (by decide)) (((Ch.tr hS6 hS9h)).2 90 (by decide)) (((Ch.tr hS6 hS9h)).2 91 (by decide))) (PA.mv2 p4 (((Ch.tr hS6 hS9h)).1 51 (by decide)) (((Ch.tr hS6 hS9h)).1 56 (by decide)) (((Ch.tr hS6 hS9h)).2 92 (by decide)) (((Ch.tr hS6 hS9h)).2 93 (by decide)) (((Ch.tr hS6 hS9h)).2 94 (by decide)) (((Ch.tr hS6 hS9h)).2 95 (by decide))) (i9_1) (i9_2) (by omega) (by omega) (by omega) (PO.mv p5 (((Ch.tr hS6 hS9h)).1 43 (by decide)) (((Ch.tr hS6 hS9h)).2 88 (by decide))) (i9_3) (fun r19 S19 hS19 n19_0 n19_1 n19_2 n19_3 n19_4 n19_5 => ?_)
    refine ⟨by omega, ?_⟩
    refine ⟨fun h22 => ?_, fun h22 => ?_⟩
    · have hgo := n19_1.resolve_left (by omega)
      have hz : ¬ v9_1 = 0 ∨ (S19.2 98 (v9_1) = S19.2 98 0) := by
        by_cases h : v9_1 = 0
        · right; rw [h]
        · left; exact h
      first | have e51 : S19.2 98 0 = S9h.2 98 0 := by have q := n19_3 0; omega | have e51 := n19_3 0
      exact ⟨⟨(Ch.wk (Ch.tr hS9h hS19) (by decide) (by decide)), by omega, (hgo.1), (hgo.2.1), (hgo.2.2), (i9_4.tr n19_2), by omega, by omega, by omega⟩, show (201 - ((v9_1 + 1))).toNat < (201 - v9_1).toNat by omega⟩
    · exact hK (v9_1) S19 (Ch.wk (Ch.tr (Ch.tr hS6 hS9h) hS19) (by decide) (by decide)) (by omega) (Or.inl (by omega)) (i9_4.tr n19_2)

