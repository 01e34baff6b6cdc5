/-! THE MODEL'S read leaves heap 0 -/
def FH (S S' : St) : Prop := S'.2 67 0 = S.2 67 0 ∧ (∀ x : Int, x < 30 → S'.2 68 x = S.2 68 x) ∧ (∀ x : Int, x < 120 → S'.2 69 x = S.2 69 x) ∧ ∀ x : Int, x < 2400 → S'.2 70 x = S.2 70 x
theorem FH.mv {S S' : St} (e67 : S'.2 67 = S.2 67) (e68 : S'.2 68 = S.2 68) (e69 : S'.2 69 = S.2 69) (e70 : S'.2 70 = S.2 70) : FH S S' := by
  unfold FH
  rw [e67, e68, e69, e70]
  exact ⟨rfl, fun _ _ => rfl, fun _ _ => rfl, fun _ _ => rfl⟩
theorem FH.tr {S S1 S2 : St} (h : FH S S1) (k : FH S1 S2) : FH S S2 := ⟨k.1.trans h.1, fun x q => (k.2.1 x q).trans (h.2.1 x q), fun x q => (k.2.2.1 x q).trans (h.2.2.1 x q), fun x q => (k.2.2.2 x q).trans (h.2.2.2 x q)⟩
theorem FH.fr {S S' : St} (k : FR S S') : FH S S' := ⟨(k.1 0).resolve_left (by decide), fun x q => (k.2.1 x).resolve_left (by omega), fun x q => (k.2.2.1 x).resolve_left (by omega), fun x q => (k.2.2.2 x).resolve_left (by omega)⟩
set_option maxRecDepth 100000 in
set_option maxHeartbeats 4000000 in
theorem tX11_read2 {S : St} {K : Int → St → Prop} (p1 : HV S) (p2 : iv 0 3000 ((S.1 54 0))) (p3 : (S.2 67) 0 ≤ 30) (p4 : (S.2 67) 1 ≤ 30) (p5 : (S.1 54 18) = 0 ∨ 1 ≤ (S.2 67) 1) (hK : ∀ (r : Int) (S' : St), Ch [0, 18, 41, 43, 51, 56, 59, 60, 67] [67, 68, 69, 70, 84, 85, 86, 87, 88, 89, 90, 91, 92, 93, 94, 95, 96, 97, 98, 99, 100, 101, 102, 103, 104] S S' → (HV S') → ((S'.1 54 18) = 0 ∨ 1 ≤ (S'.2 67) 1) → (rng r) → (FH S S') → ((S.1 54 2 = 0 ∧ S'.1 54 0 = S.1 54 0) ∨ (¬ S.1 54 2 = 0 ∧ S'.1 54 0 = 0)) → K r S') : wX11_read  S K := by
  unfold wX11_read
  intro q1
  refine ⟨fun h4 => ?_, fun h4 => ?_⟩
  · intro q2
    intro S16 hS16e
    have hS16 : Ch [41] [] S S16 := Ch_I hS16e
    have hS16v : S16.1 54 41 = S.1 54 0 := pI_at hS16e
    unfold wX11_read_21
    refine ⟨fun u1 Sx => Ch [] [84] S16 Sx ∧ (iv 0 3000 u1), fun u1 Sx => (3001 - u1).toNat, ?_, fun v21_1 S21h hI => ?_⟩
    · exact ⟨Ch.re, by omega⟩
    obtain ⟨hS21h, i21_0⟩ := hI
    unfold wX11_read_21'
    intro q3
    have e4 : S21h.1 54 41 = S16.1 54 41 := hS21h.1 41 (by decide)
    refine ⟨by omega, ?_⟩
    refine ⟨fun h26 => ?_, fun h26 => ?_⟩
    · intro S49 hS49e
      have hS49 : Ch [0] [] S21h S49 := Ch_I hS49e
      have hS49v : S49.1 54 0 = 0 := pI_at hS49e
      have e5 : S49.1 54 41 = S21h.1 54 41 := hS49.1 41 (by decide)
      have e6 : S21h.1 54 41 = S16.1 54 41 := hS21h.1 41 (by decide)
      refine tX11_parse (by omega) (fun r53 S53 hS53 n53_0 n53_1 n53_2 n53_3 n53_4 n53_5 => ?_)
      intro q7
      refine ⟨fun h62 => ?_, fun h62 => ?_⟩
      · have hbd := n53_3.resolve_left (by omega)
        have hbd2 := n53_5.resolve_left (by omega)
        refine tX11_meaningless (by omega) (by omega) (n53_1) (n53_0) (n53_2) (by omega) (by omega) (fun r73 S73 hS73 n73_0 n73_1 n73_2 => ?_)
        refine ⟨by omega, ?_⟩
        refine ⟨fun h80 => ?_, fun h80 => ?_⟩
        · refine ⟨by omega, by omega, ?_⟩
          intro q8
          refine ⟨by omega, by omega, ?_⟩
          intro S105 hS105e
          have hS105 : Ch [] [67] S73 S105 := Ch_A hS105e
          have hS105v : ∀ x, (x = 1 ∧ S105.2 67 x = S73.2 67 (2)) ∨ (¬ x = 1 ∧ S105.2 67 x = S73.2 67 x) := pA_at hS105e
          intro S108 hS108e
          have hS108 : Ch [18] [] S105 S108 := Ch_I hS108e
          have hS108v : S108.1 54 18 = 1 := pI_at hS108e
          unfold wX11_read_113
          have e9 : S108.2 67 1 = S105.2 67 1 := congrFun (hS108.2 67 (by decide)) _
          have e10 : S105.2 67 1 = (S73.2 67 (2)) := by have q := hS105v 1; omega
          refine ⟨fun u2 Sx => Ch [] [68] S108 Sx ∧ (iv 0 30 u2) ∧ (∀ x, (30 ≤ x ∧ x < 30 + u2 ∧ (Sx.2 68) x = (S108.2 68) (x + 30)) ∨ ((x < 30 ∨ 30 + u2 ≤ x) ∧ (Sx.2 68) x = (S108.2 68) x)) ∧ (u2 ≤ (Sx.2 67) 1), fun u2 Sx => (31 - u2).toNat, ?_, fun v113_2 S113h hI => ?_⟩
          · exact ⟨Ch.re, by omega, (by
                intro x
                exact Or.inr ⟨by omega, rfl⟩), by omega⟩
          obtain ⟨hS113h, i113_0, i113_1, i113_2⟩ := hI
          unfold wX11_read_113'
          refine ⟨by omega, by omega, ?_⟩
          intro q11
          have e12 : S113h.2 67 (1) = S108.2 67 (1) := congrFun (hS113h.2 67 (by decide)) _
          have e13 : S108.2 67 (1) = S105.2 67 (1) := congrFun (hS108.2 67 (by decide)) _
          have e14 : S105.2 67 (1) = (S73.2 67 (2)) := by have q := hS105v (1); omega
          refine ⟨by omega, ?_⟩
          refine ⟨fun h120 => ?_, fun h120 => ?_⟩
          · unfold wX11_read_149
            have e15 : S113h.2 67 1 = S108.2 67 1 := congrFun (hS113h.2 67 (by decide)) _
            have e16 : S108.2 67 1 = S105.2 67 1 := congrFun (hS108.2 67 (by decide)) _
            have e17 : S105.2 67 1 = (S73.2 67 (2)) := by have q := hS105v 1; omega
            refine ⟨fun u2 Sx => Ch [] [69] S113h Sx ∧ (iv 0 120 u2) ∧ (∀ x, (120 ≤ x ∧ x < 120 + u2 ∧ (Sx.2 69) x = (S113h.2 69) (x + 120)) ∨ ((x < 120 ∨ 120 + u2 ≤ x) ∧ (Sx.2 69) x = (S113h.2 69) x)) ∧ (u2 ≤ 4 * (Sx.2 67) 1), fun u2 Sx => (121 - u2).toNat, ?_, fun v149_2 S149h hI => ?_⟩
            · exact ⟨Ch.re, by omega, (by
                  intro x
                  exact Or.inr ⟨by omega, rfl⟩), by omega⟩
            obtain ⟨hS149h, i149_0, i149_1, i149_2⟩ := hI
            unfold wX11_read_149'
            refine ⟨by omega, by omega, ?_⟩
            intro q18
            have e19 : S149h.2 67 (1) = S113h.2 67 (1) := congrFun (hS149h.2 67 (by decide)) _
            have e20 : S113h.2 67 (1) = S108.2 67 (1) := congrFun (hS113h.2 67 (by decide)) _
            have e21 : S108.2 67 (1) = S105.2 67 (1) := congrFun (hS108.2 67 (by decide)) _
            have e22 : S105.2 67 (1) = (S73.2 67 (2)) := by have q := hS105v (1); omega
            refine ⟨by omega, ?_⟩
            refine ⟨by omega, ?_⟩
            refine ⟨fun h158 => ?_, fun h158 => ?_⟩
            · unfold wX11_read_188
              have e23 : S149h.2 67 1 = S113h.2 67 1 := congrFun (hS149h.2 67 (by decide)) _
              have e24 : S113h.2 67 1 = S108.2 67 1 := congrFun (hS113h.2 67 (by decide)) _
              have e25 : S108.2 67 1 = S105.2 67 1 := congrFun (hS108.2 67 (by decide)) _
              have e26 : S105.2 67 1 = (S73.2 67 (2)) := by have q := hS105v 1; omega
              refine ⟨fun u2 Sx => Ch [] [70] S149h Sx ∧ (iv 0 2400 u2) ∧ (∀ x, (2400 ≤ x ∧ x < 2400 + u2 ∧ (Sx.2 70) x = (S149h.2 70) (x + 2400)) ∨ ((x < 2400 ∨ 2400 + u2 ≤ x) ∧ (Sx.2 70) x = (S149h.2 70) x)) ∧ (u2 ≤ 80 * (Sx.2 67) 1), fun u2 Sx => (2401 - u2).toNat, ?_, fun v188_2 S188h hI => ?_⟩
              · exact ⟨Ch.re, by omega, (by
                    intro x
                    exact Or.inr ⟨by omega, rfl⟩), by omega⟩
              obtain ⟨hS188h, i188_0, i188_1, i188_2⟩ := hI
              unfold wX11_read_188'
              refine ⟨by omega, by omega, ?_⟩
              intro q27
              have e28 : S188h.2 67 (1) = S149h.2 67 (1) := congrFun (hS188h.2 67 (by decide)) _
              have e29 : S149h.2 67 (1) = S113h.2 67 (1) := congrFun (hS149h.2 67 (by decide)) _
              have e30 : S113h.2 67 (1) = S108.2 67 (1) := congrFun (hS113h.2 67 (by decide)) _
              have e31 : S108.2 67 (1) = S105.2 67 (1) := congrFun (hS108.2 67 (by decide)) _
              have e32 : S105.2 67 (1) = (S73.2 67 (2)) := by have q := hS105v (1); omega
              refine ⟨by omega, ?_⟩
              refine ⟨by omega, ?_⟩
              refine ⟨fun h198 => ?_, fun h198 => ?_⟩
              · refine ⟨by omega, by omega, ?_⟩
                intro q33
                have e34 : S188h.2 67 (1) = S149h.2 67 (1) := congrFun (hS188h.2 67 (by decide)) _
                have e35 : S149h.2 67 (1) = S113h.2 67 (1) := congrFun (hS149h.2 67 (by decide)) _
                have e36 : S113h.2 67 (1) = S108.2 67 (1) := congrFun (hS113h.2 67 (by decide)) _
                have e37 : S108.2 67 (1) = S105.2 67 (1) := congrFun (hS108.2 67 (by decide)) _
                have e38 : S105.2 67 (1) = (S73.2 67 (2)) := by have q := hS105v (1); omega
                have e39 : S188h.1 54 18 = S149h.1 54 18 := hS188h.1 18 (by decide)
                have e40 : S149h.1 54 18 = S113h.1 54 18 := hS149h.1 18 (by decide)
                have e41 : S113h.1 54 18 = S108.1 54 18 := hS113h.1 18 (by decide)
                have e42 : S188h.2 67 1 = S149h.2 67 1 := congrFun (hS188h.2 67 (by decide)) _
                have e43 : S149h.2 67 1 = S113h.2 67 1 := congrFun (hS149h.2 67 (by decide)) _
                have e44 : S113h.2 67 1 = S108.2 67 1 := congrFun (hS113h.2 67 (by decide)) _
                have e45 : S108.2 67 1 = S105.2 67 1 := congrFun (hS108.2 67 (by decide)) _
                have e46 : S105.2 67 1 = (S73.2 67 (2)) := by have q := hS105v 1; omega
                have h53 : HV S53 := HV.mv p1 (((Ch.tr (Ch.tr (Ch.tr hS16 hS21h) hS49) hS53)).1 2 (by decide)) (((Ch.tr (Ch.tr (Ch.tr hS16 hS21h) hS49) hS53)).2 59 (by decide)) (((Ch.tr (Ch.tr (Ch.tr hS16 hS21h) hS49) hS53)).2 67 (by decide)) (((Ch.tr (Ch.tr (Ch.tr hS16 hS21h) hS49) hS53)).2 68 (by decide)) (((Ch.tr (Ch.tr (Ch.tr hS16 hS21h) hS49) hS53)).2 69 (by decide)) (((Ch.tr (Ch.tr (Ch.tr hS16 hS21h) hS49) hS53)).2 70 (by decide))
                have hc0 : S53.2 67 0 = S.2 67 0 := congrFun (((Ch.tr (Ch.tr (Ch.tr hS16 hS21h) hS49) hS53)).2 67 (by decide)) _
                have hc1 : S53.2 67 1 = S.2 67 1 := congrFun (((Ch.tr (Ch.tr (Ch.tr hS16 hS21h) hS49) hS53)).2 67 (by decide)) _
                have h73 : HV S73 := HV_FR h53 n73_2 ((hS73).1 2 (by decide)) ((hS73).2 59 (by decide)) (by omega) (by omega)
                have hg := n73_1.resolve_left (by omega)
                have q0 := hS105v 0
                have q1 := hS105v 1
                have q2 := n73_2.1 0
                have q3 : S188h.2 67 0 = S105.2 67 0 := congrFun (((Ch.tr (Ch.tr (Ch.tr hS108 hS113h) hS149h) hS188h)).2 67 (by decide)) _
                have q4 : S188h.2 67 1 = S105.2 67 1 := congrFun (((Ch.tr (Ch.tr (Ch.tr hS108 hS113h) hS149h) hS188h)).2 67 (by decide)) _
                have hHV : HV S188h := HV_copy (c := S73.2 67 2) h73 hg.1 hg.2.1 rfl (by omega) (by omega) (by omega) (((Ch.tr (Ch.tr (Ch.tr (Ch.tr hS105 hS108) hS113h) hS149h) hS188h)).2 59 (by decide)) (((Ch.tr (Ch.tr (Ch.tr (Ch.tr hS105 hS108) hS113h) hS149h) hS188h)).1 2 (by decide)) (by omega) (by omega) (fun x x0 x1 => by
                  have q := i113_1 (30 + x)
                  have e1 : S188h.2 68 (30 + x) = S113h.2 68 (30 + x) := congrFun (((Ch.tr hS149h hS188h)).2 68 (by decide)) _
                  rw [show (30 : Int) + x + 30 = 60 + x by omega] at q
                  have e2 : S108.2 68 (60 + x) = S73.2 68 (60 + x) := congrFun (((Ch.tr hS105 hS108)).2 68 (by decide)) _
                  omega) (fun x x0 => by
                  have q := i113_1 x
                  have e1 : S188h.2 68 x = S113h.2 68 x := congrFun (((Ch.tr hS149h hS188h)).2 68 (by decide)) _
                  have e2 : S108.2 68 x = S73.2 68 x := congrFun (((Ch.tr hS105 hS108)).2 68 (by decide)) _
                  omega) (fun x x0 x1 => by
                  have q := i149_1 (120 + x)
                  have e1 : S188h.2 69 (120 + x) = S149h.2 69 (120 + x) := congrFun ((hS188h).2 69 (by decide)) _
                  rw [show (120 : Int) + x + 120 = 240 + x by omega] at q
                  have e2 : S113h.2 69 (240 + x) = S73.2 69 (240 + x) := congrFun (((Ch.tr (Ch.tr hS105 hS108) hS113h)).2 69 (by decide)) _
                  omega) (fun x x0 => by
                  have q := i149_1 x
                  have e1 : S188h.2 69 x = S149h.2 69 x := congrFun ((hS188h).2 69 (by decide)) _
                  have e2 : S113h.2 69 x = S73.2 69 x := congrFun (((Ch.tr (Ch.tr hS105 hS108) hS113h)).2 69 (by decide)) _
                  omega) (fun x x0 x1 => by
                  have q := i188_1 (2400 + x)
                  rw [show (2400 : Int) + x + 2400 = 4800 + x by omega] at q
                  have e2 : S149h.2 70 (4800 + x) = S73.2 70 (4800 + x) := congrFun (((Ch.tr (Ch.tr (Ch.tr hS105 hS108) hS113h) hS149h)).2 70 (by decide)) _
                  omega) (fun x x0 => by
                  have q := i188_1 x
                  have e2 : S149h.2 70 x = S73.2 70 x := congrFun (((Ch.tr (Ch.tr (Ch.tr hS105 hS108) hS113h) hS149h)).2 70 (by decide)) _
                  omega)
                have hFH : FH S73 S188h := ⟨by omega, fun x x0 => by
                  have q := i113_1 x
                  have e1 : S188h.2 68 x = S113h.2 68 x := congrFun (((Ch.tr hS149h hS188h)).2 68 (by decide)) _
                  have e2 : S108.2 68 x = S73.2 68 x := congrFun (((Ch.tr hS105 hS108)).2 68 (by decide)) _
                  omega, fun x x0 => by
                  have q := i149_1 x
                  have e1 : S188h.2 69 x = S149h.2 69 x := congrFun ((hS188h).2 69 (by decide)) _
                  have e2 : S113h.2 69 x = S73.2 69 x := congrFun (((Ch.tr (Ch.tr hS105 hS108) hS113h)).2 69 (by decide)) _
                  omega, fun x x0 => by
                  have q := i188_1 x
                  have e2 : S149h.2 70 x = S73.2 70 x := congrFun (((Ch.tr (Ch.tr (Ch.tr hS105 hS108) hS113h) hS149h)).2 70 (by decide)) _
                  omega⟩
                exact hK (S188h.2 67 (1)) S188h (Ch.wk (Ch.tr (Ch.tr (Ch.tr (Ch.tr (Ch.tr (Ch.tr (Ch.tr (Ch.tr (Ch.tr hS16 hS21h) hS49) hS53) hS73) hS105) hS108) hS113h) hS149h) hS188h) (by decide) (by decide)) hHV (Or.inr (by omega)) (by omega) ((FH.mv (((Ch.tr (Ch.tr (Ch.tr hS16 hS21h) hS49) hS53)).2 67 (by decide)) (((Ch.tr (Ch.tr (Ch.tr hS16 hS21h) hS49) hS53)).2 68 (by decide)) (((Ch.tr (Ch.tr (Ch.tr hS16 hS21h) hS49) hS53)).2 69 (by decide)) (((Ch.tr (Ch.tr (Ch.tr hS16 hS21h) hS49) hS53)).2 70 (by decide)) : FH S S53).tr ((FH.fr n73_2).tr hFH)) (Or.inr ⟨by omega, ((((Ch.tr (Ch.tr (Ch.tr (Ch.tr (Ch.tr (Ch.tr hS53 hS73) hS105) hS108) hS113h) hS149h) hS188h)).1 0 (by decide))).trans hS49v⟩)
              · refine ⟨by omega, by omega, ?_⟩
                intro q47
                refine ⟨by omega, by omega, ?_⟩
                intro S220 hS220e
                have hS220 : Ch [] [70] S188h S220 := Ch_A hS220e
                have hS220v : ∀ x, (x = (2400 + v188_2) ∧ S220.2 70 x = S188h.2 70 ((4800 + v188_2))) ∨ (¬ x = (2400 + v188_2) ∧ S220.2 70 x = S188h.2 70 x) := pA_at hS220e
                have e48 : S220.2 67 1 = S188h.2 67 1 := congrFun (hS220.2 67 (by decide)) _
                have e49 : S188h.2 67 1 = S149h.2 67 1 := congrFun (hS188h.2 67 (by decide)) _
                have e50 : S149h.2 67 1 = S113h.2 67 1 := congrFun (hS149h.2 67 (by decide)) _
                have e51 : S113h.2 67 1 = S108.2 67 1 := congrFun (hS113h.2 67 (by decide)) _
                have e52 : S108.2 67 1 = S105.2 67 1 := congrFun (hS108.2 67 (by decide)) _
                have e53 : S105.2 67 1 = (S73.2 67 (2)) := by have q := hS105v 1; omega
                exact ⟨⟨(Ch.wk (Ch.tr hS188h hS220) (by decide) (by decide)), by omega, (by
                      intro x
                      have e54 := hS220v x
                      have e55 := i188_1 (4800 + v188_2)
                      have e56 := i188_1 x
                      by_cases hx : x = 2400 + v188_2
                      · subst hx
                        rw [show (2400 : Int) + v188_2 + 2400 = 4800 + v188_2 by omega]
                        omega
                      · omega), by omega⟩, show (2401 - ((v188_2 + 1))).toNat < (2401 - v188_2).toNat by omega⟩
            · refine ⟨by omega, by omega, ?_⟩
              intro q57
              refine ⟨by omega, by omega, ?_⟩
              intro S179 hS179e
              have hS179 : Ch [] [69] S149h S179 := Ch_A hS179e
              have hS179v : ∀ x, (x = (120 + v149_2) ∧ S179.2 69 x = S149h.2 69 ((240 + v149_2))) ∨ (¬ x = (120 + v149_2) ∧ S179.2 69 x = S149h.2 69 x) := pA_at hS179e
              have e58 : S179.2 67 1 = S149h.2 67 1 := congrFun (hS179.2 67 (by decide)) _
              have e59 : S149h.2 67 1 = S113h.2 67 1 := congrFun (hS149h.2 67 (by decide)) _
              have e60 : S113h.2 67 1 = S108.2 67 1 := congrFun (hS113h.2 67 (by decide)) _
              have e61 : S108.2 67 1 = S105.2 67 1 := congrFun (hS108.2 67 (by decide)) _
              have e62 : S105.2 67 1 = (S73.2 67 (2)) := by have q := hS105v 1; omega
              exact ⟨⟨(Ch.wk (Ch.tr hS149h hS179) (by decide) (by decide)), by omega, (by
                    intro x
                    have e63 := hS179v x
                    have e64 := i149_1 (240 + v149_2)
                    have e65 := i149_1 x
                    by_cases hx : x = 120 + v149_2
                    · subst hx
                      rw [show (120 : Int) + v149_2 + 120 = 240 + v149_2 by omega]
                      omega
                    · omega), by omega⟩, show (121 - ((v149_2 + 1))).toNat < (121 - v149_2).toNat by omega⟩
          · refine ⟨by omega, by omega, ?_⟩
            intro q66
            refine ⟨by omega, by omega, ?_⟩
            intro S140 hS140e
            have hS140 : Ch [] [68] S113h S140 := Ch_A hS140e
            have hS140v : ∀ x, (x = (30 + v113_2) ∧ S140.2 68 x = S113h.2 68 ((60 + v113_2))) ∨ (¬ x = (30 + v113_2) ∧ S140.2 68 x = S113h.2 68 x) := pA_at hS140e
            have e67 : S140.2 67 1 = S113h.2 67 1 := congrFun (hS140.2 67 (by decide)) _
            have e68 : S113h.2 67 1 = S108.2 67 1 := congrFun (hS113h.2 67 (by decide)) _
            have e69 : S108.2 67 1 = S105.2 67 1 := congrFun (hS108.2 67 (by decide)) _
            have e70 : S105.2 67 1 = (S73.2 67 (2)) := by have q := hS105v 1; omega
            exact ⟨⟨(Ch.wk (Ch.tr hS113h hS140) (by decide) (by decide)), by omega, (by
                  intro x
                  have e71 := hS140v x
                  have e72 := i113_1 (60 + v113_2)
                  have e73 := i113_1 x
                  by_cases hx : x = 30 + v113_2
                  · subst hx
                    rw [show (30 : Int) + v113_2 + 30 = 60 + v113_2 by omega]
                    omega
                  · omega), by omega⟩, show (31 - ((v113_2 + 1))).toNat < (31 - v113_2).toNat by omega⟩
        · refine ⟨by omega, by omega, ?_⟩
          intro q74
          have e75 : S73.2 85 (r73) = S53.2 85 (r73) := congrFun (hS73.2 85 (by decide)) _
          have e76 : S73.1 54 18 = S53.1 54 18 := hS73.1 18 (by decide)
          have e77 : S53.1 54 18 = S49.1 54 18 := hS53.1 18 (by decide)
          have e78 : S49.1 54 18 = S21h.1 54 18 := hS49.1 18 (by decide)
          have e79 : S21h.1 54 18 = S16.1 54 18 := hS21h.1 18 (by decide)
          have e80 : S16.1 54 18 = S.1 54 18 := hS16.1 18 (by decide)
          exact hK (((-10001) - S73.2 85 (r73))) S73 (Ch.wk (Ch.tr (Ch.tr (Ch.tr (Ch.tr hS16 hS21h) hS49) hS53) hS73) (by decide) (by decide)) (HV_FR (HV.mv p1 (((Ch.tr (Ch.tr (Ch.tr hS16 hS21h) hS49) hS53)).1 2 (by decide)) (((Ch.tr (Ch.tr (Ch.tr hS16 hS21h) hS49) hS53)).2 59 (by decide)) (((Ch.tr (Ch.tr (Ch.tr hS16 hS21h) hS49) hS53)).2 67 (by decide)) (((Ch.tr (Ch.tr (Ch.tr hS16 hS21h) hS49) hS53)).2 68 (by decide)) (((Ch.tr (Ch.tr (Ch.tr hS16 hS21h) hS49) hS53)).2 69 (by decide)) (((Ch.tr (Ch.tr (Ch.tr hS16 hS21h) hS49) hS53)).2 70 (by decide))) n73_2 ((hS73).1 2 (by decide)) ((hS73).2 59 (by decide)) (by have q : S53.2 67 0 = S.2 67 0 := congrFun (((Ch.tr (Ch.tr (Ch.tr hS16 hS21h) hS49) hS53)).2 67 (by decide)) _; omega) (by have q : S53.2 67 1 = S.2 67 1 := congrFun (((Ch.tr (Ch.tr (Ch.tr hS16 hS21h) hS49) hS53)).2 67 (by decide)) _; omega)) (by
                have q := n73_2.1 1
                have q2 : S53.2 67 1 = S.2 67 1 := congrFun (((Ch.tr (Ch.tr (Ch.tr hS16 hS21h) hS49) hS53)).2 67 (by decide)) _
                have e81 : S73.1 54 18 = S53.1 54 18 := hS73.1 18 (by decide)
                have e82 : S53.1 54 18 = S49.1 54 18 := hS53.1 18 (by decide)
                have e83 : S49.1 54 18 = S21h.1 54 18 := hS49.1 18 (by decide)
                have e84 : S21h.1 54 18 = S16.1 54 18 := hS21h.1 18 (by decide)
                have e85 : S16.1 54 18 = S.1 54 18 := hS16.1 18 (by decide)
                omega) (by omega) ((FH.mv (((Ch.tr (Ch.tr (Ch.tr hS16 hS21h) hS49) hS53)).2 67 (by decide)) (((Ch.tr (Ch.tr (Ch.tr hS16 hS21h) hS49) hS53)).2 68 (by decide)) (((Ch.tr (Ch.tr (Ch.tr hS16 hS21h) hS49) hS53)).2 69 (by decide)) (((Ch.tr (Ch.tr (Ch.tr hS16 hS21h) hS49) hS53)).2 70 (by decide)) : FH S S53).tr (FH.fr n73_2)) (Or.inr ⟨by omega, ((((Ch.tr hS53 hS73)).1 0 (by decide))).trans hS49v⟩)
      · have e86 : S53.1 54 18 = S49.1 54 18 := hS53.1 18 (by decide)
        have e87 : S49.1 54 18 = S21h.1 54 18 := hS49.1 18 (by decide)
        have e88 : S21h.1 54 18 = S16.1 54 18 := hS21h.1 18 (by decide)
        have e89 : S16.1 54 18 = S.1 54 18 := hS16.1 18 (by decide)
        have e90 : S53.2 67 1 = S49.2 67 1 := congrFun (hS53.2 67 (by decide)) _
        have e91 : S49.2 67 1 = S21h.2 67 1 := congrFun (hS49.2 67 (by decide)) _
        have e92 : S21h.2 67 1 = S16.2 67 1 := congrFun (hS21h.2 67 (by decide)) _
        have e93 : S16.2 67 1 = S.2 67 1 := congrFun (hS16.2 67 (by decide)) _
        exact hK (((-1) - S53.1 54 59)) S53 (Ch.wk (Ch.tr (Ch.tr (Ch.tr hS16 hS21h) hS49) hS53) (by decide) (by decide)) (HV.mv p1 (((Ch.tr (Ch.tr (Ch.tr hS16 hS21h) hS49) hS53)).1 2 (by decide)) (((Ch.tr (Ch.tr (Ch.tr hS16 hS21h) hS49) hS53)).2 59 (by decide)) (((Ch.tr (Ch.tr (Ch.tr hS16 hS21h) hS49) hS53)).2 67 (by decide)) (((Ch.tr (Ch.tr (Ch.tr hS16 hS21h) hS49) hS53)).2 68 (by decide)) (((Ch.tr (Ch.tr (Ch.tr hS16 hS21h) hS49) hS53)).2 69 (by decide)) (((Ch.tr (Ch.tr (Ch.tr hS16 hS21h) hS49) hS53)).2 70 (by decide))) (by
              have q2 : S53.2 67 1 = S.2 67 1 := congrFun (((Ch.tr (Ch.tr (Ch.tr hS16 hS21h) hS49) hS53)).2 67 (by decide)) _
              have e94 : S53.1 54 18 = S49.1 54 18 := hS53.1 18 (by decide)
              have e95 : S49.1 54 18 = S21h.1 54 18 := hS49.1 18 (by decide)
              have e96 : S21h.1 54 18 = S16.1 54 18 := hS21h.1 18 (by decide)
              have e97 : S16.1 54 18 = S.1 54 18 := hS16.1 18 (by decide)
              omega) (by omega) (FH.mv (((Ch.tr (Ch.tr (Ch.tr hS16 hS21h) hS49) hS53)).2 67 (by decide)) (((Ch.tr (Ch.tr (Ch.tr hS16 hS21h) hS49) hS53)).2 68 (by decide)) (((Ch.tr (Ch.tr (Ch.tr hS16 hS21h) hS49) hS53)).2 69 (by decide)) (((Ch.tr (Ch.tr (Ch.tr hS16 hS21h) hS49) hS53)).2 70 (by decide)) : FH S S53) (Or.inr ⟨by omega, (((hS53).1 0 (by decide))).trans hS49v⟩)
    · refine ⟨by omega, by omega, ?_⟩
      intro q98
      have e99 : S21h.2 55 (v21_1) = S16.2 55 (v21_1) := congrFun (hS21h.2 55 (by decide)) _
      have e100 : S16.2 55 (v21_1) = S.2 55 (v21_1) := congrFun (hS16.2 55 (by decide)) _
      refine ⟨by omega, by omega, ?_⟩
      intro S40 hS40e
      have hS40 : Ch [] [84] S21h S40 := Ch_A hS40e
      have hS40v : ∀ x, (x = v21_1 ∧ S40.2 84 x = S21h.2 55 (v21_1)) ∨ (¬ x = v21_1 ∧ S40.2 84 x = S21h.2 84 x) := pA_at hS40e
      exact ⟨⟨(Ch.wk (Ch.tr hS21h hS40) (by decide) (by decide)), by omega⟩, show (3001 - ((v21_1 + 1))).toNat < (3001 - v21_1).toNat by omega⟩
  · exact hK ((-3001)) S (Ch.wk Ch.rf (by decide) (by decide)) p1 p5 (by omega) (FH.mv rfl rfl rfl rfl) (Or.inl ⟨by omega, rfl⟩)

