/-! THE RELATION between the class and the model -/
def NMD (S : St) : Prop := ∀ x y : Int, x < 0 ∨ S.1 54 2 ≤ x ∨ (1 ≤ S.2 57 x ∧ (y < 0 ∨ 3 < y ∨ S.2 56 x ≤ y ∨ 1 ≤ S.2 57 (6 + (4 * x + y))))
def MI (S : St) : Prop := HV S ∧ NMD S ∧ (S.1 54 18 = 0 ∨ 1 ≤ S.2 67 1)
theorem NMD.mv {S S' : St} (h : NMD S) (e2 : S'.1 54 2 = S.1 54 2) (e56 : S'.2 56 = S.2 56) (e57 : S'.2 57 = S.2 57) : NMD S' := by
  unfold NMD
  rw [e2, e56, e57]
  exact h
theorem MI.mv {S S' : St} (h : MI S) (e2 : S'.1 54 2 = S.1 54 2) (e18 : S'.1 54 18 = S.1 54 18) (e56 : S'.2 56 = S.2 56) (e57 : S'.2 57 = S.2 57) (e59 : S'.2 59 = S.2 59) (e67 : S'.2 67 = S.2 67) (e68 : S'.2 68 = S.2 68) (e69 : S'.2 69 = S.2 69) (e70 : S'.2 70 = S.2 70) : MI S' := by
  refine ⟨HV.mv h.1 e2 e59 e67 e68 e69 e70, NMD.mv h.2.1 e2 e56 e57, ?_⟩
  rw [e18, e67]
  exact h.2.2
theorem MI.hv {S S' : St} (h : MI S) (hv : HV S') (e2 : S'.1 54 2 = S.1 54 2) (e18 : S'.1 54 18 = S.1 54 18) (e56 : S'.2 56 = S.2 56) (e57 : S'.2 57 = S.2 57) (e67 : S'.2 67 1 = S.2 67 1) : MI S' := by
  refine ⟨hv, NMD.mv h.2.1 e2 e56 e57, ?_⟩
  rw [e18, e67]
  exact h.2.2
theorem HV0 {S : St} (h0 : S.2 67 0 = 0) (h1 : S.2 67 1 = 0) : HV S := by
  refine ⟨fun x y => ?_, fun x y z => ?_, fun x y z => ?_, fun x => ?_, fun x y => ?_, fun x y z => ?_⟩ <;> omega
def RE (S Sm : St) (e : Env) : Prop := cE S e ∧ mE Sm e ∧ mN Sm e ∧ EV e ∧ DN e ∧ ∀ c, okC e c → RC S e c ∧ S.2 32 c = Sm.2 61 c
def CT (S Sm : St) : Prop := Sm.1 54 0 = S.1 1 1 ∧ ∀ p, 0 ≤ p → p < S.1 1 1 → Sm.2 55 p = S.2 1 p
def WR (S Sm : St) : Prop := Sm.1 54 20 = S.1 20 1 ∧ ∀ p, 0 ≤ p → p < S.1 20 1 → Sm.2 71 p = S.2 20 p
def RR (S Sm : St) : Prop := (∃ e, RE S Sm e) ∧ CT S Sm ∧ WR S Sm ∧ S.1 0 9 = Sm.1 54 19
/-- what the law asks of a call -/
def KK (x : Int) (S' : St) : Int → St → Prop := fun r Sm' => r = x ∧ RR S' Sm' ∧ MI Sm'
theorem CT.mv {S Sm S' Sm' : St} (h : CT S Sm) (c1 : S'.1 1 1 = S.1 1 1) (c2 : S'.2 1 = S.2 1) (m1 : Sm'.1 54 0 = Sm.1 54 0) (m2 : Sm'.2 55 = Sm.2 55) : CT S' Sm' := by
  unfold CT
  rw [c1, c2, m1, m2]
  exact h
theorem WR.mv {S Sm S' Sm' : St} (h : WR S Sm) (c1 : S'.1 20 1 = S.1 20 1) (c2 : S'.2 20 = S.2 20) (m1 : Sm'.1 54 20 = Sm.1 54 20) (m2 : Sm'.2 71 = Sm.2 71) : WR S' Sm' := by
  unfold WR
  rw [c1, c2, m1, m2]
  exact h
theorem RE.mv {S Sm S' Sm' : St} {e : Env} (h : RE S Sm e) (c1 : ∀ b, 24 ≤ b → b ≤ 45 → S'.1 b = S.1 b ∧ S'.2 b = S.2 b) (m1 : Sm'.1 54 2 = Sm.1 54 2) (m2 : ∀ b, (56 ≤ b ∧ b ≤ 61) ∨ (67 ≤ b ∧ b ≤ 70) → Sm'.2 b = Sm.2 b) : RE S' Sm' e := by
  obtain ⟨a1, a2, a3, a4, a5, a6⟩ := h
  have g : ∀ b, 24 ≤ b → b ≤ 45 → S'.2 b = S.2 b := fun b q1 q2 => (c1 b q1 q2).2
  refine ⟨a1.mv (congrFun (c1 42 (by decide) (by decide)).1 3) (congrFun (c1 24 (by decide) (by decide)).1 8) (g 43 (by decide) (by decide)) (g 44 (by decide) (by decide)) (g 45 (by decide) (by decide)) (g 25 (by decide) (by decide)) (g 26 (by decide) (by decide)) (g 27 (by decide) (by decide)) (g 28 (by decide) (by decide)) (g 29 (by decide) (by decide)) (g 30 (by decide) (by decide)), a2.mv m1 (m2 67 (by decide)) (m2 68 (by decide)) (m2 69 (by decide)) (m2 70 (by decide)) (m2 56 (by decide)) (m2 57 (by decide)) (m2 58 (by decide)) (m2 59 (by decide)) (m2 60 (by decide)), fun k hk => ?_, a4, a5, fun c hc => ?_⟩
  · unfold nL
    rw [m2 57 (by decide), m2 58 (by decide)]
    exact a3 k hk
  · unfold RC
    rw [g 31 (by decide) (by decide), g 32 (by decide) (by decide), m2 61 (by decide)]
    exact a6 c hc
theorem RE_hp {S Sm S' Sm' : St} {e : Env} {N : Int} {K : Int → Int} {V : Int → Int → Int} {P : Int → Int → Int → Int} (h : RE S Sm e) (qc : HC S S') (qm : HM Sm Sm') (hc : cE S' (hp e N K V P)) (hm : mE Sm' (hp e N K V P)) (hv : EV (hp e N K V P)) : RE S' Sm' (hp e N K V P) := by
  obtain ⟨a1, a2, a3, a4, a5, a6⟩ := h
  refine ⟨hc, hm, mN_hp a3 qm, hv, a5, fun c hc => ?_⟩
  unfold RC
  rw [qc.2 31 (by decide), qc.2 32 (by decide), qm.2 61 (by decide) (by decide)]
  exact a6 c hc
section PR
variable {S Sm : St} {a b x : Int}
theorem p_unit (h : RR S Sm) (hI : MI Sm) (hn : iv 0 3000 (S.1 1 1)) : wX10_unit a S (fun x S' => wX11_unit a Sm (KK x S')) := by
  obtain ⟨⟨e, hR⟩, hC, hWr, hL⟩ := h
  have e0 := hC.1
  refine c_unit (fun x S' hc => n_unit (by rw [e0]; exact hn) (fun r Sm' hm => ?_))
  have same : ∀ T, (∀ b, b ≠ 1 → T.1 b = S.1 b ∧ T.2 b = S.2 b) → T.1 1 1 = S.1 1 1 → T.2 1 = S.2 1 → RR T Sm := fun T h1 h2 h3 => ⟨⟨e, hR.mv (fun b q1 q2 => h1 b (by omega)) rfl (fun _ _ => rfl)⟩, hC.mv h2 h3 rfl rfl, hWr.mv (congrFun (h1 20 (by decide)).1 1) (h1 20 (by decide)).2 rfl rfl, (congrFun (h1 0 (by decide)).1 9).trans hL⟩
  rcases hc with ⟨c1, c2, c3, c4⟩ | ⟨c1, c2, c3⟩ | ⟨c1, c2, c3, c4⟩
  · rcases hm with ⟨m1, m2, m3, m4⟩ | ⟨m1, -⟩
    · have ne : ∀ b, b ≠ 1 → S'.1 b = S.1 b ∧ S'.2 b = S.2 b := fun b hb => by rw [c4]; exact sPut_ne b hb
      have s1 : S' = pI (pA S 1 (S.1 1 1) a) 1 1 (S.1 1 1 + 1) := by rw [c4]; unfold sPut; rw [if_pos c2]
      have q1 : S'.1 1 1 = S.1 1 1 + 1 := by rw [s1]; rfl
      have q2 : ∀ p, S'.2 1 p = if p = S.1 1 1 then a else S.2 1 p := fun p => by rw [s1]; exact pA_if
      have q3 : ∀ j, j ≠ 0 → Sm'.1 54 j = Sm.1 54 j := fun j hj => by rw [m4]; exact if_neg (fun q => hj q.2)
      have q4 : ∀ b, b ≠ 55 → Sm'.2 b = Sm.2 b := fun b hb => by rw [m4]; exact (pA_ne b hb).2
      have q5 : Sm'.1 54 0 = Sm.1 54 0 + 1 := by rw [m4]; rfl
      have q6 : ∀ p, Sm'.2 55 p = if p = Sm.1 54 0 then a else Sm.2 55 p := fun p => by rw [m4]; exact pA_if
      refine ⟨m3.trans c3.symm, ⟨⟨e, hR.mv (fun b q1 q2 => ne b (by omega)) (q3 2 (by decide)) (fun b hb => q4 b (by omega))⟩, ⟨by omega, fun p p0 p1 => ?_⟩, hWr.mv (congrFun (ne 20 (by decide)).1 1) (ne 20 (by decide)).2 (q3 20 (by decide)) (q4 71 (by decide)), ?_⟩, hI.mv (q3 2 (by decide)) (q3 18 (by decide)) (q4 56 (by decide)) (q4 57 (by decide)) (q4 59 (by decide)) (q4 67 (by decide)) (q4 68 (by decide)) (q4 69 (by decide)) (q4 70 (by decide))⟩
      · rw [q2, q6, e0]
        by_cases hp : p = S.1 1 1
        · rw [if_pos hp, if_pos hp]
        · rw [if_neg hp, if_neg hp]
          exact hC.2 p p0 (by omega)
      · rw [(ne 0 (by decide)).1, q3 19 (by decide)]
        exact hL
    · exact absurd ⟨c1, by omega⟩ m1
  · rcases hm with ⟨m1, -⟩ | ⟨-, m2, m3⟩
    · exact absurd m1 c1
    · rw [m3, c3]
      exact ⟨m2.trans c2.symm, ⟨⟨e, hR⟩, hC, hWr, hL⟩, hI⟩
  · rcases hm with ⟨-, m1, -⟩ | ⟨-, m2, m3⟩
    · omega
    · rw [m3]
      have s1 : S' = pI S 1 2 1 := by rw [c4]; unfold sPut; rw [if_neg (by omega)]
      exact ⟨m2.trans c3.symm, same S' (fun b hb => by rw [c4]; exact sPut_ne b hb) (by rw [s1]; rfl) (by rw [s1]; rfl), hI⟩
theorem p_take (h : RR S Sm) (hI : MI Sm) (hn : iv 0 3000 (S.1 20 1)) : wX10_take S (fun x S' => wX11_take Sm (KK x S')) := by
  obtain ⟨⟨e, hR⟩, hC, hWr, hL⟩ := h
  have e20 := hWr.1
  refine c_take hn (fun S' ne q1 q2 => n_take (by rw [e20]; exact hn) (fun Sm' q3 q4 q5 q6 => ?_))
  refine ⟨e20, ⟨⟨e, hR.mv (fun b q1 q2 => ne b (by omega)) (q3 2 (by decide)) (fun b hb => q4 b (by omega))⟩, ⟨by omega, fun p p0 p1 => ?_⟩, hWr.mv (congrFun (ne 20 (by decide)).1 1) (ne 20 (by decide)).2 (q3 20 (by decide)) (q4 71 (by decide)), ?_⟩, hI.mv (q3 2 (by decide)) (q3 18 (by decide)) (q4 56 (by decide)) (q4 57 (by decide)) (q4 59 (by decide)) (q4 67 (by decide)) (q4 68 (by decide)) (q4 69 (by decide)) (q4 70 (by decide))⟩
  · rw [q1] at p1
    rw [q2 p p0 p1, q6 p p0 (by omega)]
    exact hWr.2 p p0 p1
  · rw [(ne 0 (by decide)).1, q3 19 (by decide)]
    exact hL
theorem p_sign (h : RR S Sm) (hI : MI Sm) (hn : iv 0 3000 (S.1 20 1)) : wX10_sign a S (fun x S' => wX11_sign a Sm (KK x S')) := by
  have hWr := h.2.2.1
  have e20 := hWr.1
  refine c_sign (fun x hc => n_sign (by rw [e20]; exact hn) (fun r hm => ⟨?_, h, hI⟩))
  rcases hc with ⟨c1, c2, c3⟩ | ⟨c1, c2⟩
  · rcases hm with ⟨-, -, m3⟩ | ⟨m1, -⟩
    · rw [c3, m3]
      exact hWr.2 a c1 c2
    · omega
  · rcases hm with ⟨m1, m2, -⟩ | ⟨-, m2⟩
    · omega
    · omega
theorem p_forbid (h : RR S Sm) (hI : MI Sm) (hb : iv 0 1 b) (h32 : ∀ c, iv 0 1 (S.2 32 c)) : wX10_forbid a b S (fun x S' => wX11_forbid a b Sm (KK x S')) := by
  obtain ⟨⟨e, hR⟩, hC, hWr, hL⟩ := h
  refine c_forbid hR.1 hR.2.2.2.1 hb (fun c _ => h32 c) (fun x S' hc => n_forbid hR.2.1 hR.2.2.2.1 hb (fun r Sm' hm => ?_))
  rcases hc with ⟨c1, c2, c3⟩ | ⟨c1, c2, c3⟩
  · rcases hm with ⟨-, m2, m3⟩ | ⟨m1, -⟩
    · obtain ⟨a1, a2, a3, a4, a5, a6⟩ := hR
      have g : ∀ k, k ≠ 32 → S'.2 k = S.2 k := fun k hk => by rw [c3]; exact (pA_ne k hk).2
      have g1 : S'.1 = S.1 := by rw [c3]; rfl
      have m : ∀ k, k ≠ 61 → Sm'.2 k = Sm.2 k := fun k hk => by rw [m3]; exact (pA_ne k hk).2
      have m1 : Sm'.1 = Sm.1 := by rw [m3]; rfl
      refine ⟨m2.trans ((a6 a c1).2.symm.trans c2.symm), ⟨⟨e, a1.mv (by rw [g1]) (by rw [g1]) (g 43 (by decide)) (g 44 (by decide)) (g 45 (by decide)) (g 25 (by decide)) (g 26 (by decide)) (g 27 (by decide)) (g 28 (by decide)) (g 29 (by decide)) (g 30 (by decide)), a2.mv (by rw [m1]) (m 67 (by decide)) (m 68 (by decide)) (m 69 (by decide)) (m 70 (by decide)) (m 56 (by decide)) (m 57 (by decide)) (m 58 (by decide)) (m 59 (by decide)) (m 60 (by decide)), fun k hk => ?_, a4, a5, fun c hc => ?_⟩, hC.mv (by rw [g1]) (g 1 (by decide)) (by rw [m1]) (m 55 (by decide)), hWr.mv (by rw [g1]) (g 20 (by decide)) (by rw [m1]) (m 71 (by decide)), by rw [g1, m1]; exact hL⟩, hI.mv (by rw [m1]) (by rw [m1]) (m 56 (by decide)) (m 57 (by decide)) (m 59 (by decide)) (m 67 (by decide)) (m 68 (by decide)) (m 69 (by decide)) (m 70 (by decide))⟩
      · unfold nL
        rw [m 57 (by decide), m 58 (by decide)]
        exact a3 k hk
      · refine ⟨?_, ?_⟩
        · unfold RC
          rw [g 31 (by decide)]
          exact (a6 c hc).1
        · rw [c3, m3, pA_if, pA_if]
          by_cases q : c = a
          · rw [if_pos q, if_pos q]
          · rw [if_neg q, if_neg q]
            exact (a6 c hc).2
    · exact absurd c1 m1
  · rcases hm with ⟨m1, -⟩ | ⟨-, m2, m3⟩
    · exact absurd m1 c1
    · rw [m3, c3]
      exact ⟨m2.trans c2.symm, ⟨⟨e, hR⟩, hC, hWr, hL⟩, hI⟩
end PR

