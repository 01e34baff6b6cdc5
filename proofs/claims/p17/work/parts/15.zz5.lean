/-! THE RELATION between the class and the model -/
def RE (S Sm : St) (e : Env) : Prop := cE S e ∧ mE Sm e ∧ mN Sm e ∧ EV e ∧ DN e ∧ ∀ c, okC e c → RC S e c ∧ S.2 32 c = Sm.2 61 c
def CT (S Sm : St) : Prop := Sm.1 54 0 = S.1 1 1 ∧ ∀ p, 0 ≤ p → p < S.1 1 1 → Sm.2 55 p = S.2 1 p
def WR (S Sm : St) : Prop := Sm.1 54 20 = S.1 20 1 ∧ ∀ p, 0 ≤ p → p < S.1 20 1 → Sm.2 71 p = S.2 20 p
/-- all signs are signs -/
def sNo (S : St) (a : Nat) : Prop := ∀ p, 0 ≤ p → p < S.1 a 1 → isSn (S.2 a p)
/-- what reading needs of the classes, and what was read -/
def RX (S Sm : St) (e : Env) (h : Hs) : Prop := XE e ∧ (∀ c, okC e c → S.2 30 c = imp e c) ∧ (TT e ∧ NSg e) ∧ EH e h ∧ cH6 S e h ∧ mH1 Sm e h ∧ ((Sm.1 54 18 = 0 ∧ h.1 = 0) ∨ (¬ Sm.1 54 18 = 0 ∧ 0 < h.1))
def RR (S Sm : St) : Prop := (∃ e, RE S Sm e ∧ ∃ h, RX S Sm e h) ∧ CT S Sm ∧ WR S Sm ∧ S.1 0 9 = Sm.1 54 19 ∧ sNo S 1 ∧ sNo S 20
/-- what the law asks of a call -/
def KK (x : Int) (S' : St) : Int → St → Prop := fun r Sm' => r = x ∧ RR S' Sm'
theorem sNo.mv {S S' : St} {a : Nat} (h : sNo S a) (h1 : S'.1 a 1 = S.1 a 1) (h2 : S'.2 a = S.2 a) : sNo S' a := by
  unfold sNo
  rw [h1, h2]
  exact h
theorem cH6.mv {S S' : St} {e : Env} {h : Hs} (hE : cH6 S e h) (h46 : S'.1 46 3 = S.1 46 3) (h47 : S'.2 47 = S.2 47) (h48 : S'.2 48 = S.2 48) (h49 : S'.2 49 = S.2 49) : cH6 S' e h := by
  unfold cH6 at hE ⊢
  rw [h46, h47, h48, h49]
  exact hE
theorem mH1.hi {S S' : St} {e : Env} {h : Hs} (g : mH1 S e h) (hV : EV e) (hH : EH e h) (h67 : S'.2 67 1 = S.2 67 1) (h68 : ∀ i, 30 ≤ i → S'.2 68 i = S.2 68 i) (h69 : ∀ i, 120 ≤ i → S'.2 69 i = S.2 69 i) (h70 : ∀ i, 2400 ≤ i → S'.2 70 i = S.2 70 i) : mH1 S' e h := by
  obtain ⟨g1, g2, g3, g4⟩ := g
  refine ⟨h67.trans g1, fun o o0 o1 => (h68 _ (by omega)).trans (g2 o o0 o1), fun o f o0 o1 hf => ?_, fun o f i o0 o1 hf hd i0 i1 => ?_⟩
  · have f4 := okF4 hV hf
    exact (h69 _ (by omega)).trans (g3 o f o0 o1 hf)
  · have f4 := okF4 hV hf
    exact (h70 _ (by omega)).trans (g4 o f i o0 o1 hf hd i0 i1)
theorem RX.mv {S Sm S' Sm' : St} {e : Env} {g : Hs} (h : RX S Sm e g) (c1 : ∀ b, b = 30 ∨ (46 ≤ b ∧ b ≤ 49) → S'.1 b = S.1 b ∧ S'.2 b = S.2 b) (m18 : Sm'.1 54 18 = Sm.1 54 18) (m2 : ∀ b, 67 ≤ b → b ≤ 70 → Sm'.2 b = Sm.2 b) : RX S' Sm' e g := by
  obtain ⟨x1, x2, x3, x4, x5, x6, x7⟩ := h
  refine ⟨x1, fun c hc => by rw [(c1 30 (by decide)).2]; exact x2 c hc, x3, x4, x5.mv (congrFun (c1 46 (by decide)).1 3) (c1 47 (by decide)).2 (c1 48 (by decide)).2 (c1 49 (by decide)).2, ?_, by rw [m18]; exact x7⟩
  unfold mH1 at x6 ⊢
  rw [m2 67 (by decide) (by decide), m2 68 (by decide) (by decide), m2 69 (by decide) (by decide), m2 70 (by decide) (by decide)]
  exact x6
theorem RX.hq {S Sm S' Sm' : St} {e : Env} {g : Hs} {N : Int} {K : Int → Int} {V : Int → Int → Int} {P : Int → Int → Int → Int} (h : RX S Sm e g) (hV : EV e) (c1 : ∀ b, b = 30 ∨ (46 ≤ b ∧ b ≤ 49) → S'.1 b = S.1 b ∧ S'.2 b = S.2 b) (m18 : Sm'.1 54 18 = Sm.1 54 18) (h67 : Sm'.2 67 1 = Sm.2 67 1) (h68 : ∀ i, 30 ≤ i → Sm'.2 68 i = Sm.2 68 i) (h69 : ∀ i, 120 ≤ i → Sm'.2 69 i = Sm.2 69 i) (h70 : ∀ i, 2400 ≤ i → Sm'.2 70 i = Sm.2 70 i) (hT : TT (hp e N K V P)) : RX S' Sm' (hp e N K V P) g := by
  obtain ⟨x1, x2, x3, x4, x5, x6, x7⟩ := h
  exact ⟨x1, fun c hc => by rw [(c1 30 (by decide)).2]; exact x2 c hc, ⟨hT, x3.2⟩, x4, x5.mv (congrFun (c1 46 (by decide)).1 3) (c1 47 (by decide)).2 (c1 48 (by decide)).2 (c1 49 (by decide)).2, x6.hi hV x4 h67 h68 h69 h70, by rw [m18]; exact x7⟩
theorem CT.mv {S Sm S' Sm' : St} (h : CT S Sm) (c1 : S'.1 1 1 = S.1 1 1) (c2 : S'.2 1 = S.2 1) (m1 : Sm'.1 54 0 = Sm.1 54 0) (m2 : Sm'.2 55 = Sm.2 55) : CT S' Sm' := by
  unfold CT
  rw [c1, c2, m1, m2]
  exact h
theorem WR.mv {S Sm S' Sm' : St} (h : WR S Sm) (c1 : S'.1 20 1 = S.1 20 1) (c2 : S'.2 20 = S.2 20) (m1 : Sm'.1 54 20 = Sm.1 54 20) (m2 : Sm'.2 71 = Sm.2 71) : WR S' Sm' := by
  unfold WR
  rw [c1, c2, m1, m2]
  exact h
theorem RE.mv {S Sm S' Sm' : St} {e : Env} (h : RE S Sm e) (c1 : ∀ b, 24 ≤ b → b ≤ 45 → S'.1 b = S.1 b ∧ S'.2 b = S.2 b) (m1 : Sm'.1 54 2 = Sm.1 54 2) (m2 : ∀ b, (56 ≤ b ∧ b ≤ 61) ∨ (67 ≤ b ∧ b ≤ 70) → Sm'.2 b = Sm.2 b) : RE S' Sm' e := by
  obtain ⟨a1, a2, a3, a4, a5, a6⟩ := h
  have g : ∀ b, 24 ≤ b → b ≤ 45 → S'.2 b = S.2 b := fun b q1 q2 => (c1 b q1 q2).2
  refine ⟨a1.mv (congrFun (c1 42 (by decide) (by decide)).1 3) (congrFun (c1 24 (by decide) (by decide)).1 8) (g 43 (by decide) (by decide)) (g 44 (by decide) (by decide)) (g 45 (by decide) (by decide)) (g 25 (by decide) (by decide)) (g 26 (by decide) (by decide)) (g 27 (by decide) (by decide)) (g 28 (by decide) (by decide)) (g 29 (by decide) (by decide)) (g 30 (by decide) (by decide)), a2.mv m1 (m2 67 (by decide)) (m2 68 (by decide)) (m2 69 (by decide)) (m2 70 (by decide)) (m2 56 (by decide)) (m2 57 (by decide)) (m2 58 (by decide)) (m2 59 (by decide)) (m2 60 (by decide)), fun k hk => ?_, a4, a5, fun c hc => ?_⟩
  · unfold nL
    rw [m2 57 (by decide), m2 58 (by decide)]
    exact a3 k hk
  · unfold RC
    rw [g 31 (by decide) (by decide), g 32 (by decide) (by decide), m2 61 (by decide)]
    exact a6 c hc
theorem RE_hp {S Sm S' Sm' : St} {e : Env} {N : Int} {K : Int → Int} {V : Int → Int → Int} {P : Int → Int → Int → Int} (h : RE S Sm e) (qc : HC S S') (qm : HM Sm Sm') (hc : cE S' (hp e N K V P)) (hm : mE Sm' (hp e N K V P)) (hv : EV (hp e N K V P)) : RE S' Sm' (hp e N K V P) := by
  obtain ⟨a1, a2, a3, a4, a5, a6⟩ := h
  refine ⟨hc, hm, mN_hp a3 qm, hv, a5, fun c hc => ?_⟩
  unfold RC
  rw [qc.2 31 (by decide), qc.2 32 (by decide), qm.2 61 (by decide) (by decide)]
  exact a6 c hc
section PR
variable {S Sm : St} {a b x : Int}
theorem p_unit (h : RR S Sm) (hn : iv 0 3000 (S.1 1 1)) : wX10_unit a S (fun x S' => wX11_unit a Sm (KK x S')) := by
  obtain ⟨⟨e, hR, g, hx⟩, hC, hWr, hL, s1, s20⟩ := h
  have e0 := hC.1
  refine c_unit (fun x S' hc => n_unit (by rw [e0]; exact hn) (fun r Sm' hm => ?_))
  have same : ∀ T, (∀ b, b ≠ 1 → T.1 b = S.1 b ∧ T.2 b = S.2 b) → T.1 1 1 = S.1 1 1 → T.2 1 = S.2 1 → RR T Sm := fun T h1 h2 h3 => ⟨⟨e, hR.mv (fun b q1 q2 => h1 b (by omega)) rfl (fun _ _ => rfl), g, hx.mv (fun b hb => h1 b (by omega)) rfl (fun _ _ _ => rfl)⟩, hC.mv h2 h3 rfl rfl, hWr.mv (congrFun (h1 20 (by decide)).1 1) (h1 20 (by decide)).2 rfl rfl, (congrFun (h1 0 (by decide)).1 9).trans hL, s1.mv h2 h3, s20.mv (congrFun (h1 20 (by decide)).1 1) (h1 20 (by decide)).2⟩
  rcases hc with ⟨c1, c2, c3, c4⟩ | ⟨c1, c2, c3⟩ | ⟨c1, c2, c3, c4⟩
  · rcases hm with ⟨m1, m2, m3, m4⟩ | ⟨m1, -⟩
    · have ne : ∀ b, b ≠ 1 → S'.1 b = S.1 b ∧ S'.2 b = S.2 b := fun b hb => by rw [c4]; exact sPut_ne b hb
      have t1 : S' = pI (pA S 1 (S.1 1 1) a) 1 1 (S.1 1 1 + 1) := by rw [c4]; unfold sPut; rw [if_pos c2]
      have q1 : S'.1 1 1 = S.1 1 1 + 1 := by rw [t1]; rfl
      have q2 : ∀ p, S'.2 1 p = if p = S.1 1 1 then a else S.2 1 p := fun p => by rw [t1]; exact pA_if
      have q3 : ∀ j, j ≠ 0 → Sm'.1 54 j = Sm.1 54 j := fun j hj => by rw [m4]; exact if_neg (fun q => hj q.2)
      have q4 : ∀ b, b ≠ 55 → Sm'.2 b = Sm.2 b := fun b hb => by rw [m4]; exact (pA_ne b hb).2
      have q5 : Sm'.1 54 0 = Sm.1 54 0 + 1 := by rw [m4]; rfl
      have q6 : ∀ p, Sm'.2 55 p = if p = Sm.1 54 0 then a else Sm.2 55 p := fun p => by rw [m4]; exact pA_if
      refine ⟨m3.trans c3.symm, ⟨⟨e, hR.mv (fun b q1 q2 => ne b (by omega)) (q3 2 (by decide)) (fun b hb => q4 b (by omega)), g, hx.mv (fun b hb => ne b (by omega)) (q3 18 (by decide)) (fun b b0 b1 => q4 b (by omega))⟩, ⟨by omega, fun p p0 p1 => ?_⟩, hWr.mv (congrFun (ne 20 (by decide)).1 1) (ne 20 (by decide)).2 (q3 20 (by decide)) (q4 71 (by decide)), ?_, fun p p0 p1 => ?_, s20.mv (congrFun (ne 20 (by decide)).1 1) (ne 20 (by decide)).2⟩⟩
      · rw [q2, q6, e0]
        by_cases hp : p = S.1 1 1
        · rw [if_pos hp, if_pos hp]
        · rw [if_neg hp, if_neg hp]
          exact hC.2 p p0 (by omega)
      · rw [(ne 0 (by decide)).1, q3 19 (by decide)]
        exact hL
      · rw [q2]
        by_cases hp : p = S.1 1 1
        · rw [if_pos hp]
          exact c1
        · rw [if_neg hp]
          exact s1 p p0 (by omega)
    · exact absurd ⟨c1, by omega⟩ m1
  · rcases hm with ⟨m1, -⟩ | ⟨-, m2, m3⟩
    · exact absurd m1 c1
    · rw [m3, c3]
      exact ⟨m2.trans c2.symm, ⟨e, hR, g, hx⟩, hC, hWr, hL, s1, s20⟩
  · rcases hm with ⟨-, m1, -⟩ | ⟨-, m2, m3⟩
    · omega
    · rw [m3]
      have t1 : S' = pI S 1 2 1 := by rw [c4]; unfold sPut; rw [if_neg (by omega)]
      exact ⟨m2.trans c3.symm, same S' (fun b hb => by rw [c4]; exact sPut_ne b hb) (by rw [t1]; rfl) (by rw [t1]; rfl)⟩
theorem p_take (h : RR S Sm) (hn : iv 0 3000 (S.1 20 1)) : wX10_take S (fun x S' => wX11_take Sm (KK x S')) := by
  obtain ⟨⟨e, hR, g, hx⟩, hC, hWr, hL, s1, s20⟩ := h
  have e20 := hWr.1
  refine c_take hn (fun S' ne q1 q2 => n_take (by rw [e20]; exact hn) (fun Sm' q3 q4 q5 q6 => ?_))
  refine ⟨e20, ⟨⟨e, hR.mv (fun b q1 q2 => ne b (by omega)) (q3 2 (by decide)) (fun b hb => q4 b (by omega)), g, hx.mv (fun b hb => ne b (by omega)) (q3 18 (by decide)) (fun b b0 b1 => q4 b (by omega))⟩, ⟨by omega, fun p p0 p1 => ?_⟩, hWr.mv (congrFun (ne 20 (by decide)).1 1) (ne 20 (by decide)).2 (q3 20 (by decide)) (q4 71 (by decide)), ?_, fun p p0 p1 => ?_, s20.mv (congrFun (ne 20 (by decide)).1 1) (ne 20 (by decide)).2⟩⟩
  · rw [q1] at p1
    rw [q2 p p0 p1, q6 p p0 (by omega)]
    exact hWr.2 p p0 p1
  · rw [(ne 0 (by decide)).1, q3 19 (by decide)]
    exact hL
  · rw [q1] at p1
    rw [q2 p p0 p1]
    exact s20 p p0 p1
theorem p_sign (h : RR S Sm) (hn : iv 0 3000 (S.1 20 1)) : wX10_sign a S (fun x S' => wX11_sign a Sm (KK x S')) := by
  have hWr := h.2.2.1
  have e20 := hWr.1
  refine c_sign (fun x hc => n_sign (by rw [e20]; exact hn) (fun r hm => ⟨?_, h⟩))
  rcases hc with ⟨c1, c2, c3⟩ | ⟨c1, c2⟩
  · rcases hm with ⟨-, -, m3⟩ | ⟨m1, -⟩
    · rw [c3, m3]
      exact hWr.2 a c1 c2
    · omega
  · rcases hm with ⟨m1, m2, -⟩ | ⟨-, m2⟩
    · omega
    · omega
theorem p_forbid (h : RR S Sm) (hb : iv 0 1 b) (h32 : ∀ c, iv 0 1 (S.2 32 c)) : wX10_forbid a b S (fun x S' => wX11_forbid a b Sm (KK x S')) := by
  obtain ⟨⟨e, hR, gh, hx⟩, hC, hWr, hL, s1, s20⟩ := h
  refine c_forbid hR.1 hR.2.2.2.1 hb (fun c _ => h32 c) (fun x S' hc => n_forbid hR.2.1 hR.2.2.2.1 hb (fun r Sm' hm => ?_))
  rcases hc with ⟨c1, c2, c3⟩ | ⟨c1, c2, c3⟩
  · rcases hm with ⟨-, m2, m3⟩ | ⟨m1, -⟩
    · obtain ⟨a1, a2, a3, a4, a5, a6⟩ := hR
      have g : ∀ k, k ≠ 32 → S'.2 k = S.2 k := fun k hk => by rw [c3]; exact (pA_ne k hk).2
      have g1 : S'.1 = S.1 := by rw [c3]; rfl
      have m : ∀ k, k ≠ 61 → Sm'.2 k = Sm.2 k := fun k hk => by rw [m3]; exact (pA_ne k hk).2
      have m1 : Sm'.1 = Sm.1 := by rw [m3]; rfl
      refine ⟨m2.trans ((a6 a c1).2.symm.trans c2.symm), ⟨⟨e, ⟨a1.mv (by rw [g1]) (by rw [g1]) (g 43 (by decide)) (g 44 (by decide)) (g 45 (by decide)) (g 25 (by decide)) (g 26 (by decide)) (g 27 (by decide)) (g 28 (by decide)) (g 29 (by decide)) (g 30 (by decide)), a2.mv (by rw [m1]) (m 67 (by decide)) (m 68 (by decide)) (m 69 (by decide)) (m 70 (by decide)) (m 56 (by decide)) (m 57 (by decide)) (m 58 (by decide)) (m 59 (by decide)) (m 60 (by decide)), fun k hk => ?_, a4, a5, fun c hc => ?_⟩, gh, hx.mv (fun b hb => ⟨by rw [g1], g b (by omega)⟩) (by rw [m1]) (fun b b0 b1 => m b (by omega))⟩, hC.mv (by rw [g1]) (g 1 (by decide)) (by rw [m1]) (m 55 (by decide)), hWr.mv (by rw [g1]) (g 20 (by decide)) (by rw [m1]) (m 71 (by decide)), by rw [g1, m1]; exact hL, s1.mv (by rw [g1]) (g 1 (by decide)), s20.mv (by rw [g1]) (g 20 (by decide))⟩⟩
      · unfold nL
        rw [m 57 (by decide), m 58 (by decide)]
        exact a3 k hk
      · refine ⟨?_, ?_⟩
        · unfold RC
          rw [g 31 (by decide)]
          exact (a6 c hc).1
        · rw [c3, m3, pA_if, pA_if]
          by_cases q : c = a
          · rw [if_pos q, if_pos q]
          · rw [if_neg q, if_neg q]
            exact (a6 c hc).2
    · exact absurd c1 m1
  · rcases hm with ⟨m1, -⟩ | ⟨-, m2, m3⟩
    · exact absurd m1 c1
    · rw [m3, c3]
      exact ⟨m2.trans c2.symm, ⟨e, hR, gh, hx⟩, hC, hWr, hL, s1, s20⟩
end PR

