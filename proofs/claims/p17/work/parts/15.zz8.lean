/-! THE RELATION: reading, and what is asked -/
def RdC (e : Env) (T : Int → Int) (fb : Int → Int) (S S' : St) : Prop := (∀ b, (b = 0 ∨ b = 20 ∨ (24 ≤ b ∧ b ≤ 32) ∨ (42 ≤ b ∧ b ≤ 45)) → S'.1 b = S.1 b ∧ S'.2 b = S.2 b) ∧ ((eC e = 0 ∧ S'.1 1 = S.1 1 ∧ S'.2 1 = S.2 1 ∧ ∀ b, 46 ≤ b → b ≤ 49 → S'.1 b = S.1 b ∧ S'.2 b = S.2 b) ∨ (¬ eC e = 0 ∧ S'.1 1 1 = 0 ∧ (∀ s, pX T = some s → nBE T s.1) ∧ ((∃ X M', pX T = some X ∧ mng e T X fb = some M' ∧ cH6 S' e M'.1) ∨ ((∀ X, pX T = some X → mng e T X fb = none) ∧ ∀ b, 46 ≤ b → b ≤ 49 → S'.1 b = S.1 b ∧ S'.2 b = S.2 b))))
section PT
variable {S S' Sm : St} {a b f i x : Int} {e : Env} {g : Hs} {T : Int → Int} {n : Int}
theorem VLq_of (hV : EV e) (hH : EH e g) : VLq e g := by
  intro a b f a0 a1 b0 b1 hf hk
  have hf' : okF e (g.2.1 b) f := by rw [← hk]; exact hf
  obtain ⟨-, -, v2, v3⟩ := hV.2.2.2.2.2 a f ⟨a0, a1⟩ hf
  obtain ⟨-, -, w2, w3⟩ := hH.2.2 b f b0 b1 hf'
  rw [← hk] at w2 w3
  refine ⟨fun d => ⟨(v2 d).imp (fun z => z) (fun z => z), w2 d⟩, fun d hv i i0 i1 => ⟨Or.inr ((v3 d).2 i i0 i1), (w3 d).2 i i0 (by rw [← hv]; exact i1)⟩⟩
theorem mH1.lo {Sm' : St} (m : mH1 Sm e g) (hV : EV e) (hH : EH e g) (h67 : Sm'.2 67 1 = Sm.2 67 1) (h68 : ∀ i, i < 60 → Sm'.2 68 i = Sm.2 68 i) (h69 : ∀ i, i < 240 → Sm'.2 69 i = Sm.2 69 i) (h70 : ∀ i, i < 4800 → Sm'.2 70 i = Sm.2 70 i) : mH1 Sm' e g := by
  have g30 := hH.1.2
  obtain ⟨g1, g2, g3, g4⟩ := m
  refine ⟨h67.trans g1, fun o o0 o1 => (h68 _ (by omega)).trans (g2 o o0 o1), fun o f o0 o1 hf => ?_, fun o f i o0 o1 hf hd i0 i1 => ?_⟩
  · have f4 := okF4 hV hf
    exact (h69 _ (by omega)).trans (g3 o f o0 o1 hf)
  · have f4 := okF4 hV hf
    have c20 := hH.ew.c20 o0 o1 hf hd
    exact (h70 _ (by omega)).trans (g4 o f i o0 o1 hf hd i0 i1)
theorem p_read (hR : RE S Sm e) (hx : RX S Sm e g) (hC : CT S Sm) (hWr : WR S Sm) (hL : S.1 0 9 = Sm.1 54 19) (s1 : sNo S 1) (s20 : sNo S 20) (hX : TX T n) (hm : mTx Sm T n) (hs : TSn T n) (hc : RdC e T (Sm.2 61) S S') : wX11_read Sm (KN S') := by
  obtain ⟨c0, hc⟩ := hc
  obtain ⟨a1, a2, a3, a4, a5, a6⟩ := id hR
  obtain ⟨x1, x2, x3, x4, x5, x6, x7⟩ := id hx
  have e2 := a2.2.2.2.2.1
  have n0 := c0 0 (Or.inl rfl)
  have n20 := c0 20 (Or.inr (Or.inl rfl))
  have gc : ∀ k, (24 ≤ k ∧ k ≤ 32) ∨ (42 ≤ k ∧ k ≤ 45) → S'.2 k = S.2 k := fun k hk => (c0 k (Or.inr (Or.inr hk))).2
  rcases hc with ⟨c1, c2, c3, c4⟩ | ⟨c1, c2, c3, c4⟩
  · unfold wX11_read
    rw [e2, c1]
    refine fun _ => ⟨fun w => absurd rfl w, fun _ => ?_⟩
    refine ⟨⟨e, ⟨a1.mv (congrFun (c0 42 (by decide)).1 3) (congrFun (c0 24 (by decide)).1 8) (gc 43 (by decide)) (gc 44 (by decide)) (gc 45 (by decide)) (gc 25 (by decide)) (gc 26 (by decide)) (gc 27 (by decide)) (gc 28 (by decide)) (gc 29 (by decide)) (gc 30 (by decide)), a2, a3, a4, a5, fun c hc => ?_⟩, g, hx.mv (fun b hb => ?_) rfl (fun _ _ _ => rfl)⟩, hC.mv (by rw [c2]) c3 rfl rfl, hWr.mv (by rw [n20.1]) n20.2 rfl rfl, by rw [n0.1]; exact hL, s1.mv (by rw [c2]) c3, s20.mv (by rw [n20.1]) n20.2⟩
    · unfold RC
      rw [gc 31 (by decide), gc 32 (by decide)]
      exact a6 c hc
    · rcases hb with rfl | hb
      · exact c0 30 (by decide)
      · exact c4 b hb.1 hb.2
  · refine n_read hX hm hs a2 a4 x1 (fun _ _ => rfl) c3 c1 (fun r Sm' rf rd => ?_)
    obtain ⟨r0, r2, r19, r20, rA, r67, r68, r69, r70⟩ := rf
    have hRE : RE S' Sm' e := by
      refine ⟨a1.mv (congrFun (c0 42 (by decide)).1 3) (congrFun (c0 24 (by decide)).1 8) (gc 43 (by decide)) (gc 44 (by decide)) (gc 45 (by decide)) (gc 25 (by decide)) (gc 26 (by decide)) (gc 27 (by decide)) (gc 28 (by decide)) (gc 29 (by decide)) (gc 30 (by decide)), a2.fh a4 r2 (fun k k0 k1 => rA k (by omega)) ⟨r67, fun i hi => r68 i hi, fun i hi => r69 i hi, fun i hi => r70 i hi⟩, fun k hk => ?_, a4, a5, fun c hc => ?_⟩
      · unfold nL
        rw [rA 57 (by decide), rA 58 (by decide)]
        exact a3 k hk
      · unfold RC
        rw [gc 31 (by decide), gc 32 (by decide), rA 61 (by decide)]
        exact a6 c hc
    have fin : ∀ g', RX S' Sm' e g' → KN S' r Sm' := fun g' hg => ⟨⟨e, hRE, g', hg⟩, ⟨r0.trans c2.symm, fun p p0 p1 => absurd p1 (by omega)⟩, hWr.mv (by rw [n20.1]) n20.2 r20 (rA 71 (by decide)), by rw [n0.1, r19]; exact hL, fun p p0 p1 => absurd p1 (by omega), s20.mv (by rw [n20.1]) n20.2⟩
    have i30 : ∀ c, okC e c → S'.2 30 c = imp e c := fun c hc => by
      rw [gc 30 (by decide)]
      exact x2 c hc
    rcases c4 with ⟨X, M', d1, d2, d3⟩ | ⟨d1, d2⟩
    · rcases rd with ⟨X2, M2, b1, b2, b3, b4, b5, b6⟩ | ⟨b1, -⟩
      · rw [d1] at b1
        cases b1
        rw [d2] at b2
        cases b2
        exact fin M'.1 ⟨x1, i30, x3, b4, d3, b3, Or.inr ⟨by omega, b5⟩⟩
      · rw [b1 X d1] at d2
        cases d2
    · rcases rd with ⟨X2, M2, b1, b2, -⟩ | ⟨-, b2, b3, b4, b5, b6⟩
      · rw [d1 X2 b1] at b2
        cases b2
      · exact fin g ⟨x1, i30, x3, x4, x5.mv (congrFun (d2 46 (by decide) (by decide)).1 3) (d2 47 (by decide) (by decide)).2 (d2 48 (by decide) (by decide)).2 (d2 49 (by decide) (by decide)).2, x6.lo a4 x4 b3 b4 b5 b6, by rw [b2]; exact x7⟩
theorem p_same (h : RR S Sm) (hR : RE S Sm e) (hx : RX S Sm e g) (hc : (x = 1 ∧ okO e a ∧ 0 < g.1 ∧ smX true e g a = true) ∨ (x = 0 ∧ ¬ (okO e a ∧ 0 < g.1 ∧ smX true e g a = true))) : wX11_same a Sm (KK x S) := by
  obtain ⟨-, hC, hWr, hL, s1, s20⟩ := h
  obtain ⟨a1, a2, a3, a4, a5, a6⟩ := id hR
  obtain ⟨x1, x2, x3, x4, x5, x6, x7⟩ := id hx
  have hVL := VLq_of a4 x4
  have stay : ∀ Sm', LFm Sm Sm' → RR S Sm' := fun Sm' m => by
    have m2 : ∀ k, k ≤ 104 → Sm'.2 k = Sm.2 k := fun k hk => m.2 k (by omega) (by omega)
    refine ⟨⟨e, hR.mv (fun _ _ _ => ⟨rfl, rfl⟩) (m.1 54 2 (by decide)) (fun k hk => m2 k (by omega)), g, hx.mv (fun _ _ => ⟨rfl, rfl⟩) (m.1 54 18 (by decide)) (fun k _ k1 => m2 k (by omega))⟩, hC.mv rfl rfl (m.1 54 0 (by decide)) (m2 55 (by decide)), hWr.mv rfl rfl (m.1 54 20 (by decide)) (m2 71 (by decide)), by rw [m.1 54 19 (by decide)]; exact hL, s1, s20⟩
  rcases x7 with ⟨h18, hz⟩ | ⟨h18, hz⟩
  · unfold wX11_same
    refine fun _ _ => ⟨fun _ => ⟨?_, stay Sm LFm.rf⟩, fun w => absurd h18 w⟩
    rcases hc with ⟨-, -, w, -⟩ | ⟨w, -⟩
    · omega
    · exact w.symm
  · refine n_sameG a2 a4 x6 x4 hVL h18 hz (fun r Sm' m hr => ⟨?_, stay Sm' m⟩)
    rcases hr with ⟨r1, ho, hsm⟩ | ⟨r1, hn⟩
    · rw [← smX_eq a4 hVL ho hz] at hsm
      rcases hc with ⟨w, -⟩ | ⟨-, w⟩
      · omega
      · exact absurd ⟨ho, hz, hsm⟩ w
    · rcases hc with ⟨-, ho, -, hsm⟩ | ⟨w, -⟩
      · rw [smX_eq a4 hVL ho hz] at hsm
        exact absurd ⟨ho, hsm⟩ hn
      · omega
def kdX (e : Env) (g : Hs) (a b : Int) : Int := if a = 0 then kdH (hsE e) b else if a = 1 then kdH g b else -1
def vlX (e : Env) (g : Hs) (a b f i : Int) : Int := if a = 0 then vlH e (hsE e) b f i else if a = 1 then vlH e g b f i else 0
theorem p_kind (h : RR S Sm) (hR : RE S Sm e) (hx : RX S Sm e g) (hc : x = kdX e g a b) : wX11_kind a b Sm (KK x S) := by
  obtain ⟨a1, a2, a3, a4, a5, a6⟩ := id hR
  obtain ⟨x1, x2, x3, x4, x5, x6, x7⟩ := id hx
  unfold kdX at hc
  by_cases c1 : a = 0
  · rw [if_pos c1] at hc
    rw [c1]
    exact n_kdK (mHk0 a2) (ewE a4) ⟨by decide, by decide⟩ ⟨hc.symm, h⟩
  · rw [if_neg c1] at hc
    by_cases c2 : a = 1
    · rw [if_pos c2] at hc
      rw [c2]
      exact n_kdK (mHk1 x6) x4.ew ⟨by decide, by decide⟩ ⟨hc.symm, h⟩
    · rw [if_neg c2] at hc
      exact n_kdN (fun w => by have := w.1; have := w.2; omega) ⟨hc.symm, h⟩
theorem p_value (h : RR S Sm) (hR : RE S Sm e) (hx : RX S Sm e g) (hc : x = vlX e g a b f i) : wX11_value a b f i Sm (KK x S) := by
  obtain ⟨a1, a2, a3, a4, a5, a6⟩ := id hR
  obtain ⟨x1, x2, x3, x4, x5, x6, x7⟩ := id hx
  unfold vlX at hc
  by_cases c1 : a = 0
  · rw [if_pos c1] at hc
    rw [c1]
    exact n_vlK (mHk0 a2) a2 a4 (ewE a4) ⟨by decide, by decide⟩ ⟨hc.symm, h⟩
  · rw [if_neg c1] at hc
    by_cases c2 : a = 1
    · rw [if_pos c2] at hc
      rw [c2]
      exact n_vlK (mHk1 x6) a2 a4 x4.ew ⟨by decide, by decide⟩ ⟨hc.symm, h⟩
    · rw [if_neg c2] at hc
      exact n_vlN (fun w => by have := w.1; have := w.2; omega) ⟨hc.symm, h⟩
theorem fbN_eq {w u : Int → Int} : ∀ k : Nat, (∀ c : Int, 0 ≤ c → c < k → w c = u c) → fbN w k = fbN u k
  | 0, _ => rfl
  | k + 1, h => by
    unfold fbN
    rw [fbN_eq k (fun c c0 c1 => h c c0 (by omega)), h k (by omega) (by omega)]
theorem p_count (h : RR S Sm) : wX11_count a Sm (KK (ctC S a) S) := by
  obtain ⟨⟨e, hR, g, hx⟩, hC, hWr, hL, s1, s20⟩ := id h
  obtain ⟨a1, a2, a3, a4, a5, a6⟩ := id hR
  obtain ⟨x1, x2, x3, x4, x5, x6, x7⟩ := id hx
  have e24 := a1.2.2.2.2.1
  have e54 := a2.2.2.2.2.1
  have hc6 := a4.2.1
  have hc60 := hc6.1
  refine n_cnt (by rw [e54]; exact hc6) ⟨?_, h⟩
  unfold ctM ctC
  rw [e54, e24, a2.1, a1.1, x6.1, x5.1, hWr.1, hC.1, fbN_eq (w := Sm.2 61) (u := S.2 32) (eC e).toNat (fun c c0 c1 => (a6 c ⟨c0, by omega⟩).2.symm)]
end PT

