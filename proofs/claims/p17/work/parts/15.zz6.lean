/-! THE RELATION: the heap's calls -/
section PH
variable {S Sm S' Sm' : St} {a b x : Int} {e : Env}
/-- only the heaps differ -/
theorem RR.heap {N : Int} {K : Int → Int} {V : Int → Int → Int} {P : Int → Int → Int → Int} {g : Hs} (hR : RE S Sm e) (hx : RX S Sm e g) (hC : CT S Sm) (hWr : WR S Sm) (hL : S.1 0 9 = Sm.1 54 19) (s1 : sNo S 1) (s20 : sNo S 20) (qc : HC S S') (m1 : Sm'.1 = Sm.1) (m2 : ∀ k, k < 67 ∨ 70 < k → Sm'.2 k = Sm.2 k) (hc : cE S' (hp e N K V P)) (hm : mE Sm' (hp e N K V P)) (hv : EV (hp e N K V P)) (h67 : Sm'.2 67 1 = Sm.2 67 1) (h68 : ∀ i, 30 ≤ i → Sm'.2 68 i = Sm.2 68 i) (h69 : ∀ i, 120 ≤ i → Sm'.2 69 i = Sm.2 69 i) (h70 : ∀ i, 2400 ≤ i → Sm'.2 70 i = Sm.2 70 i) (hT : TT (hp e N K V P)) : RR S' Sm' := by
  refine ⟨⟨_, RE_hp hR qc ⟨by rw [m1], fun k _ q => m2 k (by omega)⟩ hc hm hv, g, hx.hq hR.2.2.2.1 (fun b hb => ⟨funext fun j => qc.1 b j (by omega), qc.2 b (by omega)⟩) (by rw [m1]) h67 h68 h69 h70 hT⟩, hC.mv (qc.1 1 1 (by decide)) (qc.2 1 (by decide)) (by rw [m1]) (m2 55 (by decide)), hWr.mv (qc.1 20 1 (by decide)) (qc.2 20 (by decide)) (by rw [m1]) (m2 71 (by decide)), ?_, s1.mv (qc.1 1 1 (by decide)) (qc.2 1 (by decide)), s20.mv (qc.1 20 1 (by decide)) (qc.2 20 (by decide))⟩
  rw [qc.1 0 9 (by decide), m1]
  exact hL
theorem p_make (h : RR S Sm) : wX10_make a S (fun x S' => wX11_make a Sm (KK x S')) := by
  have h0 := h
  obtain ⟨⟨e, hR, g, hx⟩, hC, hWr, hL, s1, s20⟩ := h
  obtain ⟨a1, a2, a3, a4, a5, a6⟩ := hR
  have a30 := a4.1
  refine c_make a1 a4 (fun c hc => (a6 c hc).1) (fun hn => n_make a2 a4 (fun _ => ⟨rfl, h0⟩) (fun q1 q2 => absurd ⟨q1, q2⟩ hn)) (fun hc hN T hT h42 => n_make a2 a4 (fun q => absurd ⟨hc, hN⟩ q) (fun _ _ Tm hM => ⟨rfl, ?_⟩))
  · obtain ⟨t1, t2, t3, t4⟩ := hT
    obtain ⟨m1, m2, m3, m4, m5⟩ := hM
    have hrc := (a6 a hc).1
    have c4 := a4.2.2.2.1 a hc
    have e59 : ∀ f, okF e a f → Sm.2 59 (4 * a + f) = eD e a f := fun f hf => (a2.2.2.2.2.2.2.1 a f hf).1
    refine RR.heap (N := eN e + 1) (K := fun o => if o = eN e then a else eK e o) (V := fun o f => if o = eN e then (if eD e a f = 2 then -2 else 0) else eV e o f) (P := eP e) ⟨a1, a2, a3, a4, a5, a6⟩ hx hC hWr hL s1 s20 t1 m1 (fun k q => m2 k (by omega)) ?_ ?_ ?_ (by rw [m3, if_neg (by decide)]) (fun i hi => by rw [m4, if_neg (by omega)]) (fun i hi => by rw [m5, if_neg (by omega)]) (fun i hi => by rw [m2 70 (by decide)]) (fun o f i ho hf hd i0 i1 => ?_)
    · refine cE_hp a1 t1 h42 (fun o o0 o1 => ?_) (fun o f o0 o1 f0 f1 hf => ?_) (fun o f i o0 o1 hf hd i0 i1 => ?_)
      · rw [t2]
        by_cases q : o = eN e
        · rw [if_pos q, if_pos q]
        · rw [if_neg q, if_neg q]
          exact a1.2.1 o ⟨o0, by omega⟩
      · rw [t3]
        by_cases q : o = eN e
        · rw [if_pos q] at hf ⊢
          rw [if_pos (by omega), show o * 4 + f - eN e * 4 = f by omega]
          have w := hrc.2 f f0 f1
          by_cases q2 : eD e a f = 2
          · rw [if_neg (w.mpr ⟨hf.2.2, q2⟩), if_pos q2]
          · rw [if_pos (Classical.not_not.mp (fun z => q2 (w.mp z).2)), if_neg q2]
        · rw [if_neg q] at hf ⊢
          rw [if_neg (by omega)]
          exact a1.2.2.1 o f ⟨o0, by omega⟩ f0 f1 hf
      · by_cases q : o = eN e
        · simp only [if_pos q] at hf hd i1
          rw [if_neg (by omega)] at i1
          omega
        · simp only [if_neg q] at hf hd i1
          rw [t4]
          exact a1.2.2.2.1 o f i ⟨o0, by omega⟩ hf hd i0 i1
    · refine mE_hp a2 ⟨by rw [m1], fun k _ q => m2 k (by omega)⟩ (by rw [m3, if_pos rfl]) (fun o o0 o1 => ?_) (fun o f o0 o1 hf => ?_) (fun o f i o0 o1 hf hd i0 i1 => ?_)
      · rw [m4]
        by_cases q : o = eN e
        · rw [if_pos q, if_pos q]
        · rw [if_neg q, if_neg q]
          exact a2.2.1 o ⟨o0, by omega⟩
      · rw [m5]
        by_cases q : o = eN e
        · rw [if_pos q] at hf ⊢
          have f4 := hf.2
          rw [if_pos (by omega), show 4 * o + f - 4 * eN e = f by omega, e59 f hf]
        · rw [if_neg q] at hf ⊢
          have f4 := hf.2
          have c5 := a4.2.2.2.1 _ hf.1
          rw [if_neg (by omega)]
          exact a2.2.2.1 o f ⟨o0, by omega⟩ hf
      · by_cases q : o = eN e
        · simp only [if_pos q] at hf hd i1
          rw [if_neg (by omega)] at i1
          omega
        · simp only [if_neg q] at hf hd i1
          rw [m2 70 (by decide)]
          exact a2.2.2.2.1 o f i ⟨o0, by omega⟩ hf hd i0 i1
    · refine EV_hp a4 ⟨by omega, by omega⟩ (fun o o0 o1 => ?_) (fun o f o0 o1 hf => ?_)
      · by_cases q : o = eN e
        · rw [if_pos q]
          exact hc
        · rw [if_neg q]
          exact a4.2.2.1 o ⟨o0, by omega⟩
      · by_cases q : o = eN e
        · simp only [if_pos q] at hf ⊢
          by_cases q2 : eD e a f = 2
          · simp only [if_pos q2]
            exact ⟨⟨by decide, by decide⟩, fun z => absurd z (by omega), fun _ => Or.inl (by first | rfl | trivial), fun z => absurd z (by omega)⟩
          · simp only [if_neg q2]
            exact ⟨⟨by decide, by decide⟩, fun _ => ⟨⟨by decide, by decide⟩, fun i i0 i1 => absurd i1 (by omega)⟩, fun z => absurd z q2, fun _ => ⟨⟨by decide, by decide⟩, fun i i0 i1 => absurd i1 (by omega)⟩⟩
        · simp only [if_neg q] at hf ⊢
          obtain ⟨g1, g2, g3, g4⟩ := a4.2.2.2.2.2 o f ⟨o0, by omega⟩ hf
          refine ⟨g1, g2, fun z => (g3 z).imp (fun w => w) (fun w => ⟨w.1, by have := w.2; omega⟩), fun z => ⟨(g4 z).1, fun i i0 i1 => ?_⟩⟩
          have w := (g4 z).2 i i0 i1
          exact ⟨w.1, by have := w.2; omega⟩
    · have ho1 : o < eN e + 1 := ho.2
      have hf : okF e (if o = eN e then a else eK e o) f := hf
      have hd : eD e (if o = eN e then a else eK e o) f = 1 := hd
      have i1 : i < (if o = eN e then (if eD e a f = 2 then -2 else 0) else eV e o f) := i1
      by_cases q : o = eN e
      · rw [if_pos q] at hd i1
        rw [if_neg (by omega)] at i1
        omega
      · rw [if_neg q] at hf hd i1
        exact hx.2.2.1.1 o f i ⟨ho.1, by omega⟩ hf hd i0 i1
/-- a field of an object gets another value -/
theorem RR.slot {n : Int} {p : Int → Int} (h0 : RR S Sm) (hR : RE S Sm e) {g : Hs} (hx : RX S Sm e g) (ho : okO e a) (hf : okF e (eK e a) b) (qc : HC S S') (c42 : S'.1 42 3 = S.1 42 3) (c43 : S'.2 43 = S.2 43) (c44 : ∀ y, S'.2 44 y = if y = a * 4 + b then n else S.2 44 y) (c45 : ∀ y, S'.2 45 y = S.2 45 y ∨ ((a * 4 + b) * 20 ≤ y ∧ y < (a * 4 + b) * 20 + 20)) (p45 : (eD e (eK e a) b = 1 ∨ eD e (eK e a) b = 3) → ∀ i, 0 ≤ i → i < n → S'.2 45 ((a * 4 + b) * 20 + i) = p i) (m1 : Sm'.1 = Sm.1) (m2 : ∀ k, k < 69 ∨ 70 < k → Sm'.2 k = Sm.2 k) (m69 : ∀ y, Sm'.2 69 y = if y = 4 * a + b then n else Sm.2 69 y) (m70 : ∀ y, (20 * (4 * a + b) ≤ y ∧ y < 20 * (4 * a + b) + 20) ∨ Sm'.2 70 y = Sm.2 70 y) (p70 : (eD e (eK e a) b = 1 ∨ eD e (eK e a) b = 3) → ∀ i, 0 ≤ i → i < n → Sm'.2 70 (20 * (4 * a + b) + i) = p i) (gn : rng n) (v1 : eD e (eK e a) b = 1 → iv 0 20 n ∧ ∀ i, 0 ≤ i → i < n → iv 0 65535 (p i) ∧ isSn (p i)) (v2 : eD e (eK e a) b = 2 → n = -2 ∨ okO e n) (v3 : eD e (eK e a) b = 3 → iv 0 8 n ∧ ∀ i, 0 ≤ i → i < n → okO e (p i)) : RR S' Sm' := by
  obtain ⟨-, hC, hWr, hL, s1, s20⟩ := h0
  have hRE := hR
  obtain ⟨a1, a2, a3, a4, a5, a6⟩ := hR
  have a30 := a4.1
  have fa := a4.2.2.2.1 _ hf.1
  have o1 := ho.1
  have o2 := ho.2
  have f1 := hf.2.1
  have f2 := hf.2.2
  have same : ∀ o f : Int, 0 ≤ f → f < 4 → o * 4 + f = a * 4 + b → o = a ∧ f = b := fun o f q1 q2 q3 => by omega
  have len : ∀ o f, okO e o → okF e (eK e o) f → (eD e (eK e o) f = 1 ∨ eD e (eK e o) f = 3) → eV e o f ≤ 20 := fun o f w1 w2 w3 => by
    obtain ⟨-, g2, -, g4⟩ := a4.2.2.2.2.2 o f w1 w2
    rcases w3 with w | w
    · exact (g2 w).1.2
    · have := (g4 w).1.2
      omega
  refine RR.heap (N := eN e) (K := eK e) (V := fun o f => if o = a ∧ f = b then n else eV e o f) (P := fun o f i => if o = a ∧ f = b then p i else eP e o f i) hRE hx hC hWr hL s1 s20 qc m1 (fun k q => m2 k (by omega)) ?_ ?_ ?_ (by rw [m2 67 (by decide)]) (fun i hi => by rw [m2 68 (by decide)]) (fun i hi => by rw [m69, if_neg (by omega)]) (fun i hi => (m70 i).resolve_left (by omega)) (fun o f i ho2 hf2 hd2 i0 i1 => ?_)
  · refine cE_hp a1 qc (c42.trans a1.1) (fun o o0 o1 => ?_) (fun o f o0 o1 f0 f1 hf => ?_) (fun o f i o0 o1 hf hd i0 i1 => ?_)
    · rw [c43]
      exact a1.2.1 o ⟨o0, o1⟩
    · rw [c44]
      by_cases q : o = a ∧ f = b
      · rw [if_pos q, if_pos (by rw [q.1, q.2])]
      · rw [if_neg q, if_neg (fun z => q (same o f f0 f1 z))]
        exact a1.2.2.1 o f ⟨o0, o1⟩ f0 f1 hf
    · have f0 := hf.2.1
      have f3 := hf.2.2
      have f4 := a4.2.2.2.1 _ hf.1
      by_cases q : o = a ∧ f = b
      · rw [if_pos q] at i1
        rw [if_pos q]
        obtain ⟨q1, q2⟩ := q
        rw [q1, q2] at hd ⊢
        exact p45 hd i i0 i1
      · rw [if_neg q] at i1
        rw [if_neg q]
        have l := len o f ⟨o0, o1⟩ hf hd
        have g := c45 ((o * 4 + f) * 20 + i)
        have ne : ¬ o * 4 + f = a * 4 + b := fun z => q (same o f f0 (by omega) z)
        rw [g.resolve_right (by omega)]
        exact a1.2.2.2.1 o f i ⟨o0, o1⟩ hf hd i0 i1
  · refine mE_hp a2 ⟨by rw [m1], fun k _ q => m2 k (by omega)⟩ ((congrFun (m2 67 (by decide)) 0).trans a2.1) (fun o o0 o1 => ?_) (fun o f o0 o1 hf => ?_) (fun o f i o0 o1 hf hd i0 i1 => ?_)
    · rw [m2 68 (by decide)]
      exact a2.2.1 o ⟨o0, o1⟩
    · have f0 := hf.2.1
      have f3 := hf.2.2
      have f4 := a4.2.2.2.1 _ hf.1
      rw [m69]
      by_cases q : o = a ∧ f = b
      · rw [if_pos q, if_pos (by rw [q.1, q.2])]
      · rw [if_neg q, if_neg (fun z => q (same o f f0 (by omega) (by omega)))]
        exact a2.2.2.1 o f ⟨o0, o1⟩ hf
    · have f0 := hf.2.1
      have f3 := hf.2.2
      have f4 := a4.2.2.2.1 _ hf.1
      by_cases q : o = a ∧ f = b
      · rw [if_pos q] at i1
        rw [if_pos q]
        obtain ⟨q1, q2⟩ := q
        rw [q1, q2] at hd ⊢
        exact p70 hd i i0 i1
      · rw [if_neg q] at i1
        rw [if_neg q]
        have l := len o f ⟨o0, o1⟩ hf hd
        have g := m70 (20 * (4 * o + f) + i)
        have ne : ¬ o * 4 + f = a * 4 + b := fun z => q (same o f f0 (by omega) z)
        rw [g.resolve_left (by omega)]
        exact a2.2.2.2.1 o f i ⟨o0, o1⟩ hf hd i0 i1
  · refine EV_hp a4 a4.1 (fun o o0 o1 => a4.2.2.1 o ⟨o0, o1⟩) (fun o f o0 o1 hf => ?_)
    by_cases q : o = a ∧ f = b
    · simp only [if_pos q]
      obtain ⟨q1, q2⟩ := q
      rw [q1, q2]
      exact ⟨gn, fun z => ⟨(v1 z).1, fun i i0 i1 => ((v1 z).2 i i0 i1).1⟩, v2, v3⟩
    · simp only [if_neg q]
      exact a4.2.2.2.2.2 o f ⟨o0, o1⟩ hf
  · have i1 : i < (if o = a ∧ f = b then n else eV e o f) := i1
    show isSn (if o = a ∧ f = b then p i else eP e o f i)
    by_cases q : o = a ∧ f = b
    · rw [if_pos q] at i1 ⊢
      have hd2 : eD e (eK e o) f = 1 := hd2
      rw [q.1, q.2] at hd2
      exact ((v1 hd2).2 i i0 i1).2
    · rw [if_neg q] at i1 ⊢
      exact hx.2.2.1.1 o f i ho2 hf2 hd2 i0 i1
theorem p_set (h : RR S Sm) (gx : rng x) : wX10_set a b x S (fun r S' => wX11_set a b x Sm (KK r S')) := by
  obtain ⟨e, hR, g, hx⟩ := h.1
  refine c_set hR.1 hR.2.2.2.1 (fun r S' hc => n_set hR.2.1 hR.2.2.2.1 (fun r2 Sm' hm => ?_))
  rcases hc with ⟨c1, c2, c3, c4, c5⟩ | ⟨c1, c4, c5⟩
  · rcases hm with ⟨-, -, -, m4, m5⟩ | ⟨m1, -⟩
    · have hk : HC S S' := by rw [c5]; exact ⟨fun _ _ _ => rfl, fun k q => (pA_ne k (by omega)).2⟩
      have key : ∀ T T2 : St, T = pA S 44 (a * 4 + b) x → T2 = pA Sm 69 (4 * a + b) x → RR T T2 := fun T T2 hT hT2 => by
        refine RR.slot (n := x) (p := fun _ => 0) h hR hx c1 c2 (by rw [← c5] at hT; rw [hT]; exact hk) (by rw [hT]; rfl) (by rw [hT]; exact (pA_ne 43 (by decide)).2) (fun y => by rw [hT]; exact pA_if) (fun y => Or.inl (by rw [hT, (pA_ne 45 (by decide)).2])) (fun z => absurd z (by omega)) (by rw [hT2]; rfl) (fun k q => by rw [hT2]; exact (pA_ne k (by omega)).2) (fun y => by rw [hT2]; exact pA_if) (fun y => Or.inr (by rw [hT2, (pA_ne 70 (by decide)).2])) (fun z => absurd z (by omega)) gx (fun z => absurd z (by omega)) (fun z => ?_) (fun z => absurd z (by omega))
        rcases c3 with w | ⟨-, w⟩
        · omega
        · exact w
      exact ⟨m4.trans c4.symm, key S' Sm' c5 m5⟩
    · exact absurd ⟨c1, c2, c3⟩ m1
  · rcases hm with ⟨m1, m2, m3, -⟩ | ⟨-, m4, m5⟩
    · exact absurd ⟨m1, m2, m3⟩ c1
    · rw [m5, c5]
      exact ⟨m4.trans c4.symm, h⟩
theorem p_add (h : RR S Sm) : wX10_add a b x S (fun r S' => wX11_add a b x Sm (KK r S')) := by
  obtain ⟨e, hR, g, hxx⟩ := h.1
  refine c_add hR.1 hR.2.2.2.1 (fun q => n_add hR.2.1 hR.2.2.2.1 (fun _ => ⟨rfl, h⟩) (fun q1 q2 q3 q4 q5 => absurd ⟨q1, q2, q3, q4, q5⟩ q)) (fun ho hf hd hx h8 => n_add hR.2.1 hR.2.2.2.1 (fun q => absurd ⟨ho, hf, hd, hx, h8⟩ q) (fun _ _ _ _ _ => ⟨rfl, ?_⟩))
  have g8 := (hR.2.2.2.1.2.2.2.2.2 a b ho hf).2.2.2 hd
  have hv8 := g8.1
  have c45 := hR.1.2.2.2.1 a b
  have m45 := hR.2.1.2.2.2.1 a b
  have key : ∀ T T2 : St, T = pA (pA S 44 (a * 4 + b) (eV e a b + 1)) 45 ((a * 4 + b) * 20 + eV e a b) x → T2 = pA (pA Sm 70 (20 * (4 * a + b) + eV e a b) x) 69 (4 * a + b) (eV e a b + 1) → RR T T2 := fun T T2 hT hT2 => by
    refine RR.slot (n := eV e a b + 1) (p := fun i => if i = eV e a b then x else eP e a b i) h hR hxx ho hf (by rw [hT]; exact ⟨fun _ _ _ => rfl, fun k q => ((pA_ne k (by omega)).2).trans (pA_ne k (by omega)).2⟩) (by rw [hT]; rfl) (by rw [hT, (pA_ne 43 (by decide)).2, (pA_ne 43 (by decide)).2]) (fun y => by rw [hT, (pA_ne 44 (by decide)).2]; exact pA_if) (fun y => ?_) (fun _ i i0 i1 => ?_) (by rw [hT2]; rfl) (fun k q => by rw [hT2, (pA_ne k (by omega)).2, (pA_ne k (by omega)).2]) (fun y => by rw [hT2, pA_if, (pA_ne 69 (by decide)).2]) (fun y => ?_) (fun _ i i0 i1 => ?_) ⟨by omega, by omega⟩ (fun z => absurd z (by omega)) (fun z => absurd z (by omega)) (fun _ => ⟨⟨by omega, by omega⟩, fun i i0 i1 => ?_⟩)
    · rw [hT, pA_if, (pA_ne 45 (by decide)).2]
      by_cases q : y = (a * 4 + b) * 20 + eV e a b
      · exact Or.inr (by omega)
      · rw [if_neg q]
        exact Or.inl rfl
    · rw [hT, pA_if, (pA_ne 45 (by decide)).2]
      by_cases q : i = eV e a b
      · rw [if_pos (by rw [q]), if_pos q]
      · rw [if_neg (by omega), if_neg q]
        exact c45 i ho hf (Or.inr hd) i0 (by omega)
    · rw [hT2, (pA_ne 70 (by decide)).2, pA_if]
      by_cases q : y = 20 * (4 * a + b) + eV e a b
      · exact Or.inl (by omega)
      · rw [if_neg q]
        exact Or.inr rfl
    · rw [hT2, (pA_ne 70 (by decide)).2, pA_if]
      by_cases q : i = eV e a b
      · rw [if_pos (by rw [q]), if_pos q]
      · rw [if_neg (by omega), if_neg q]
        exact m45 i ho hf (Or.inr hd) i0 (by omega)
    · show okO e (if i = eV e a b then x else eP e a b i)
      by_cases q : i = eV e a b
      · rw [if_pos q]
        exact hx
      · rw [if_neg q]
        exact g8.2 i i0 (by omega)
  exact key _ _ rfl rfl
theorem p_text (h : RR S Sm) (hn : iv 0 3000 (S.1 1 1)) (hs : ∀ p, 0 ≤ p → p < S.1 1 1 → iv 0 65535 (S.2 1 p)) : wX10_text a b S (fun r S' => wX11_text a b Sm (KK r S')) := by
  obtain ⟨e, hR, g, hxx⟩ := h.1
  have hC := h.2.1
  have e0 := hC.1
  have hft : FTx S ↔ FTm Sm := by
    unfold FTx FTm
    rw [e0]
    exact ⟨fun q => ⟨q.1, fun p p0 p1 => by rw [hC.2 p p0 p1]; exact q.2 p p0 p1⟩, fun q => ⟨q.1, fun p p0 p1 => by rw [← hC.2 p p0 p1]; exact q.2 p p0 p1⟩⟩
  refine c_text hR.1 hR.2.2.2.1 hn (fun q => n_text hR.2.1 hR.2.2.2.1 (by rw [e0]; exact hn) (fun _ => ⟨rfl, h⟩) (fun q1 q2 q3 q4 => absurd ⟨q1, q2, q3, hft.mpr q4⟩ q)) (fun ho hf hd hx T hT => n_text hR.2.1 hR.2.2.2.1 (by rw [e0]; exact hn) (fun q => absurd ⟨ho, hf, hd, hft.mp hx⟩ q) (fun _ _ _ _ Tm hM => ⟨rfl, ?_⟩))
  have h20 := hx.1
  obtain ⟨t1, t2, t3, t4, t5⟩ := hT
  obtain ⟨m1, m2, m3, m4⟩ := hM
  have key : RR T Tm := by
    refine RR.slot (n := S.1 1 1) (p := fun i => S.2 1 i) h hR hxx ho hf t1 t2 t3 t4 (fun y => ?_) (fun _ i i0 i1 => ?_) m1 m2 (fun y => by rw [m3, e0]) (fun y => ?_) (fun _ i i0 i1 => ?_) ⟨by omega, by omega⟩ (fun _ => ⟨⟨by omega, by omega⟩, fun i i0 i1 => ⟨hs i i0 i1, h.2.2.2.2.1 i i0 i1⟩⟩) (fun z => absurd z (by omega)) (fun z => absurd z (by omega))
    · rw [t5]
      by_cases q : (a * 4 + b) * 20 ≤ y ∧ y < (a * 4 + b) * 20 + S.1 1 1
      · exact Or.inr (by omega)
      · rw [if_neg q]
        exact Or.inl rfl
    · rw [t5, if_pos (by omega), show (a * 4 + b) * 20 + i - (a * 4 + b) * 20 = i by omega]
    · rw [m4]
      by_cases q : 20 * (4 * a + b) ≤ y ∧ y < 20 * (4 * a + b) + Sm.1 54 0
      · exact Or.inl (by omega)
      · rw [if_neg q]
        exact Or.inr rfl
    · rw [m4, if_pos (by omega), show 20 * (4 * a + b) + i - 20 * (4 * a + b) = i by omega]
      exact hC.2 i i0 i1
  obtain ⟨⟨e', k1, g', kx⟩, k2, k3, k4, k5, k6⟩ := key
  have ne : ∀ k, k ≠ 1 → (sClr T 1).1 k = T.1 k ∧ (sClr T 1).2 k = T.2 k := fun k hk => sClr_ne k hk
  have q3 : ∀ j, j ≠ 0 → (pI Tm 54 0 0).1 54 j = Tm.1 54 j := fun j hj => if_neg (fun q => hj q.2)
  have z0 : (sClr T 1).1 1 1 = 0 := rfl
  refine ⟨⟨e', k1.mv (fun b q1 q2 => ne b (by omega)) (q3 2 (by decide)) (fun _ _ => rfl), g', kx.mv (fun b hb => ne b (by omega)) (q3 18 (by decide)) (fun _ _ _ => rfl)⟩, ⟨rfl, fun p p0 p1 => ?_⟩, k3.mv (congrFun (ne 20 (by decide)).1 1) (ne 20 (by decide)).2 (q3 20 (by decide)) rfl, ?_, fun p p0 p1 => ?_, k6.mv (congrFun (ne 20 (by decide)).1 1) (ne 20 (by decide)).2⟩
  · rw [z0] at p1
    omega
  · rw [(ne 0 (by decide)).1, q3 19 (by decide)]
    exact k4
  · rw [z0] at p1
    omega
end PH

