/-! THE RELATION: limit, write, classes, read and the calls that ask -/
def KN (S' : St) : Int → St → Prop := fun _ Sm' => RR S' Sm'
def mo (e : Env) (md : Int) : Env := (fun t p q r => if t = 7 then md else e.1 t p q r, e.2)
theorem mE.fh {S S' : St} {e : Env} (h : mE S e) (hV : EV e) (m1 : S'.1 54 2 = S.1 54 2) (m2 : ∀ b, 56 ≤ b → b ≤ 61 → S'.2 b = S.2 b) (k : FH S S') : mE S' e := by
  obtain ⟨a1, a2, a3, a4, a5, a6, a7, a8⟩ := h
  obtain ⟨k1, k2, k3, k4⟩ := k
  have h30 := hV.1
  refine ⟨k1.trans a1, fun o ho => ?_, fun o f ho hf => ?_, fun o f i ho hf hd i0 i1 => ?_, m1.trans a5, fun c hc => by rw [m2 56 (by decide) (by decide)]; exact a6 c hc, fun c f hf => ?_, fun k hk => ?_⟩
  · rw [k2 o (by have := ho.2; omega)]
    exact a2 o ho
  · have f4 := hV.2.2.2.1 _ hf.1
    have f3 := hf.2.2
    rw [k3 _ (by have := ho.2; omega)]
    exact a3 o f ho hf
  · have f4 := hV.2.2.2.1 _ hf.1
    have f3 := hf.2.2
    have l : eV e o f ≤ 20 := by
      obtain ⟨-, g2, -, g4⟩ := hV.2.2.2.2.2 o f ho hf
      rcases hd with w | w
      · exact (g2 w).1.2
      · have := (g4 w).1.2
        omega
    rw [k4 _ (by have := ho.2; omega)]
    exact a4 o f i ho hf hd i0 i1
  · rw [m2 59 (by decide) (by decide), m2 60 (by decide) (by decide)]
    exact a7 c f hf
  · rw [m2 57 (by decide) (by decide), m2 58 (by decide) (by decide)]
    exact a8 k hk
section PS
variable {S S' Sm : St} {a b x md : Int}
theorem p_limit (h : RR S Sm) (hc : (iv 1 20 a ∧ x = S.1 0 9 ∧ S' = pI S 0 9 a) ∨ (¬ iv 1 20 a ∧ x = -1 ∧ S' = S)) : wX11_limit a Sm (KK x S') := by
  unfold wX11_limit
  intro _
  refine n_in (fun r hr => ?_)
  rcases hr with ⟨rfl, h1⟩ | ⟨rfl, h1⟩
  · refine ⟨⟨by decide, by decide⟩, fun _ _ => ⟨h1, fun S6 e6 => ?_⟩, fun q => absurd (by decide) q⟩
    rcases hc with ⟨-, c2, c3⟩ | ⟨c1, -⟩
    · obtain ⟨⟨e, hR, g, hx⟩, hC, hWr, hL, s1, s20⟩ := h
      have ne : ∀ k, k ≠ 0 → S'.1 k = S.1 k ∧ S'.2 k = S.2 k := fun k hk => by rw [c3]; exact pI_ne k hk
      have q3 : ∀ j, j ≠ 19 → S6.1 54 j = Sm.1 54 j := fun j hj => by rw [e6]; exact if_neg (fun q => hj q.2)
      have q4 : S6.2 = Sm.2 := by rw [e6]; rfl
      have q5 : S6.1 54 19 = a := by rw [e6]; rfl
      have q6 : S'.1 0 9 = a := by rw [c3]; rfl
      exact ⟨by omega, ⟨e, hR.mv (fun b q1 q2 => ne b (by omega)) (q3 2 (by decide)) (fun _ _ => by rw [q4]), g, hx.mv (fun b hb => ne b (by omega)) (q3 18 (by decide)) (fun _ _ _ => by rw [q4])⟩, hC.mv (congrFun (ne 1 (by decide)).1 1) (ne 1 (by decide)).2 (q3 0 (by decide)) (by rw [q4]), hWr.mv (congrFun (ne 20 (by decide)).1 1) (ne 20 (by decide)).2 (q3 20 (by decide)) (by rw [q4]), by rw [q5, q6], s1.mv (congrFun (ne 1 (by decide)).1 1) (ne 1 (by decide)).2, s20.mv (congrFun (ne 20 (by decide)).1 1) (ne 20 (by decide)).2⟩
    · exact absurd h1 c1
  · refine ⟨⟨by decide, by decide⟩, fun q => absurd rfl q, fun _ => ?_⟩
    rcases hc with ⟨c1, -⟩ | ⟨-, c2, c3⟩
    · exact absurd c1 h1
    · rw [c3]
      exact ⟨c2.symm, h⟩
theorem p_write {e : Env} {g : Hs} {F : Wt} (hR : RE S Sm e) (hx : RX S Sm e g) (s1 : sNo S 1) (s20 : sNo S 20) (hC : CT S Sm) (hWr : WR S Sm) (hL : S.1 0 9 = Sm.1 54 19) (hm : iv 1 20 (S.1 0 9)) (hF : F = ElT (mo e md) (S.1 0 9).toNat a (-2) (eK (mo e md) a) sT0) (hc : CwO S S' (mo e md) a md F x) : wX11_write a md Sm (KK x S') := by
  obtain ⟨hne, hc⟩ := hc
  have ne : ∀ k, 24 ≤ k → k ≤ 45 → S'.1 k = S.1 k ∧ S'.2 k = S.2 k := fun k q1 q2 => hne k (by omega) (by omega) (by omega)
  have n1 := hne 1 (by decide) (by decide) (by decide)
  have n0 := hne 0 (by decide) (by decide) (by decide)
  have same : ∀ (Sm' : St), Mq Sm Sm' → WR S' Sm' → sNo S' 20 → RR S' Sm' := fun Sm' hq hw hn20 => by
    obtain ⟨q1, q2⟩ := hq
    refine ⟨⟨e, hR.mv ne (q1 54 2 (by decide)) (fun k hk => q2 k (by omega)), g, hx.mv (fun b hb => hne b (by omega) (by omega) (by omega)) (q1 54 18 (by decide)) (fun k k0 k1 => q2 k (by omega))⟩, hC.mv (congrFun n1.1 1) n1.2 (q1 54 0 (by decide)) (q2 55 (by decide)), hw, ?_, s1.mv (congrFun n1.1 1) n1.2, hn20⟩
    rw [n0.1, q1 54 19 (by decide)]
    exact hL
  rcases hc with ⟨c1, c2, c3, c4⟩ | ⟨ho, hmd, hc⟩
  · have stay : KK x S' (-1) Sm := ⟨c2.symm, same Sm ⟨fun _ _ _ => rfl, fun _ _ => rfl⟩ (hWr.mv (by rw [c3]) c4 rfl rfl) (s20.mv (by rw [c3]) c4)⟩
    unfold wX11_write
    intro _ _
    refine n_isO hR.2.1 (fun r hr => ?_)
    rcases hr with ⟨rfl, h1⟩ | ⟨rfl, h1⟩
    · refine ⟨⟨by decide, by decide⟩, fun q => absurd q (by decide), fun _ => n_in (fun r hr => ?_)⟩
      rcases hr with ⟨rfl, h2, h3⟩ | ⟨rfl, h2⟩
      · exact absurd ⟨h1, h2, h3⟩ c1
      · exact ⟨⟨by decide, by decide⟩, fun q => absurd rfl q, fun _ => stay⟩
    · exact ⟨⟨by decide, by decide⟩, fun _ => stay, fun q => absurd rfl q⟩
  · show wX11_write a (eO (mo e md)) Sm (KK x S')
    refine m_write (e := mo e md) (m := S.1 0 9) hR.2.1 hR.2.2.2.1 hR.2.2.1 hmd hm hL.symm ho hF (fun r Sm' hw => ?_)
    obtain ⟨hq, hw⟩ := hw
    rcases hc with ⟨c1, c2, c3, c4⟩ | ⟨c1, c5, c2, c3, c4⟩ | ⟨c1, c5, c2, c3⟩
    · rcases hw with ⟨w1, w2, w3, w4⟩ | ⟨w1, -⟩ | ⟨w1, -⟩
      · exact ⟨w2.trans c2.symm, same Sm' hq (hWr.mv (by rw [c3]) c4 w3 w4) (s20.mv (by rw [c3]) c4)⟩
      · exact absurd c1 w1
      · exact absurd c1 w1
    · rcases hw with ⟨w1, -⟩ | ⟨-, -, w2, w3, w4⟩ | ⟨-, w5, -⟩
      · exact absurd w1 c1
      · exact ⟨w2.trans c2.symm, same Sm' hq (hWr.mv (by rw [c3]) c4 w3 w4) (s20.mv (by rw [c3]) c4)⟩
      · omega
    · rcases hw with ⟨w1, -⟩ | ⟨-, w5, -⟩ | ⟨-, -, w2, w3, w4⟩
      · exact absurd w1 c1
      · omega
      · have l := c3.1
        rw [if_pos c5] at l
        refine ⟨w2.trans c2.symm, same Sm' hq ⟨w3.trans l.symm, fun p p0 p1 => ?_⟩ (fun p p0 p1 => ?_)⟩
        rotate_left
        · rw [l] at p1
          have g1 := c3.2.2 p.toNat (by omega) (by omega)
          rw [show ((p.toNat : Nat) : Int) = p by omega] at g1
          rw [g1]
          have hA := El_sn (e := mo e md) hR.2.2.2.1 hx.2.2.1.1 hx.2.2.1.2 (S.1 0 9).toNat a [] (eK (mo e md) a) 1 sW0 ho AS.nil
          rw [(root_same (e := mo e md) hR.2.2.2.1 hR.2.2.2.2.1 hmd ho _).1, ← hF] at hA
          exact hA _ (getD_mem (by omega))
        rw [l] at p1
        have g1 := c3.2.2 p.toNat (by omega) (by omega)
        have g2 := w4 p.toNat (by omega)
        rw [show ((p.toNat : Nat) : Int) = p by omega] at g1 g2
        rw [g1, g2]
/-- a right text of classes: their names are all other ones -/
theorem DN_of {e : Env} (hP : PV e) (hB : ¬ BadN e) : DN e := by
  have hb : ¬ Brk e := fun h => hB (Or.inl h)
  have hm : ¬ Mix e := fun h => hB (Or.inr h)
  refine ⟨fun c d hc hd he => ?_, fun c f g hf hg he => ?_, fun c g f d hg h3 h1 hf hd he => ?_, fun c f g hf hg f3 f1 g3 g1 => ?_⟩
  · by_cases q : c = d
    · exact q
    · exfalso
      rcases (show c < d ∨ d < c by omega) with w | w
      · exact hb (Or.inl ⟨d, hd, c, hc.1, w, he⟩)
      · exact hb (Or.inl ⟨c, hc, d, hd.1, w, he.symm⟩)
  · by_cases q : f = g
    · exact q
    · exfalso
      rcases (show f < g ∨ g < f by omega) with w | w
      · exact hb (Or.inr ⟨c, g, hg, Or.inr (Or.inr ⟨f, hf.2.1, w, he⟩)⟩)
      · exact hb (Or.inr ⟨c, f, hf, Or.inr (Or.inr ⟨g, hg.2.1, w, he.symm⟩)⟩)
  · have i := ((hP.2.1 c hg.1).2.2.2 g hg.2.1 hg.2.2).mpr ⟨h3, h1⟩
    have g0 := hg.2.1
    exact hm ⟨c, f, hf, by omega, d, hd, he.symm⟩
  · have i1 := ((hP.2.1 c hf.1).2.2.2 f hf.2.1 hf.2.2).mpr ⟨f3, f1⟩
    have i2 := ((hP.2.1 c hf.1).2.2.2 g hg.2.1 hg.2.2).mpr ⟨g3, g1⟩
    omega
theorem p_classes {T : Int → Int} {n : Int} (h : RR S Sm) (hX : TX T n) (hm : mTx Sm T n) (hc : ClD T n S S' x) : wX11_classes Sm (KK x S') := by
  obtain ⟨⟨e, hR, g, hx⟩, hC, hWr, hL, s1, s20⟩ := h
  have excl : ∀ w, QW T n w → QG T n → False := fun w q1 q2 => by
    rcases q1.2 with z | ⟨-, z | z⟩
    · have := q2.1
      omega
    · exact q2.2.1 z
    · exact q2.2.2 z
  refine m_classesK hX hm (fun w Sm' q1 q2 q3 q4 => ?_) (fun qg hPV Sm' q3 q4 q5 q6 q7 q8 => ?_)
  · rcases hc with ⟨w', c1, c2, c3, c4, c5⟩ | ⟨c1, -⟩
    · have ew : w' = w := c1.1.trans q1.1.symm
      obtain ⟨m1, m2⟩ := q3
      refine ⟨by omega, ⟨e, ?_, g, hx.mv (fun b hb => c5 b (by omega) (by omega) (by omega)) (m1 18 (by decide) (by decide) (by decide) (by decide)) (fun k k0 k1 => m2 k (by omega))⟩, ⟨q4.trans c4.symm, fun p p0 p1 => absurd p1 (by omega)⟩, hWr.mv (congrFun (c5 20 (by decide) (by decide) (by decide)).1 1) (c5 20 (by decide) (by decide) (by decide)).2 (m1 20 (by decide) (by decide) (by decide) (by decide)) (m2 71 (by decide)), ?_, fun p p0 p1 => absurd p1 (by omega), s20.mv (congrFun (c5 20 (by decide) (by decide) (by decide)).1 1) (c5 20 (by decide) (by decide) (by decide)).2⟩
      · obtain ⟨a1, a2, a3, a4, a5, a6⟩ := hR
        have g : ∀ k, (24 ≤ k ∧ k ≤ 32) ∨ (42 ≤ k ∧ k ≤ 45) → S'.1 k = S.1 k ∧ S'.2 k = S.2 k := fun k q => c5 k (by omega) (by omega) (by omega)
        refine ⟨a1.mv (congrFun (g 42 (by decide)).1 3) (congrFun (g 24 (by decide)).1 8) (g 43 (by decide)).2 (g 44 (by decide)).2 (g 45 (by decide)).2 (g 25 (by decide)).2 (g 26 (by decide)).2 (g 27 (by decide)).2 (g 28 (by decide)).2 (g 29 (by decide)).2 (g 30 (by decide)).2, a2.mv (m1 2 (by decide) (by decide) (by decide) (by decide)) (m2 67 (by decide)) (m2 68 (by decide)) (m2 69 (by decide)) (m2 70 (by decide)) (m2 56 (by decide)) (m2 57 (by decide)) (m2 58 (by decide)) (m2 59 (by decide)) (m2 60 (by decide)), fun k hk => ?_, a4, a5, fun c hc => ?_⟩
        · unfold nL
          rw [m2 57 (by decide), m2 58 (by decide)]
          exact a3 k hk
        · unfold RC
          rw [(g 31 (by decide)).2, (g 32 (by decide)).2, m2 61 (by decide)]
          exact a6 c hc
      · rw [(c5 0 (by decide) (by decide) (by decide)).1, m1 19 (by decide) (by decide) (by decide) (by decide)]
        exact hL
    · exact (excl w q1 c1).elim
  · rcases hc with ⟨w', c1, -⟩ | ⟨-, -, c2, c3, c4, c5, c6, c46, U, hP, c7, c8⟩
    · exact (excl w' c1 qg).elim
    · obtain ⟨er, her⟩ : ∃ er, er = (qC T 6 e0 0).1 := ⟨_, rfl⟩
      have hN : eN er = 0 := by rw [her, qC_N]; rfl
      have hBad : ¬ BadN er := by rw [her]; exact qg.2.2
      rw [← her] at hP hPV q6 q7 q8 c2 ⊢
      obtain ⟨u1, u2, u3, u4⟩ := hP
      have no : ∀ o, ¬ okO er o := fun o ho => by
        have h1 := ho.1
        have h2 := ho.2
        rw [hN] at h2
        omega
      have g : ∀ k, 25 ≤ k → k ≤ 32 → ∀ j, S'.2 k j = U.2 (k + 9) j := fun k k1 k2 j => congrFun (c8 k k1 k2) j
      have cE' : cE S' er := by
        refine ⟨c6.trans hN.symm, fun o ho => absurd ho (no o), fun o f ho => absurd ho (no o), fun o f i ho => absurd ho (no o), c7.trans u1, fun c hc => (g 29 (by decide) (by decide) c).trans (u2 c hc).1, fun c f hf => ⟨(g 27 (by decide) (by decide) _).trans (u3 c f hf).1, (g 28 (by decide) (by decide) _).trans (u3 c f hf).2, ?_⟩, fun k hk => ⟨?_, ?_⟩⟩
        · rw [g 30 (by decide) (by decide), (u2 c hf.1).2.1]
          exact (hPV.2.1 c hf.1).2.2.2 f hf.2.1 hf.2.2
        · rw [g 26 (by decide) (by decide)]
          exact (u4 k hk).1.1
        · rw [← (u4 k hk).2, g 26 (by decide) (by decide)]
          unfold cRow
          refine catF_eq _ _ (fun i i1 i2 => ?_)
          rw [g 25 (by decide) (by decide)]
      have hEV : EV er := by
        refine ⟨by rw [hN]; exact ⟨by decide, by decide⟩, hPV.1, fun o ho => absurd ho (no o), fun c hc => (hPV.2.1 c hc).1, fun c f hf => hPV.2.2.1 c f hf, fun o f ho => absurd ho (no o)⟩
      have e2 := q6.2.2.2.2.1
      have hPW : PWe er := by
        rw [her]
        exact qC_W 6 e0 0 PWe_0
      refine ⟨c2.symm, ⟨er, ⟨cE', q6, q7, hEV, DN_of hPV hBad, fun c hc => ⟨?_, ?_⟩⟩, (0, fun _ => 0, fun _ _ => 0, fun _ _ _ => 0), XE_of hPV hPW hBad, fun c hc => ?_, ⟨fun o f i ho => absurd ho (no o), hPW.sg⟩, ⟨⟨by decide, by decide⟩, fun o o0 o1 => absurd o1 (by show ¬ o < 0; omega), fun o f o0 o1 => absurd o1 (by show ¬ o < 0; omega)⟩, ⟨c46, fun o o0 o1 => absurd o1 (by show ¬ o < 0; omega), fun o f o0 o1 => absurd o1 (by show ¬ o < 0; omega), fun o f i o0 o1 => absurd o1 (by show ¬ o < 0; omega)⟩, ⟨q8.2.2, fun o o0 o1 => absurd o1 (by show ¬ o < 0; omega), fun o f o0 o1 => absurd o1 (by show ¬ o < 0; omega), fun o f i o0 o1 => absurd o1 (by show ¬ o < 0; omega)⟩, Or.inl ⟨q8.2.1, rfl⟩⟩, ⟨q4.trans c3.symm, fun p p0 p1 => absurd p1 (by omega)⟩, ⟨q5.trans c4.symm, fun p p0 p1 => absurd p1 (by omega)⟩, ?_, fun p p0 p1 => absurd p1 (by omega), fun p p0 p1 => absurd p1 (by omega)⟩
      · unfold RC
        rw [g 31 (by decide) (by decide)]
        exact (u2 c hc).2.2.2
      · rw [g 32 (by decide) (by decide), (u2 c hc).2.2.1, q8.1 c hc]
      · rw [g 30 (by decide) (by decide), (u2 c hc).2.1, imp_eI hPV hc]
      · rw [c5, q3.1 19 (by decide) (by decide) (by decide) (by decide) (by decide) (by decide) (by decide)]
        exact hL
end PS

