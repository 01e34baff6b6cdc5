/-! WHAT ELEMENTS MEAN: the class: where references lead; all of it -/
section QZ
variable {S S' : St} {K : Int → St → Prop} {T W : Int → Int} {n x o f v u c r p a b d : Int} {X : Xs} {e : Env} {fb : Int → Int} {M M' : Mm}
theorem tgE_b (h : CM T n X S) (x0 : 0 ≤ x) (x1 : x < X.1.length) : -2 ≤ tgE T X M x ∧ tgE T X M x < X.1.length := by
  have l := h.len
  unfold tgE
  by_cases q : (gAt X (xAf X x)).2.2.1 < (gAt X (xAf X x)).2.2.2 ∧ isDg (sgV X (gAt X (xAf X x)).2.2.1)
  · rw [if_pos q]
    unfold wId
    by_cases w : idV (vlA X (xAf X x)) = 0
    · rw [if_pos w]
      omega
    · rw [if_neg w]
      have := fnd_or (P := fun k => decide (M.2 4 k = idV (vlA X (xAf X x)))) X.1.length 0
      omega
  · rw [if_neg q]
    exact wyE_b h x0 x1
theorem k_leads130 (hP : PMn T n X e fb M S) (hV : EV e) (hI : TI e M X.1.length) (x0 : 0 ≤ x) (x1 : x < X.1.length) (hr : M.2 0 x = 4) (hfr : frm X x) (hK : ∀ r S', OM T n X e fb S (ldE e T X M x) r S' → K r S') : wX3_leads_130 X.1.length x (tgE T X M x) S K := by
  have l := hP.1.len
  have h6 := hV.2.1
  have hH := hP.2.2.2.2.1
  have hN := hH.1
  have tb := tgE_b (M := M) hP.1 x0 x1
  obtain ⟨-, -, i4, -⟩ := hI x x0 x1
  obtain ⟨o0, o1, hf, h4⟩ := i4 hr
  have f4 := okF4 hV hf
  obtain ⟨t0, t1, t2, t3, -⟩ := hP.2.2.2.2.2.1 x x0 x1
  unfold ldE at hK
  rw [if_neg (fun w => w hfr)] at hK
  unfold wX3_leads_130
  refine ⟨⟨by omega, by omega⟩, fun z => ?_, fun z => ⟨⟨by omega, by omega⟩, fun z2 => ?_, fun z2 => ?_⟩⟩
  · rw [if_pos (Or.inl z)] at hK
    exact hK 0 S ⟨MF.rf, Or.inl ⟨rfl, rfl⟩⟩
  · rw [if_pos (Or.inr (Or.inl z2))] at hK
    exact hK 0 S ⟨MF.rf, Or.inl ⟨rfl, rfl⟩⟩
  · have y0 : 0 ≤ tgE T X M x := by omega
    have y1 : tgE T X M x < X.1.length := tb.2
    obtain ⟨u0, u1, -, -, -⟩ := hP.2.2.2.2.2.1 _ y0 y1
    rw [u0, t1, t2, t3]
    refine ⟨y0, y1, fun _ => ⟨fun z3 => ?_, fun z3 => ?_⟩⟩
    · rw [if_neg (fun w => by rcases w with w | w | w; exact z w; exact z2 w; exact w z3)] at hK
      obtain ⟨j1, -⟩ := hI _ y0 y1
      obtain ⟨p0, p1⟩ := j1 z3
      have hc := hH.2.1 _ p0 p1
      have hc0 := hc.1
      have hc1 := hc.2
      rw [u1]
      refine ⟨x0, x1, fun _ => ⟨fun z4 => ?_, fun z4 => ?_⟩⟩
      · rw [if_neg z4] at hK
        obtain ⟨k1, k2, k3⟩ := h4.resolve_left (fun w => z4 w.1)
        have h8 := ((hH.2.2 _ _ o0 o1 hf).2.2.2 k1).1
        have e52 := hP.2.2.2.1.2.2.1 _ _ o0 o1 hf
        refine ⟨x0, x1, fun _ => ⟨x0, x1, fun _ => ⟨x0, x1, fun _ => ⟨y0, y1, fun _ => b_putCell hP.2.2.2.1.1 hH ⟨o0, o1⟩ f4 k2 (by omega) (by rw [e52]; exact k3) ⟨by omega, by omega⟩ ?_⟩⟩⟩⟩
        have hP2 := hP.heap HF.p53 (cH_C (i := M.2 3 x) (x := M.2 1 (tgE T X M x)) hP.2.2.2.1 hV hH hf k2 (by omega)) (EH_C hH k1 (Or.inr ⟨p0, p1⟩))
        have m2 : MF S (pA S 53 ((M.2 1 x * 4 + M.2 2 x) * 20 + M.2 3 x) (M.2 1 (tgE T X M x))) := HF.p53.mf
        obtain ⟨-, v1, -, -, -⟩ := hP2.2.2.2.2.2.1 _ y0 y1
        have v1 : (pA S 53 ((M.2 1 x * 4 + M.2 2 x) * 20 + M.2 3 x) (M.2 1 (tgE T X M x))).2 232 (tgE T X M x) = M.2 1 (tgE T X M x) := v1
        rw [v1]
        refine ⟨y0, y1, fun _ => b_cls hP2.2.2.2.1 hP2.2.2.2.2.1 ⟨p0, p1⟩ (q_nameFrom hP2.1 x0 x1 (q_nameTo hP2.1 x0 x1 ?_))⟩
        obtain ⟨⟨e7, e8, -, -, -⟩, g1, g2, g3, -⟩ := cm_e hP2.1 x0 x1
        rw [e7, e8]
        have ec : (zC M.1 (M.2 1 x) (M.2 2 x) (M.2 3 x) (M.2 1 (tgE T X M x)), M.2).1.2.1 (M.2 1 (tgE T X M x)) = M.1.2.1 (M.2 1 (tgE T X M x)) := rfl
        rw [ec]
        refine ⟨⟨by omega, by omega⟩, ⟨by omega, by omega⟩, ⟨by omega, by omega⟩, q_spells hP2.1.1.1 hP2.1.1.2 hc0 (by omega) (by omega) (by omega) g3 (fun r hr => ?_)⟩
        have hrow : eL e (M.1.2.1 (M.2 1 (tgE T X M x))) = rwC _ (M.1.2.1 (M.2 1 (tgE T X M x))) := (hP2.2.1.2.2.2.2.2.2.2 _ (Or.inl hc)).2
        have hnm : sbT T ((gE X x).1 + 1) (gE X x).2.1 = nmE T X x := rfl
        rw [hnm, ← hrow] at hr
        rcases hr with ⟨rfl, hw⟩ | ⟨rfl, hw⟩
        · rw [if_pos hw] at hK
          exact ⟨⟨by decide, by decide⟩, hK 1 _ ⟨m2, Or.inr ⟨rfl, _, rfl, hP2⟩⟩⟩
        · rw [if_neg hw] at hK
          exact ⟨⟨by decide, by decide⟩, hK 0 _ ⟨m2, Or.inl ⟨rfl, rfl⟩⟩⟩
      · have z4 := Classical.not_not.mp z4
        rw [if_pos z4] at hK
        have k1 : eD e (M.1.2.1 (M.2 1 x)) (M.2 2 x) = 2 := by
          rcases h4 with w | w
          · exact w.2
          · omega
        refine ⟨x0, x1, fun _ => ⟨x0, x1, fun _ => ⟨y0, y1, fun _ => b_putHead hP.2.2.2.1 hH ⟨o0, o1⟩ f4 ⟨by omega, by omega⟩ (hK 1 _ ⟨HF.p52.mf, Or.inr ⟨rfl, _, rfl, ?_⟩⟩)⟩⟩⟩
        exact hP.heap HF.p52 (cH_V hP.2.2.2.1 hV hf (Or.inr k1)) (EH_V hH ⟨o0, o1⟩ (Or.inr ⟨k1, p0, p1⟩))
    · rw [if_pos (Or.inr (Or.inr z3))] at hK
      exact hK 0 S ⟨MF.rf, Or.inl ⟨rfl, rfl⟩⟩
theorem k_leads (hP : PMn T n X e fb M S) (hV : EV e) (hI : TI e M X.1.length) (x0 : 0 ≤ x) (x1 : x < X.1.length) (hr : M.2 0 x = 4) (hK : ∀ r S', OM T n X e fb S (ldE e T X M x) r S' → K r S') : wX3_leads X.1.length x S K := by
  have l := hP.1.len
  obtain ⟨⟨-, -, -, e11, e12⟩, -, -, -, -, -, g1, g2, g3⟩ := cm_e hP.1 x0 x1
  obtain ⟨kd1, kd2⟩ := cm_kid hP.1 x0 x1
  have v4 := hP.1.v4
  have bad : ¬ frm X x → K 0 S := fun w => hK 0 S ⟨MF.rf, Or.inl ⟨rfl, if_pos w⟩⟩
  unfold wX3_leads
  refine fun _ => q_attributeCount hP.1 x0 x1 ?_
  rw [e12]
  refine ⟨⟨by omega, by omega⟩, fun z => bad (fun w => z w.1), fun z => q_kidCount hP.1 x0 x1 ⟨⟨by omega, by omega⟩, fun z2 => bad (fun w => absurd ((kd2.mp z2).symm.trans w.2.1) (by decide)), fun z2 => q_textTo hP.1 x0 x1 (q_textFrom hP.1 x0 x1 ?_)⟩⟩
  have hk : ¬ xKd X x = true := fun q => z2 (kd2.mpr q)
  obtain ⟨y1, y2, y3, y4⟩ := k_txt hP.1 x0 x1 hk
  refine ⟨⟨by omega, by omega⟩, ⟨by omega, by omega⟩, fun z3 => q_firstAttribute hP.1 x0 x1 ?_, fun z3 => bad (fun w => ?_)⟩
  · have hfr : frm X x := by
      refine ⟨Classical.not_not.mp z, by simpa using hk, ?_⟩
      rw [← y4]
      exact sbT_nil z3
    have a0 : 0 ≤ xAf X x := g1
    have a1 : xAf X x < X.2.1.length := by
      have := hfr.1
      omega
    obtain ⟨⟨-, -, e18, e19⟩, -, -, -, k4, k5, k6⟩ := cm_a hP.1 a0 a1
    have fin := k_leads130 hP hV hI x0 x1 hr hfr hK
    have hvl : sbT (sgV X) (gAt X (xAf X x)).2.2.1 (gAt X (xAf X x)).2.2.2 = vlA X (xAf X x) := rfl
    rw [e11]
    refine ⟨⟨by omega, by omega⟩, q_valueFrom hP.1 a0 a1 (q_firstAttribute hP.1 x0 x1 ?_)⟩
    rw [e11]
    refine ⟨⟨by omega, by omega⟩, q_valueTo hP.1 a0 a1 ?_⟩
    rw [e18, e19]
    have byW : ¬ ((gAt X (xAf X x)).2.2.1 < (gAt X (xAf X x)).2.2.2 ∧ isDg (sgV X (gAt X (xAf X x)).2.2.1)) → wX3_leads_99 X.1.length x (gAt X (xAf X x)).2.2.1 (gAt X (xAf X x)).2.2.2 S K := fun w => by
      unfold tgE at fin
      rw [if_neg w] at fin
      unfold wX3_leads_99 wX3_leads_100
      exact ⟨⟨by decide, by decide⟩, fun _ => ⟨⟨by omega, by omega⟩, ⟨by omega, by omega⟩, ⟨by omega, by omega⟩, k_way hP.1 x0 x1 k4 k5 k6 fin⟩, fun w => absurd rfl w⟩
    refine ⟨⟨by omega, by omega⟩, ⟨by omega, by omega⟩, fun z4 => byW (fun w => by omega), fun z4 => q_at v4.1 v4.2 k4 ?_⟩
    have bb := tx_rng v4.1 k4
    refine ⟨⟨by omega, by omega⟩, k_isDg (fun r hr => ?_)⟩
    rcases hr with ⟨rfl, hd⟩ | ⟨rfl, hd⟩
    · refine ⟨⟨by decide, by decide⟩, fun w => absurd w (by decide), fun _ => ?_⟩
      unfold tgE at fin
      rw [if_pos ⟨by omega, hd⟩] at fin
      unfold wX3_leads_100
      refine ⟨⟨by decide, by decide⟩, fun w => absurd w (by decide), fun _ => ⟨⟨by omega, by omega⟩, ⟨by omega, by omega⟩, b_idAt v4.1 v4.2 k4 k5 k6 (fun hid => ?_)⟩⟩
      rw [hvl] at hid ⊢
      exact ⟨⟨by omega, by omega⟩, b_withId l.2.2.1 (fun y y0 y1 => (hP.2.2.2.2.2.1 y y0 y1).2.2.2.2) hid fin⟩
    · exact ⟨⟨by decide, by decide⟩, fun _ => byW (fun w => hd w.2), fun w => absurd rfl w⟩
  · have := w.2.2
    rw [← y4, sbT_cons (by omega)] at this
    cases this
/-- leading changes no row and no list's length -/
theorem ldE_ok (hI : TI e M X.1.length) (x0 : 0 ≤ x) (x1 : x < X.1.length) (hr : M.2 0 x = 4) (q : ldE e T X M x = some M') : M'.2 = M.2 ∧ TI e M' X.1.length := by
  unfold ldE at q
  by_cases c1 : ¬ frm X x
  · rw [if_pos c1] at q
    cases q
  · rw [if_neg c1] at q
    by_cases c2 : tgE T X M x < 0 ∨ x ≤ tgE T X M x ∨ ¬ M.2 0 (tgE T X M x) = 1
    · rw [if_pos c2] at q
      cases q
    · rw [if_neg c2] at q
      by_cases c3 : M.2 3 x = -1
      · rw [if_pos c3] at q
        injection q with q
        rw [← q]
        refine ⟨rfl, fun y y0 y1 => ?_⟩
        obtain ⟨-, -, -, h4⟩ := (hI x x0 x1).2.2.1 hr
        have k1 : eD e (M.1.2.1 (M.2 1 x)) (M.2 2 x) = 2 := by
          rcases h4 with w | w
          · exact w.2
          · omega
        have := (hI y y0 y1)
        refine ⟨this.1, this.2.1, fun w => ?_, this.2.2.2⟩
        obtain ⟨a1, a2, a3, a4⟩ := this.2.2.1 w
        refine ⟨a1, a2, a3, ?_⟩
        rcases a4 with a4 | ⟨b1, b2, b3⟩
        · exact Or.inl a4
        · refine Or.inr ⟨b1, b2, ?_⟩
          show M.2 3 y < if M.2 1 y = M.2 1 x ∧ M.2 2 y = M.2 2 x then _ else M.1.2.2.1 (M.2 1 y) (M.2 2 y)
          rw [if_neg (fun z => by rw [z.1, z.2] at b1; omega)]
          exact b3
      · rw [if_neg c3] at q
        by_cases c4 : eL e (M.1.2.1 (M.2 1 (tgE T X M x))) = nmE T X x
        · rw [if_pos c4] at q
          injection q with q
          rw [← q]
          exact ⟨rfl, hI⟩
        · rw [if_neg c4] at q
          cases q
theorem k_rn2 (hP : PMn T n X e fb M S) (hV : EV e) (hI : TI e M X.1.length) (hK0 : rn2 e T X X.1.length M 0 = none → ∀ (r : Int) S', MF S S' → 0 ≤ r → r < X.1.length → K r S') (hK : ∀ M' S', rn2 e T X X.1.length M 0 = some M' → MF S S' → PMn T n X e fb M' S' → K (-1) S') : wX3_firstWrong_44 X.1.length 0 S K := by
  have l := hP.1.len
  refine ⟨fun l1 S' => 0 ≤ l1 ∧ l1 ≤ X.1.length ∧ MF S S' ∧ ∃ M', PMn T n X e fb M' S' ∧ TI e M' X.1.length ∧ rn2 e T X ((X.1.length : Int) - l1).toNat M' l1 = rn2 e T X X.1.length M 0, fun l1 S' => ((X.1.length : Int) - l1).toNat, ⟨by decide, by omega, MF.rf, M, hP, hI, by rw [show ((X.1.length : Int) - 0).toNat = X.1.length by omega]⟩, ?_⟩
  rintro l1 S' ⟨h0, h1, hm, M1, p1, p2, p3⟩
  refine ⟨⟨by omega, by omega⟩, fun z => ?_, fun z => ?_⟩
  · rw [show ((X.1.length : Int) - l1).toNat = 0 by omega] at p3
    exact hK M1 S' p3.symm hm p1
  · have x1 : l1 < X.1.length := by omega
    obtain ⟨t0, -⟩ := p1.2.2.2.2.2.1 l1 h0 x1
    rw [show ((X.1.length : Int) - l1).toNat = ((X.1.length : Int) - (l1 + 1)).toNat + 1 by omega] at p3
    have p3 : (if M1.2 0 l1 = 4 then (match ldE e T X M1 l1 with | none => none | some M' => rn2 e T X ((X.1.length : Int) - (l1 + 1)).toNat M' (l1 + 1)) else rn2 e T X ((X.1.length : Int) - (l1 + 1)).toNat M1 (l1 + 1)) = rn2 e T X X.1.length M 0 := p3
    rw [t0]
    refine ⟨h0, x1, fun _ => ⟨fun w => ?_, fun w => ?_⟩⟩
    · rw [if_neg w] at p3
      unfold wX3_firstWrong_73
      refine ⟨⟨by omega, by omega, hm, M1, p1, p2, p3⟩, ?_⟩
      show ((X.1.length : Int) - (l1 + 1)).toNat < ((X.1.length : Int) - l1).toNat
      omega
    · have w := Classical.not_not.mp w
      rw [if_pos w] at p3
      refine k_leads p1 hV p2 h0 x1 w (fun r S3 hO => ?_)
      obtain ⟨m3, ⟨rfl, hn⟩ | ⟨rfl, M2, hs, hP2⟩⟩ := hO
      · rw [hn] at p3
        exact ⟨⟨by decide, by decide⟩, fun w => absurd rfl w, fun _ => hK0 p3.symm l1 S3 (hm.tr m3) h0 x1⟩
      · rw [hs] at p3
        refine ⟨⟨by decide, by decide⟩, fun _ => ?_, fun w => absurd (by decide) w⟩
        unfold wX3_firstWrong_73
        refine ⟨⟨by omega, by omega, hm.tr m3, M2, hP2, (ldE_ok p2 h0 x1 w hs).2, p3⟩, ?_⟩
        show ((X.1.length : Int) - (l1 + 1)).toNat < ((X.1.length : Int) - l1).toNat
        omega
/-- the class reads what elements mean -/
theorem k_mean (hC : CM T n X S) (hE : cE S e) (hV : EV e) (hF : SF S e fb) (h0 : ∀ x : Int, 0 ≤ x → x < X.1.length → S.2 231 x = 0 ∧ S.2 232 x = 0 ∧ S.2 233 x = 0 ∧ S.2 234 x = 0 ∧ S.2 235 x = 0) (h236 : ∀ o : Int, 0 ≤ o → o < 30 → S.2 236 o = 0) (hK : ∀ (r : Int) S', MF S S' → ((r = -1 ∧ ∃ M', mng e T X fb = some M' ∧ PMn T n X e fb M' S') ∨ (0 ≤ r ∧ r < X.1.length ∧ mng e T X fb = none)) → K r S') : wX3_firstWrong X.1.length S K := by
  unfold wX3_firstWrong
  intro S1 e1
  have m1 : MF S S1 := by
    rw [e1]
    exact ⟨fun a q => funext fun j => pI_j (fun z => q z.1), fun _ _ _ => rfl⟩
  have hP : PMn T n X e fb (m0 e) S1 := by
    refine ⟨hC.mf m1, hE.mf m1, hF.mf m1, ⟨by rw [e1]; exact pI_v, fun o o0 o1 => absurd o1 (by show ¬ o < 0; omega), fun o f o0 o1 => absurd o1 (by show ¬ o < 0; omega), fun o f i o0 o1 => absurd o1 (by show ¬ o < 0; omega)⟩, ⟨⟨by show (0 : Int) ≤ 0; decide, by show (0 : Int) ≤ 30; decide⟩, fun o o0 o1 => absurd o1 (by show ¬ o < 0; omega), fun o f o0 o1 => absurd o1 (by show ¬ o < 0; omega)⟩, fun x x0 x1 => ?_, fun o o0 o1 => ?_⟩
    · rw [e1]
      exact h0 x x0 x1
    · have z : S1.2 236 o = 0 := by
        rw [e1]
        exact h236 o o0 o1
      rw [z]
      refine ⟨⟨by decide, by decide⟩, fun f f0 f1 => ?_⟩
      have := bits0 ⟨f.toNat, by omega⟩
      have this : bnd (bsr 0 ((f.toNat : Nat) : Int)) 1 = 0 := this
      rw [show ((f.toNat : Nat) : Int) = f by omega] at this
      exact ⟨fun _ => by show ¬ (0 : Int) = 1; decide, fun _ => this⟩
  refine k_rn1 hP hV (fun y y0 y1 => by omega) (fun hn r S' m' r0 r1 => hK r S' (m1.tr m') (Or.inr ⟨r0, r1, ?_⟩)) (fun M2 S2 hs m2 hP2 hI2 => k_rn2 hP2 hV hI2 (fun hn r S' m' r0 r1 => hK r S' (m1.tr (m2.tr m')) (Or.inr ⟨r0, r1, ?_⟩)) (fun M3 S3 hs3 m3 hP3 => hK (-1) S3 (m1.tr (m2.tr m3)) (Or.inl ⟨rfl, M3, ?_, hP3⟩)))
  · unfold mng
    rw [hn]
  · unfold mng
    rw [hs]
    exact hn
  · unfold mng
    rw [hs]
    exact hs3
end QZ

