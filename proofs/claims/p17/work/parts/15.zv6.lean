/-! WHAT ELEMENTS MEAN: what a step keeps; the class's first round -/
/-- objects are added, lists grow, the rows of the other elements stay -/
def MO (e : Env) (x : Int) (M M' : Mm) : Prop := M.1.1 ≤ M'.1.1 ∧ (∀ o, 0 ≤ o → o < M.1.1 → M'.1.2.1 o = M.1.2.1 o) ∧ (∀ o f, 0 ≤ o → o < M.1.1 → okF e (M.1.2.1 o) f → eD e (M.1.2.1 o) f = 3 → M.1.2.2.1 o f ≤ M'.1.2.2.1 o f) ∧ ∀ t y, t ≤ 3 → ¬ y = x → M'.2 t y = M.2 t y
section QM
variable {S S' : St} {K : Int → St → Prop} {T : Int → Int} {n x y o f v c r p a b : Int} {X : Xs} {e : Env} {fb : Int → Int} {M M' M2 : Mm} {h h' : Hs} {L : List Int}
theorem MO.rf : MO e x M M := ⟨Int.le_refl _, fun _ _ _ => rfl, fun _ _ _ _ _ _ => Int.le_refl _, fun _ _ _ _ => rfl⟩
theorem MO.tr (h : MO e x M M') (g : MO e x M' M2) : MO e x M M2 := by
  refine ⟨Int.le_trans h.1 g.1, fun o o0 o1 => ?_, fun o f o0 o1 hf hd => ?_, fun t y t3 hy => (g.2.2.2 t y t3 hy).trans (h.2.2.2 t y t3 hy)⟩
  · rw [g.2.1 o o0 (Int.lt_of_lt_of_le o1 h.1), h.2.1 o o0 o1]
  · have ek := h.2.1 o o0 o1
    exact Int.le_trans (h.2.2.1 o f o0 o1 hf hd) (g.2.2.1 o f o0 (Int.lt_of_lt_of_le o1 h.1) (by rw [ek]; exact hf) (by rw [ek]; exact hd))
theorem MO.ak (h : AK e M M') : MO e x M M' := by
  obtain ⟨h1, h2, h3, h4⟩ := h
  refine ⟨by rw [h1]; exact Int.le_refl _, fun o _ _ => by rw [h2], fun o f _ _ _ hd => ?_, fun t y t3 _ => by rw [h4 t (by omega)]⟩
  rw [h3 o f (by omega)]
  exact Int.le_refl _
theorem MO.tk : MO e x M (tkR M x r o f p) := ⟨Int.le_refl _, fun _ _ _ => rfl, fun _ _ _ _ _ _ => Int.le_refl _, fun _ _ _ q => tkR_ne (Or.inr q)⟩
theorem MO.s5 : MO e x M (zS M 5 y v) := ⟨Int.le_refl _, fun _ _ _ => rfl, fun _ _ _ _ _ _ => Int.le_refl _, fun t w t3 _ => if_neg (fun z => by omega)⟩
theorem MO.s0 : MO e x M (zS M 0 x v) := ⟨Int.le_refl _, fun _ _ _ => rfl, fun _ _ _ _ _ _ => Int.le_refl _, fun t w t3 hw => if_neg (fun z => hw z.2)⟩
theorem MO.zb : MO e x M (zB e M.1 c, M.2) := by
  refine ⟨by show M.1.1 ≤ M.1.1 + 1; omega, fun o _ o1 => if_neg (by omega), fun o f _ o1 _ _ => ?_, fun _ _ _ _ => rfl⟩
  show M.1.2.2.1 o f ≤ if o = M.1.1 then _ else M.1.2.2.1 o f
  rw [if_neg (by omega)]
  exact Int.le_refl _
theorem MO.zc {i : Int} : MO e x M (zC M.1 o f i v, M.2) := ⟨Int.le_refl _, fun _ _ _ => rfl, fun _ _ _ _ _ _ => Int.le_refl _, fun _ _ _ _ => rfl⟩
theorem MO.za : MO e x M (zA M.1 o f v, M.2) := by
  refine ⟨Int.le_refl _, fun _ _ _ => rfl, fun o' f' _ _ _ _ => ?_, fun _ _ _ _ => rfl⟩
  show M.1.2.2.1 o' f' ≤ if o' = o ∧ f' = f then M.1.2.2.1 o f + 1 else M.1.2.2.1 o' f'
  by_cases q : o' = o ∧ f' = f
  · rw [if_pos q, q.1, q.2]
    omega
  · rw [if_neg q]
    exact Int.le_refl _
theorem MO.zv (hk : eD e (M.1.2.1 o) f = 2) : MO e x M (zV M.1 o f v, M.2) := by
  refine ⟨Int.le_refl _, fun _ _ _ => rfl, fun o' f' _ _ _ hd => ?_, fun _ _ _ _ => rfl⟩
  show M.1.2.2.1 o' f' ≤ if o' = o ∧ f' = f then v else M.1.2.2.1 o' f'
  rw [if_neg (fun q => by rw [q.1, q.2] at hd; omega)]
  exact Int.le_refl _
theorem RW.mo (h : RW e M y) (g : MO e x M M') (hy : ¬ y = x) : RW e M' y := by
  obtain ⟨h1, h2, h4, h3⟩ := h
  obtain ⟨g1, g2, g3, g4⟩ := g
  unfold RW
  rw [g4 0 y (by decide) hy, g4 1 y (by decide) hy, g4 2 y (by decide) hy, g4 3 y (by decide) hy]
  refine ⟨fun q => ?_, fun q => ?_, fun q => ?_, fun q => ?_⟩
  · have := h1 q
    exact ⟨this.1, by omega⟩
  · obtain ⟨a1, a2, a3, a4⟩ := h2 q
    rw [g2 _ a1 a2]
    exact ⟨a1, by omega, a3, a4⟩
  · obtain ⟨a1, a2, a3, a4⟩ := h4 q
    rw [g2 _ a1 a2]
    refine ⟨a1, by omega, a3, ?_⟩
    rcases a4 with w | ⟨w1, w2, w3⟩
    · exact Or.inl w
    · have := g3 _ _ a1 a2 a3 w1
      exact Or.inr ⟨w1, w2, by omega⟩
  · obtain ⟨a1, a2, a3, a4⟩ := h3 q
    rw [g2 _ a1 a2]
    exact ⟨a1, by omega, a3, a4⟩
theorem RW.ak (h : RW e M y) (g : AK e M M') : RW e M' y := by
  obtain ⟨g1, g2, g3, g4⟩ := g
  unfold RW at h ⊢
  rw [g4 0 (by decide), g4 1 (by decide), g4 2 (by decide), g4 3 (by decide), g1, g2]
  refine ⟨h.1, h.2.1, fun q => ?_, h.2.2.2⟩
  obtain ⟨a1, a2, a3, a4⟩ := h.2.2.1 q
  refine ⟨a1, a2, a3, ?_⟩
  rcases a4 with w | ⟨w1, w2, w3⟩
  · exact Or.inl w
  · rw [g3 _ _ (by omega)]
    exact Or.inr ⟨w1, w2, w3⟩
theorem RW.tk (h1 : r = 1 → 0 ≤ o ∧ o < M.1.1) (h2 : r = 2 → 0 ≤ o ∧ o < M.1.1 ∧ okF e (M.1.2.1 o) f ∧ eD e (M.1.2.1 o) f = 3) (h4 : r = 4 → 0 ≤ o ∧ o < M.1.1 ∧ okF e (M.1.2.1 o) f ∧ ((p = -1 ∧ eD e (M.1.2.1 o) f = 2) ∨ (eD e (M.1.2.1 o) f = 3 ∧ 0 ≤ p ∧ p < M.1.2.2.1 o f))) (h3 : r = 3 → 0 ≤ o ∧ o < M.1.1 ∧ okF e (M.1.2.1 o) f ∧ eD e (M.1.2.1 o) f ≤ 1) : RW e (tkR M x r o f p) x := by
  obtain ⟨t0, t1, t2, t3⟩ := tkR_at (M := M) (x := x) (r := r) (o := o) (f := f) (p := p)
  unfold RW
  rw [t0, t1, t2, t3]
  exact ⟨h1, h2, h4, h3⟩
theorem bgM_ok (hN : 0 ≤ M.1.1) (q : bgM e M x c f = some M') : MO e x M M' ∧ RW e M' x ∧ M'.2 0 x = 1 ∧ M'.1 = zB e M.1 c ∧ M.1.1 < 30 ∧ ¬ c = -1 := by
  by_cases w : c = -1 ∨ ¬ M.1.1 < 30
  · rw [bgM_none w] at q
    cases q
  · rw [bgM_some w] at q
    injection q with q
    rw [← q]
    refine ⟨MO.zb.tr MO.tk, RW.tk (fun _ => ⟨hN, ?_⟩) (fun z => absurd z (by decide)) (fun z => absurd z (by decide)) (fun z => absurd z (by decide)), tkR_at.1, rfl, Int.lt_of_not_ge (fun z => w (Or.inr (by omega))), fun z => w (Or.inl z)⟩
    show M.1.1 < M.1.1 + 1
    omega
theorem RW.one (h : M.2 0 x = 1) (ho : 0 ≤ M.2 1 x ∧ M.2 1 x < M.1.1) : RW e M x := ⟨fun _ => ho, fun z => absurd (h.symm.trans z) (by decide), fun z => absurd (h.symm.trans z) (by decide), fun z => absurd (h.symm.trans z) (by decide)⟩
theorem inL_ok (hN : 0 ≤ M.1.1) (ho : 0 ≤ o ∧ o < M.1.1) (hf : okF e (M.1.2.1 o) f) (hk : eD e (M.1.2.1 o) f = 3) (hv : 0 ≤ M.1.2.2.1 o f) (q : inL e T X fb M x o f = some M') : MO e x M M' ∧ RW e M' x := by
  unfold inL at q
  by_cases c1 : clN e fb (nmE T X x) = -1 ∨ ¬ M.1.2.2.1 o f < 8
  · rw [if_pos c1] at q
    cases q
  · rw [if_neg c1] at q
    by_cases c2 : atN T X x ywR = -1
    · rw [if_pos c2] at q
      cases hb : bgM e (zA M.1 o f (-2), M.2) x (clN e fb (nmE T X x)) (-1) with
      | none =>
        rw [hb] at q
        cases q
      | some M1 =>
        rw [hb] at q
        injection q with q
        obtain ⟨b1, b2, b3, b4, -, -⟩ := bgM_ok (M := (zA M.1 o f (-2), M.2)) hN hb
        rw [← q]
        exact ⟨MO.za.tr (b1.tr MO.zc), RW.one b3 (b2.1 b3)⟩
    · rw [if_neg c2] at q
      injection q with q
      rw [← q]
      refine ⟨MO.za.tr MO.tk, RW.tk (fun z => absurd z (by decide)) (fun z => absurd z (by decide)) (fun _ => ⟨ho.1, ho.2, hf, Or.inr ⟨hk, hv, ?_⟩⟩) (fun z => absurd z (by decide))⟩
      show M.1.2.2.1 o f < if o = o ∧ f = f then M.1.2.2.1 o f + 1 else _
      rw [if_pos ⟨rfl, rfl⟩]
      omega
theorem inT_ok (hN : 0 ≤ M.1.1) (ho : 0 ≤ o ∧ o < M.1.1) (hf : okF e (M.1.2.1 o) f) (hk : eD e (M.1.2.1 o) f = 2) (q : inT e T X fb M x o f = some M') : MO e x M M' ∧ RW e M' x := by
  unfold inT at q
  by_cases c1 : ¬ atN T X x ywR = -1
  · rw [if_pos c1] at q
    injection q with q
    rw [← q]
    exact ⟨MO.tk, RW.tk (fun z => absurd z (by decide)) (fun z => absurd z (by decide)) (fun _ => ⟨ho.1, ho.2, hf, Or.inl ⟨rfl, hk⟩⟩) (fun z => absurd z (by decide))⟩
  · rw [if_neg c1] at q
    by_cases c2 : atN T X x ywC = -1
    · rw [if_pos c2] at q
      cases q
    · rw [if_neg c2] at q
      cases hb : bgM e M x (clN e fb (vlA X (atN T X x ywC))) f with
      | none =>
        rw [hb] at q
        cases q
      | some M1 =>
        rw [hb] at q
        injection q with q
        obtain ⟨b1, b2, b3, b4, -, -⟩ := bgM_ok hN hb
        rw [← q]
        have ek := b1.2.1 o ho.1 ho.2
        exact ⟨b1.tr (MO.zv (by rw [ek]; exact hk)), RW.one b3 (b2.1 b3)⟩
theorem inO_ok (hV : EV e) (hH : EH e M.1) (ho : 0 ≤ o ∧ o < M.1.1) (q : inO e T X fb M x o = some M') : MO e x M M' ∧ RW e M' x := by
  have hN := hH.1.1
  have hc := hH.2.1 o ho.1 ho.2
  unfold inO at q
  by_cases c1 : fdN e 0 (M.1.2.1 o) (nmE T X x) = -1
  · rw [if_pos c1] at q
    by_cases c2 : imp e (M.1.2.1 o) = -1
    · rw [if_pos c2] at q
      cases q
    · rw [if_neg c2] at q
      obtain ⟨i1, i2, -⟩ := (imp_ok hV hc).resolve_left c2
      exact inL_ok hN ho i1 i2 ((hH.2.2 o _ ho.1 ho.2 i1).2.2.2 i2).1.1 q
  · rw [if_neg c1] at q
    by_cases c2 : fdN e 0 (M.1.2.1 o) (nmE T X x) = imp e (M.1.2.1 o) ∨ M.2 5 (o * 4 + fdN e 0 (M.1.2.1 o) (nmE T X x)) = 1
    · rw [if_pos c2] at q
      cases q
    · rw [if_neg c2] at q
      have hf := ((fdN_ok (a := 0) hV hc (L := nmE T X x)).resolve_left c1).1
      have hD := (hV.2.2.2.2.1 _ _ hf).1
      unfold inF at q
      by_cases c3 : eD e (M.1.2.1 o) (fdN e 0 (M.1.2.1 o) (nmE T X x)) = 2
      · have q : (if eD e (M.1.2.1 o) (fdN e 0 (M.1.2.1 o) (nmE T X x)) = 2 then inT e T X fb (zS M 5 (o * 4 + fdN e 0 (M.1.2.1 o) (nmE T X x)) 1) x o (fdN e 0 (M.1.2.1 o) (nmE T X x)) else _) = some M' := q
        rw [if_pos c3] at q
        obtain ⟨a1, a2⟩ := inT_ok (M := zS M 5 (o * 4 + fdN e 0 (M.1.2.1 o) (nmE T X x)) 1) hN ho hf c3 q
        exact ⟨MO.s5.tr a1, a2⟩
      · have q : (if eD e (M.1.2.1 o) (fdN e 0 (M.1.2.1 o) (nmE T X x)) = 2 then _ else some (tkR (zS M 5 (o * 4 + fdN e 0 (M.1.2.1 o) (nmE T X x)) 1) x (if eD e (M.1.2.1 o) (fdN e 0 (M.1.2.1 o) (nmE T X x)) = 3 then 2 else 3) o (fdN e 0 (M.1.2.1 o) (nmE T X x)) (-1))) = some M' := q
        rw [if_neg c3] at q
        injection q with q
        rw [← q]
        refine ⟨MO.s5.tr MO.tk, ?_⟩
        by_cases c4 : eD e (M.1.2.1 o) (fdN e 0 (M.1.2.1 o) (nmE T X x)) = 3
        · rw [if_pos c4]
          exact RW.tk (fun z => absurd z (by decide)) (fun _ => ⟨ho.1, ho.2, hf, c4⟩) (fun z => absurd z (by decide)) (fun z => absurd z (by decide))
        · rw [if_neg c4]
          exact RW.tk (fun z => absurd z (by decide)) (fun z => absurd z (by decide)) (fun z => absurd z (by decide)) (fun _ => ⟨ho.1, ho.2, hf, by show eD e (M.1.2.1 o) _ ≤ 1; omega⟩)
theorem plM_ok (hV : EV e) (hH : EH e M.1) (hI : TI e M x) (hp : xPr X x < x) (q : plM e T X fb M x = some M') : MO e x M M' ∧ RW e M' x := by
  have hN := hH.1.1
  unfold plM at q
  by_cases c1 : xPr X x < 0
  · rw [if_pos c1] at q
    obtain ⟨b1, b2, -⟩ := bgM_ok hN q
    exact ⟨b1, b2⟩
  · rw [if_neg c1] at q
    obtain ⟨i1, i2, -⟩ := hI _ (by omega) hp
    by_cases c2 : M.2 0 (xPr X x) = 1
    · rw [if_pos c2] at q
      exact inO_ok hV hH (i1 c2) q
    · rw [if_neg c2] at q
      by_cases c3 : M.2 0 (xPr X x) = 2
      · rw [if_pos c3] at q
        obtain ⟨j1, j2, j3, j4⟩ := i2 c3
        exact inL_ok hN ⟨j1, j2⟩ j3 j4 ((hH.2.2 _ _ j1 j2 j3).2.2.2 j4).1.1 q
      · rw [if_neg c3] at q
        injection q with q
        rw [← q]
        have e0 : (zS M 0 x 5).2 0 x = 5 := if_pos ⟨rfl, rfl⟩
        exact ⟨MO.s0, fun z => absurd (e0.symm.trans z) (by decide), fun z => absurd (e0.symm.trans z) (by decide), fun z => absurd (e0.symm.trans z) (by decide), fun z => absurd (e0.symm.trans z) (by decide)⟩
theorem atS_keep (hV : EV e) (hH : ∀ y, 0 ≤ y → y < M.1.1 → okC e (M.1.2.1 y)) (ho : 0 ≤ M.2 1 x ∧ M.2 1 x < M.1.1) : ∀ (k : Nat) (M1 : Mm) (a : Int), AK e M M1 → atS e T X x k M1 a = some M' → AK e M M'
  | 0, M1, a, hk, q => by
    injection q with q
    rw [← q]
    exact hk
  | k + 1, M1, a, hk, q => by
    unfold atS at q
    cases hO : atO e T X M1 x a with
    | none =>
      rw [hO] at q
      cases q
    | some M2 =>
      rw [hO] at q
      refine atS_keep hV hH ho k M2 (a + 1) (hk.tr (atO_keep hV ?_ hO)) q
      rw [hk.2.1, hk.2.2.2 1 (by decide)]
      exact hH _ ho.1 ho.2
theorem sdM_ok (hV : EV e) (hH : EH e M.1) (hR : RW e M x) (q : sdM e T X M x = some M') : AK e M M' := by
  unfold sdM at q
  by_cases c1 : M.2 0 x = 1
  · rw [if_pos c1] at q
    unfold sdO at q
    by_cases c2 : xSd X x = true
    · rw [if_pos c2] at q
      cases q
    · rw [if_neg c2] at q
      exact atS_keep hV hH.2.1 (hR.1 c1) _ M _ AK.rf q
  · rw [if_neg c1] at q
    by_cases c2 : M.2 0 x = 2
    · rw [if_pos c2] at q
      by_cases c3 : xSd X x = true ∨ ¬ xAc X x = 0
      · rw [if_pos c3] at q
        cases q
      · rw [if_neg c3] at q
        injection q with q
        rw [← q]
        exact AK.rf
    · rw [if_neg c2] at q
      by_cases c3 : M.2 0 x = 3
      · rw [if_pos c3] at q
        by_cases c4 : ¬ xAc X x = 0 ∨ xKd X x = true
        · rw [if_pos c4] at q
          cases q
        · rw [if_neg c4] at q
          obtain ⟨-, -, -, hd⟩ := hR.2.2.2 c3
          cases hf : fil e M.1 (M.2 1 x) (M.2 2 x) (txE X x) with
          | none =>
            rw [hf] at q
            cases q
          | some h =>
            rw [hf] at q
            injection q with q
            rw [← q]
            obtain ⟨k1, k2, k3⟩ := fil_keep hd hf
            exact ⟨k1, k2, k3, fun _ _ => rfl⟩
      · rw [if_neg c3] at q
        injection q with q
        rw [← q]
        exact AK.rf
theorem TI_next (hI : TI e M x) (h1 : MO e x M M') (h2 : RW e M' x) (h3 : AK e M' M2) : TI e M2 (x + 1) := fun y y0 y1 => by
  by_cases q : y = x
  · rw [q]
    exact h2.ak h3
  · exact ((hI y y0 (by omega)).mo h1 q).ak h3
theorem k_rn1 (hP : PMn T n X e fb M S) (hV : EV e) (hI : TI e M 0) (hK0 : rn1 e T X fb X.1.length M 0 = none → ∀ (r : Int) S', MF S S' → 0 ≤ r → r < X.1.length → K r S') (hK : ∀ M' S', rn1 e T X fb X.1.length M 0 = some M' → MF S S' → PMn T n X e fb M' S' → TI e M' X.1.length → wX3_firstWrong_44 X.1.length 0 S' K) : wX3_firstWrong_9 X.1.length 0 S K := by
  have l := hP.1.len
  refine ⟨fun l1 S' => 0 ≤ l1 ∧ l1 ≤ X.1.length ∧ MF S S' ∧ ∃ M', PMn T n X e fb M' S' ∧ TI e M' l1 ∧ rn1 e T X fb ((X.1.length : Int) - l1).toNat M' l1 = rn1 e T X fb X.1.length M 0, fun l1 S' => ((X.1.length : Int) - l1).toNat, ⟨by decide, by omega, MF.rf, M, hP, hI, by rw [show ((X.1.length : Int) - 0).toNat = X.1.length by omega]⟩, ?_⟩
  rintro l1 S' ⟨h0, h1, hm, M1, p1, p2, p3⟩
  refine ⟨⟨by omega, by omega⟩, fun z => ?_, fun z => ?_⟩
  · have e1 : l1 = X.1.length := by omega
    rw [show ((X.1.length : Int) - l1).toNat = 0 by omega] at p3
    rw [e1] at p2
    exact hK M1 S' p3.symm hm p1 p2
  · have x1 : l1 < X.1.length := by omega
    have hp := (cm_e p1.1 h0 x1).2.2.2.2.2.1
    rw [show ((X.1.length : Int) - l1).toNat = ((X.1.length : Int) - (l1 + 1)).toNat + 1 by omega] at p3
    have bad : stM e T X fb M1 l1 = none → rn1 e T X fb X.1.length M 0 = none := fun w => by
      rw [← p3]
      show (match stM e T X fb M1 l1 with | none => none | some M' => rn1 e T X fb _ M' (l1 + 1)) = none
      rw [w]
    have good : ∀ M2, stM e T X fb M1 l1 = some M2 → rn1 e T X fb ((X.1.length : Int) - (l1 + 1)).toNat M2 (l1 + 1) = rn1 e T X fb X.1.length M 0 := fun M2 w => by
      rw [← p3]
      show _ = (match stM e T X fb M1 l1 with | none => none | some M' => rn1 e T X fb _ M' (l1 + 1))
      rw [w]
    refine k_placed p1 hV p2 h0 x1 (fun r S3 hO => ?_)
    obtain ⟨m3, ⟨rfl, hn⟩ | ⟨rfl, M2, hs, hP2⟩⟩ := hO
    · refine ⟨⟨by decide, by decide⟩, fun _ => hK0 (bad ?_) l1 S3 (hm.tr m3) h0 x1, fun w => absurd rfl w⟩
      unfold stM
      rw [hn]
    · obtain ⟨o1, o2⟩ := plM_ok hV p1.2.2.2.2.1 p2 hp hs
      refine ⟨⟨by decide, by decide⟩, fun w => absurd w (by decide), fun _ => k_sound hP2 hV h0 x1 o2.1 o2.2.2.2 (fun r S4 hO => ?_)⟩
      obtain ⟨m4, ⟨rfl, hn⟩ | ⟨rfl, M3, hs3, hP3⟩⟩ := hO
      · refine ⟨⟨by decide, by decide⟩, fun w => absurd rfl w, fun _ => hK0 (bad ?_) l1 S4 (hm.tr (m3.tr m4)) h0 x1⟩
        unfold stM
        rw [hs]
        exact hn
      · refine ⟨⟨by decide, by decide⟩, fun _ => ⟨⟨by omega, by omega, hm.tr (m3.tr m4), M3, hP3, TI_next p2 o1 o2 (sdM_ok hV hP2.2.2.2.2.1 o2 hs3), good M3 ?_⟩, ?_⟩, fun w => absurd (by decide) w⟩
        · unfold stM
          rw [hs]
          exact hs3
        · show ((X.1.length : Int) - (l1 + 1)).toNat < ((X.1.length : Int) - l1).toNat
          omega
end QM

