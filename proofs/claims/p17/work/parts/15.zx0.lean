/-! WHAT ELEMENTS MEAN: the model: an element has a meaning -/
section NR
variable {S S' : St} {K : Int → St → Prop} {T W : Int → Int} {n x y o f v u c r p a b d i k z w q fl N : Int} {X : Xs} {e : Env} {fb : Int → Int} {M M' M1 : Mm} {L : List Int} {h h' : Hs}
/-- a reference that was not told is none -/
def UI (e : Env) (M : Mm) : Prop := ∀ o f, 0 ≤ o → o < M.1.1 → okF e (M.1.2.1 o) f → eD e (M.1.2.1 o) f = 2 → ¬ M.2 5 (o * 4 + f) = 1 → M.1.2.2.1 o f = -2
theorem UI.ak (h : UI e M) (g : AK e M M') : UI e M' := by
  obtain ⟨g1, g2, g3, g4⟩ := g
  intro o f o0 o1 hf hd hs
  rw [g1] at o1
  rw [g2] at hf hd
  rw [g4 5 (by decide)] at hs
  rw [g3 o f (by omega)]
  exact h o f o0 o1 hf hd hs
theorem UI.zb (h : UI e M) : UI e (zB e M.1 c, M.2) := by
  intro o f o0 o1 hf hd hs
  have o1 : o < M.1.1 + 1 := o1
  have hf : okF e (if o = M.1.1 then c else M.1.2.1 o) f := hf
  have hd : eD e (if o = M.1.1 then c else M.1.2.1 o) f = 2 := hd
  show (if o = M.1.1 then (if eD e c f = 2 then -2 else 0) else M.1.2.2.1 o f) = -2
  by_cases q : o = M.1.1
  · rw [if_pos q] at hd
    rw [if_pos q, if_pos hd]
  · rw [if_neg q] at hf hd
    rw [if_neg q]
    exact h o f o0 (by omega) hf hd hs
theorem UI.tk (h : UI e M) : UI e (tkR M x r o f p) := fun o' f' o0 o1 hf hd hs => h o' f' o0 o1 hf hd (by rw [tkR_ne (Or.inl (by decide))] at hs; exact hs)
theorem UI.za (h : UI e M) (hk : eD e (M.1.2.1 o) f = 3) : UI e (zA M.1 o f v, M.2) := by
  intro o' f' o0 o1 hf hd hs
  have hd : eD e (M.1.2.1 o') f' = 2 := hd
  show (if o' = o ∧ f' = f then M.1.2.2.1 o f + 1 else M.1.2.2.1 o' f') = -2
  rw [if_neg (fun w => by rw [w.1, w.2] at hd; omega)]
  exact h o' f' o0 o1 hf hd hs
theorem UI.zc (h : UI e M) : UI e (zC M.1 o f i v, M.2) := h
theorem UI.zv (h : UI e M) (h5 : M.2 5 (o * 4 + f) = 1) : UI e (zV M.1 o f v, M.2) := by
  intro o' f' o0 o1 hf hd hs
  show (if o' = o ∧ f' = f then v else M.1.2.2.1 o' f') = -2
  rw [if_neg (fun w => hs (by rw [w.1, w.2]; exact h5))]
  exact h o' f' o0 o1 hf hd hs
theorem UI.s5 (h : UI e M) : UI e (zS M 5 i 1) := fun o f o0 o1 hf hd hs => h o f o0 o1 hf hd (fun w => hs (by
  show (if 5 = 5 ∧ o * 4 + f = i then (1 : Int) else M.2 5 (o * 4 + f)) = 1
  by_cases q : o * 4 + f = i
  · rw [if_pos ⟨rfl, q⟩]
  · rw [if_neg (fun z => q z.2)]
    exact w))
theorem inL_ui (h : UI e M) (hk : eD e (M.1.2.1 o) f = 3) (q : inL e T X fb M x o f = some M') : UI e M' := by
  unfold inL at q
  by_cases c1 : clN e fb (nmE T X x) = -1 ∨ ¬ M.1.2.2.1 o f < 8
  · rw [if_pos c1] at q
    cases q
  · rw [if_neg c1] at q
    by_cases c2 : atN T X x ywR = -1
    · rw [if_pos c2] at q
      by_cases c3 : clN e fb (nmE T X x) = -1 ∨ ¬ (zA M.1 o f (-2), M.2).1.1 < 30
      · rw [bgM_none c3] at q
        cases q
      · rw [bgM_some c3] at q
        injection q with q
        rw [← q]
        exact (((h.za hk).zb).tk).zc
    · rw [if_neg c2] at q
      injection q with q
      rw [← q]
      exact (h.za hk).tk
theorem inT_ui (h : UI e M) (h5 : M.2 5 (o * 4 + f) = 1) (q : inT e T X fb M x o f = some M') : UI e M' := by
  unfold inT at q
  by_cases c1 : ¬ atN T X x ywR = -1
  · rw [if_pos c1] at q
    injection q with q
    rw [← q]
    exact h.tk
  · rw [if_neg c1] at q
    by_cases c2 : atN T X x ywC = -1
    · rw [if_pos c2] at q
      cases q
    · rw [if_neg c2] at q
      by_cases c3 : clN e fb (vlA X (atN T X x ywC)) = -1 ∨ ¬ M.1.1 < 30
      · rw [bgM_none c3] at q
        cases q
      · rw [bgM_some c3] at q
        injection q with q
        rw [← q]
        refine UI.zv (M := tkR (zB e M.1 (clN e fb (vlA X (atN T X x ywC))), M.2) x 1 M.1.1 f (-1)) (h.zb).tk ?_
        rw [tkR_ne (Or.inl (by decide))]
        exact h5
theorem plM_ui (hV : EV e) (hH : EH e M.1) (hI : TI e M x) (hp : xPr X x < x) (h : UI e M) (q : plM e T X fb M x = some M') : UI e M' := by
  unfold plM at q
  by_cases c1 : xPr X x < 0
  · rw [if_pos c1] at q
    by_cases c3 : clN e fb (nmE T X x) = -1 ∨ ¬ M.1.1 < 30
    · rw [bgM_none c3] at q
      cases q
    · rw [bgM_some c3] at q
      injection q with q
      rw [← q]
      exact (h.zb).tk
  · rw [if_neg c1] at q
    obtain ⟨i1, i2, -⟩ := hI _ (by omega) hp
    by_cases c2 : M.2 0 (xPr X x) = 1
    · rw [if_pos c2] at q
      have ho := i1 c2
      have hc := hH.2.1 _ ho.1 ho.2
      obtain ⟨o, ho'⟩ : ∃ o, o = M.2 1 (xPr X x) := ⟨_, rfl⟩
      rw [← ho'] at q ho hc
      unfold inO at q
      by_cases d1 : fdN e 0 (M.1.2.1 o) (nmE T X x) = -1
      · rw [if_pos d1] at q
        by_cases d2 : imp e (M.1.2.1 o) = -1
        · rw [if_pos d2] at q
          cases q
        · rw [if_neg d2] at q
          exact inL_ui h ((imp_ok hV hc).resolve_left d2).2.1 q
      · rw [if_neg d1] at q
        by_cases d2 : fdN e 0 (M.1.2.1 o) (nmE T X x) = imp e (M.1.2.1 o) ∨ M.2 5 (o * 4 + fdN e 0 (M.1.2.1 o) (nmE T X x)) = 1
        · rw [if_pos d2] at q
          cases q
        · rw [if_neg d2] at q
          unfold inF at q
          by_cases d3 : eD e (M.1.2.1 o) (fdN e 0 (M.1.2.1 o) (nmE T X x)) = 2
          · have q : (if eD e (M.1.2.1 o) (fdN e 0 (M.1.2.1 o) (nmE T X x)) = 2 then inT e T X fb (zS M 5 (o * 4 + fdN e 0 (M.1.2.1 o) (nmE T X x)) 1) x o (fdN e 0 (M.1.2.1 o) (nmE T X x)) else _) = some M' := q
            rw [if_pos d3] at q
            exact inT_ui h.s5 (if_pos ⟨rfl, rfl⟩) q
          · have q : (if eD e (M.1.2.1 o) (fdN e 0 (M.1.2.1 o) (nmE T X x)) = 2 then _ else some (tkR (zS M 5 (o * 4 + fdN e 0 (M.1.2.1 o) (nmE T X x)) 1) x (if eD e (M.1.2.1 o) (fdN e 0 (M.1.2.1 o) (nmE T X x)) = 3 then 2 else 3) o (fdN e 0 (M.1.2.1 o) (nmE T X x)) (-1))) = some M' := q
            rw [if_neg d3] at q
            injection q with q
            rw [← q]
            exact h.s5.tk
    · rw [if_neg c2] at q
      by_cases c3 : M.2 0 (xPr X x) = 2
      · rw [if_pos c3] at q
        exact inL_ui h (i2 c3).2.2.2 q
      · rw [if_neg c3] at q
        injection q with q
        rw [← q]
        exact fun o f o0 o1 hf hd hs => h o f o0 o1 hf hd (fun w => hs (by
          show (if 5 = 0 ∧ o * 4 + f = x then (5 : Int) else M.2 5 (o * 4 + f)) = 1
          rw [if_neg (fun z => absurd z.1 (by decide))]
          exact w))
theorem stM_ui (hC : CNm T n X S) (hV : EV e) (hH : EH e M.1) (hI : TI e M x) (x0 : 0 ≤ x) (x1 : x < X.1.length) (h : UI e M) (q : stM e T X fb M x = some M') : UI e M' := by
  have hp := (cn_e hC x0 x1).2.2.2.2.2.1
  unfold stM at q
  cases hl : plM e T X fb M x with
  | none =>
    rw [hl] at q
    cases q
  | some M1 =>
    rw [hl] at q
    have q : sdM e T X M1 x = some M' := q
    exact (plM_ui hV hH hI hp h hl).ak (sdM_ok hV (plM_EH hV hH hI hp hl) (plM_ok hV hH hI hp hl).2 q)
theorem fdM_ok (hV : EV e) (hX : XE e) (hc : okC e c) : (fdM e c L = -1 ∧ (fdN e 0 c L = -1 ∨ (fdN e 0 c L = imp e c ∧ okF e c (imp e c) ∧ eD e c (imp e c) = 3 ∧ eM e c (imp e c) = 1 ∧ eL e (6 + c * 4 + imp e c) = L))) ∨ (fdN e 0 c L = fdM e c L ∧ okF e c (fdM e c L) ∧ ¬ fdM e c L = imp e c) := by
  have h4 := hV.2.2.2.1 c hc
  unfold fdM
  rcases fnd_or (P := fun f => decide (eM e c f = 0 ∧ eL e (6 + c * 4 + f) = L)) (eF e c).toNat 0 with ⟨w1, w2⟩ | ⟨w1, w2, w3, -⟩
  · refine Or.inl ⟨w1, ?_⟩
    rcases fdN_ok (a := 0) hV hc (L := L) with y | ⟨y1, y2, y3⟩
    · exact Or.inl y
    · right
      have m0 : ¬ eM e c (fdN e 0 c L) = 0 := fun q => by
        have := w2 _ y1.2.1 (by have := y1.2.2; omega)
        rw [decide_eq_false_iff_not] at this
        exact this ⟨q, y3⟩
      have m1 : eM e c (fdN e 0 c L) = 1 := by
        have := (hV.2.2.2.2.1 _ _ y1).2
        omega
      have d3 : eD e c (fdN e 0 c L) = 3 := by
        rcases hX.2.2.2.2.2.1 _ _ y1 m1 with q | q
        · unfold isA at y2
          rw [if_pos ⟨q, m1⟩] at y2
          omega
        · exact q
      have ei : imp e c = fdN e 0 c L := by
        unfold imp
        exact fnd_one (N := eF e c) (fun i j i0 i1 j0 j1 hi hj => by
          rw [decide_eq_true_eq] at hi hj
          exact hX.2.2.2.2.1 c i j ⟨hc, i0, i1⟩ ⟨hc, j0, j1⟩ hi.1 hi.2 hj.1 hj.2) y1.2.1 y1.2.2 (decide_eq_true ⟨d3, m1⟩)
      rw [ei]
      exact ⟨rfl, y1, d3, m1, y3⟩
  · rw [decide_eq_true_eq] at w3
    obtain ⟨f, hf⟩ : ∃ f, f = fnd (fun f => decide (eM e c f = 0 ∧ eL e (6 + c * 4 + f) = L)) (eF e c).toNat 0 := ⟨_, rfl⟩
    rw [← hf] at w1 w2 w3 ⊢
    have ok : okF e c f := ⟨hc, w1, by omega⟩
    refine Or.inr ⟨?_, ok, fun q => ?_⟩
    · unfold fdN
      refine fnd_one (N := eF e c) (fun i j i0 i1 j0 j1 hi hj => ?_) w1 (by omega) (decide_eq_true ⟨?_, w3.2⟩)
      · rw [decide_eq_true_eq] at hi hj
        exact hX.2.2.1 c i j ⟨hc, i0, i1⟩ ⟨hc, j0, j1⟩ (hi.2.trans hj.2.symm)
      · unfold isA
        rw [if_neg (fun y => by have := y.2; omega)]
    · rcases imp_ok hV hc with y | ⟨-, -, y⟩
      · omega
      · rw [← q] at y
        omega
/-- the model's row of an element -/
def mRw (T : Int → Int) (X : Xs) (e : Env) (fb : Int → Int) (M : Mm) (S : St) (y : Int) : Prop := S.2 102 y = M.2 4 y ∧ (M.2 0 y = 1 → S.2 98 y = 4 ∧ S.2 99 y = M.2 1 y) ∧ (M.2 0 y = 2 → S.2 98 y = 3 ∧ S.2 99 y = M.2 1 y ∧ S.2 100 y = 4 * (60 + M.2 1 y) + M.2 2 y) ∧ (M.2 0 y = 3 → (S.2 98 y = 0 ∨ S.2 98 y = 1) ∧ xKd X y = false) ∧ (M.2 0 y = 4 → S.2 98 y = 5 ∧ S.2 100 y = 4 * (60 + M.2 1 y) + M.2 2 y ∧ S.2 101 y = mNg (M.2 3 y) ∧ frm X y ∧ (¬ M.2 3 y = -1 → ¬ clN e fb (nmE T X y) = -1)) ∧ 1 ≤ M.2 0 y ∧ M.2 0 y ≤ 4
def PNm (T : Int → Int) (n : Int) (X : Xs) (e : Env) (fb : Int → Int) (M : Mm) (x : Int) (S : St) : Prop := CNm T n X S ∧ mE S e ∧ (∀ c, okC e c → S.2 61 c = fb c) ∧ mH S e M.1 ∧ EH e M.1 ∧ (∀ y, 0 ≤ y → y < x → mRw T X e fb M S y) ∧ (∀ o f, 0 ≤ o → o < M.1.1 → 0 ≤ f → f < 4 → (S.2 103 (4 * o + f) = 1 ↔ M.2 5 (o * 4 + f) = 1)) ∧ (∀ i, M.1.1 * 4 ≤ i → ¬ M.2 5 i = 1) ∧ (∀ y, x ≤ y → M.2 4 y = 0) ∧ UI e M
/-- the rows of the others stay -/
def YF (x : Int) (S S' : St) : Prop := NF S S' ∧ ∀ y, ¬ y = x → S'.2 98 y = S.2 98 y ∧ S'.2 99 y = S.2 99 y ∧ S'.2 100 y = S.2 100 y ∧ S'.2 101 y = S.2 101 y ∧ S'.2 102 y = S.2 102 y
theorem XF.yf (h : XF x N S S') : YF x S S' := ⟨h.1, h.2.1⟩
theorem YF.tr {S1 S2 : St} (h : YF x S S1) (g : YF x S1 S2) : YF x S S2 := ⟨h.1.tr g.1, fun y q => ⟨(g.2 y q).1.trans (h.2 y q).1, (g.2 y q).2.1.trans (h.2 y q).2.1, (g.2 y q).2.2.1.trans (h.2 y q).2.2.1, (g.2 y q).2.2.2.1.trans (h.2 y q).2.2.2.1, (g.2 y q).2.2.2.2.trans (h.2 y q).2.2.2.2⟩⟩
theorem YF.p103 : YF x S (pA S 103 i v) := ⟨NF.pa (by decide), fun y _ => ⟨by rw [(pA_ne 98 (by decide)).2], by rw [(pA_ne 99 (by decide)).2], by rw [(pA_ne 100 (by decide)).2], by rw [(pA_ne 101 (by decide)).2], by rw [(pA_ne 102 (by decide)).2]⟩⟩
theorem PN_next (hP : PNm T n X e fb M x S) (hV : EV e) (hX : XE e) (hI : TI e M x) (x0 : 0 ≤ x) (x1 : x < X.1.length) (hs : stM e T X fb M x = some M') (yf : YF x S S') (hm : mH S' e M'.1) (hr : ∀ t y, t ≤ 4 → ¬ y = x → M'.2 t y = M.2 t y) (hx : mRw T X e fb M' S' x) (s1 : ∀ o f, 0 ≤ o → o < M'.1.1 → 0 ≤ f → f < 4 → (S'.2 103 (4 * o + f) = 1 ↔ M'.2 5 (o * 4 + f) = 1)) (s2 : ∀ i, M'.1.1 * 4 ≤ i → ¬ M'.2 5 i = 1) : PNm T n X e fb M' (x + 1) S' ∧ TI e M' (x + 1) := by
  obtain ⟨p1, p2, p3, p4, p5, p6, -, -, p9, p10⟩ := hP
  obtain ⟨hH, hT⟩ := stM_EH p1 hV p5 hI x0 x1 hs
  refine ⟨⟨p1.nf yf.1, p2.nf hV yf.1, fun c hc => by rw [yf.1.2.1 61 (by decide) (by decide)]; exact p3 c hc, hm, hH, fun y y0 y1 => ?_, s1, s2, fun y y1 => ?_, stM_ui p1 hV p5 hI x0 x1 p10 hs⟩, hT⟩
  · by_cases qy : y = x
    · rw [qy]
      exact hx
    · have := p6 y y0 (by omega)
      obtain ⟨z1, z2, z3, z4, z5⟩ := yf.2 y qy
      unfold mRw at this ⊢
      rw [z1, z2, z3, z4, z5, hr 0 y (by decide) qy, hr 1 y (by decide) qy, hr 2 y (by decide) qy, hr 3 y (by decide) qy, hr 4 y (by decide) qy]
      exact this
  · rw [hr 4 y (by decide) (by omega)]
    exact p9 y (by omega)
/-- what was told of the fields, with a new object -/
theorem seen_new (hP : PNm T n X e fb M x S) (xf : ∀ i, i < 4 * M.1.1 → S'.2 103 i = S.2 103 i) (h5 : M'.2 5 = M.2 5) (hN : M'.1.1 = M.1.1 + 1) (hz : ∀ f, 0 ≤ f → f < 4 → S'.2 103 (4 * M.1.1 + f) = 0) : (∀ o f, 0 ≤ o → o < M'.1.1 → 0 ≤ f → f < 4 → (S'.2 103 (4 * o + f) = 1 ↔ M'.2 5 (o * 4 + f) = 1)) ∧ ∀ i, M'.1.1 * 4 ≤ i → ¬ M'.2 5 i = 1 := by
  obtain ⟨-, -, -, -, -, -, p7, p8, -, -⟩ := hP
  rw [hN, h5]
  refine ⟨fun o f o0 o1 f0 f1 => ?_, fun i hi => p8 i (by omega)⟩
  by_cases q : o = M.1.1
  · rw [q, hz f f0 f1]
    exact ⟨fun w => absurd w (by decide), fun w => absurd w (p8 _ (by omega))⟩
  · rw [xf _ (by omega)]
    exact p7 o f o0 (by omega) f0 f1
theorem st_root (h : xPr X x < 0) : stM e T X fb M x = obR e T X M x (clN e fb (nmE T X x)) (-1) := by
  unfold stM plM obR
  rw [if_pos h]
  cases hb : bgM e M x (clN e fb (nmE T X x)) (-1) with
  | none => rfl
  | some M1 =>
    show sdM e T X M1 x = sdO e T X M1 x
    have : M1.2 0 x = 1 := by
      by_cases c1 : clN e fb (nmE T X x) = -1 ∨ ¬ M.1.1 < 30
      · rw [bgM_none c1] at hb
        cases hb
      · rw [bgM_some c1] at hb
        injection hb with hb
        rw [← hb]
        exact tkR_at.1
    unfold sdM
    rw [if_pos this]
end NR

