/-! WHAT ELEMENTS MEAN: the model: an object's element -/
/-- an object is begun and its attributes are read -/
def obR (e : Env) (T : Int → Int) (X : Xs) (M : Mm) (x c fl : Int) : Option Mm := match bgM e M x c fl with
  | none => none
  | some M1 => sdO e T X M1 x
def clQ (e : Env) (T : Int → Int) (X : Xs) (fb : Int → Int) (x q : Int) : Int := if q = 0 then clN e fb (nmE T X x) else if atN T X x ywC = -1 then -1 else clN e fb (vlA X (atN T X x ywC))
/-- what an object's element leaves -/
def OeO (e : Env) (T : Int → Int) (X : Xs) (M : Mm) (x c fl : Int) (S S' : St) (r : Int) : Prop := UF x S S' ∧ (∀ i, i < 4 * M.1.1 → S'.2 103 i = S.2 103 i) ∧ ((r = 0 ∧ obR e T X M x c fl = none) ∨ (r = 1 ∧ ∃ M', obR e T X M x c fl = some M' ∧ mH S' e M'.1 ∧ EW e M'.1 ∧ S'.2 98 x = 4 ∧ S'.2 99 x = M.1.1 ∧ S'.2 102 x = M'.2 4 x ∧ (∀ y, ¬ y = x → M'.2 4 y = M.2 4 y) ∧ ∀ f, 0 ≤ f → f < 4 → S'.2 103 (4 * M.1.1 + f) = 0))
section NP
variable {S S' : St} {K : Int → St → Prop} {T W : Int → Int} {n x y o f v u c r p a b d i k z w q fl : Int} {X : Xs} {e : Env} {fb : Int → Int} {M M' : Mm} {L : List Int} {h h' : Hs}
theorem n_o156 (hC : CNm T n X S) (hE : mE S e) (hV : EV e) (hX : XE e) (g : mH S e M.1) (hW : EW e M.1) (x0 : 0 ≤ x) (x1 : x < X.1.length) (hc : c = -1 ∨ okC e c) (hq : (q = 1 ∧ ¬ fl = -1) ∨ (q = 0 ∧ fl = -1)) (hid : ∀ y, 0 ≤ y → y < x → S.2 102 y = M.2 4 y) (hix : S.2 102 x = M.2 4 x) (hz : ∀ y, x ≤ y → M.2 4 y = 0) (hK : ∀ r S', OeO e T X M x c fl S S' r → K r S') : wX11_isObjectElement_156 x q (xAf X x) (xAc X x) (mNg c) S K := by
  have l := hC.len
  have h30 := hW.1
  have h6 := hV.2.1
  have bad : obR e T X M x c fl = none → K 0 S := fun w => hK 0 S ⟨UF.rf, fun _ _ => rfl, Or.inl ⟨rfl, w⟩⟩
  unfold wX11_isObjectElement_156
  by_cases hc1 : c = -1
  · have e1 : mNg c = -2 := if_pos hc1
    rw [e1]
    refine ⟨⟨by decide, by decide⟩, fun _ => bad ?_, fun w => absurd rfl w⟩
    unfold obR
    rw [bgM_none (Or.inl hc1)]
  · have hc := hc.resolve_left hc1
    have c0 := hc.1
    have c1 := hc.2
    have e1 : mNg c = c := if_neg hc1
    rw [e1, g.1]
    refine ⟨⟨by omega, by omega⟩, fun w => absurd w (by omega), fun _ => ⟨by decide, by decide, fun _ => ⟨fun w => bad ?_, fun w => ⟨⟨by omega, by omega⟩, n_blk hC x0 x1 (fun r hr => ?_)⟩⟩⟩⟩
    · unfold obR
      rw [bgM_none (Or.inr (by omega))]
    · have hN : M.1.1 < 30 := by omega
      have hb := bgM_some (e := e) (M := M) (x := x) (c := c) (f := fl) (fun y => y.elim hc1 (fun y => y hN))
      rcases hr with ⟨rfl, hs⟩ | ⟨rfl, hs⟩
      rotate_left
      · refine ⟨⟨by decide, by decide⟩, fun y => absurd rfl y, fun _ => bad ?_⟩
        unfold obR
        rw [hb]
        show sdO e T X _ x = none
        unfold sdO
        rw [if_pos hs]
      · have hob : obR e T X M x c fl = atS e T X x (xAc X x).toNat (tkR (zB e M.1 c, M.2) x 1 M.1.1 fl (-1)) (xAf X x) := by
          unfold obR
          rw [hb]
          show sdO e T X _ x = _
          unfold sdO
          rw [if_neg (by rw [hs]; decide)]
        refine ⟨⟨by decide, by decide⟩, fun _ => n_obj g hV hW hc hN (fun S12 hB x13 e13 => ⟨x0, by omega, fun S15 e15 => ⟨x0, by omega, ⟨by omega, by omega⟩, fun S17 e17 => ?_⟩⟩), fun y => absurd (by decide) y⟩
        have e13 : x13 = M.1.1 := by omega
        rw [e13]
        rw [e13] at e17
        have n12 := hB.nf h30.1
        have t12 : ∀ a, 98 ≤ a → S12.2 a = S.2 a := fun a ha => hB.2.1 a (by omega)
        have u17 : UF x S S17 := by
          have u12 : UF x S S12 := ⟨n12, t12 100 (by decide), t12 101 (by decide), fun y _ => ⟨by rw [t12 98 (by decide)], by rw [t12 99 (by decide)], by rw [t12 102 (by decide)]⟩⟩
          rw [e17, e15]
          exact (u12.tr (UF.p (by decide))).tr (UF.p (by decide))
        have s98 : S17.2 98 x = 4 := by
          rw [e17, (pA_ne 98 (by decide)).2, e15, pA_if, if_pos rfl]
        have s99 : S17.2 99 x = M.1.1 := by
          rw [e17, pA_if, if_pos rfl]
        have s102 : S17.2 102 = S.2 102 := by
          rw [e17, (pA_ne 102 (by decide)).2, e15, (pA_ne 102 (by decide)).2, t12 102 (by decide)]
        have s103 : S17.2 103 = S.2 103 := by
          rw [e17, (pA_ne 103 (by decide)).2, e15, (pA_ne 103 (by decide)).2, t12 103 (by decide)]
        have g12 := mH_B g hE hV h30.1 hB
        have g17 : mH S17 e (zB e M.1 c) := by
          rw [e17, e15]
          exact (g12.tb (fun a b1 b2 => (pA_ne a (by omega)).2)).tb (fun a b1 b2 => (pA_ne a (by omega)).2)
        have hW1 := EW_B hW hN hc
        refine ⟨fun l1 l2 l3 l4 l5 l6 l7 S' => l1 = x ∧ l2 = q ∧ l3 = xAf X x ∧ l4 = xAc X x ∧ l5 = c ∧ l6 = M.1.1 ∧ 0 ≤ l7 ∧ l7 ≤ 4 ∧ S'.1 = S17.1 ∧ (∀ a, ¬ a = 103 → S'.2 a = S17.2 a) ∧ ∀ i, S'.2 103 i = if 4 * M.1.1 ≤ i ∧ i < 4 * M.1.1 + l7 then 0 else S.2 103 i, fun l1 l2 l3 l4 l5 l6 l7 S' => (4 - l7).toNat, ⟨rfl, rfl, rfl, rfl, rfl, rfl, by decide, by decide, rfl, fun _ _ => rfl, fun i => by rw [if_neg (by omega), s103]⟩, ?_⟩
        rintro l1 l2 l3 l4 l5 l6 l7 S' ⟨rfl, rfl, rfl, rfl, rfl, rfl, i0, i1, q1, q2, q3⟩
        refine ⟨⟨by omega, by omega⟩, fun w4 => ?_, fun w4 => ⟨by omega, by omega, fun S4 e4 => ⟨⟨rfl, rfl, rfl, rfl, rfl, rfl, by omega, by omega, by rw [e4]; exact q1, fun a ha => by rw [e4, (pA_ne a ha).2]; exact q2 a ha, fun i => ?_⟩, ?_⟩⟩⟩
        · rw [show l7 = 4 by omega] at q3
          have us : UF l1 S S' := by
            refine u17.tr ⟨⟨fun a j _ => by rw [q1], fun a _ w => q2 a (by omega), fun j _ => by rw [q2 67 (by decide)], fun j _ => by rw [q2 68 (by decide)], fun j _ => by rw [q2 69 (by decide)], fun j _ => by rw [q2 70 (by decide)]⟩, q2 100 (by decide), q2 101 (by decide), fun y _ => ⟨by rw [q2 98 (by decide)], by rw [q2 99 (by decide)], by rw [q2 102 (by decide)]⟩⟩
          have gs : mH S' e (zB e M.1 l5) := g17.tb (fun a b1 b2 => q2 a (by omega))
          have tk := tkR_at (M := (zB e M.1 l5, M.2)) (x := l1) (r := 1) (o := M.1.1) (f := fl) (p := -1)
          have h4 : ∀ y, (tkR (zB e M.1 l5, M.2) l1 1 M.1.1 fl (-1)).2 4 y = M.2 4 y := fun y => tkR_ne (Or.inl (by decide))
          have hk1 : (zB e M.1 l5).2.1 M.1.1 = l5 := if_pos rfl
          have fin := n_atts (M := tkR (zB e M.1 l5, M.2) l1 1 M.1.1 fl (-1)) (q := l2) (hC.nf us.1) (hE.nf hV us.1) hV hX gs hW1 x0 x1 (K := K)
          rw [tk.2.1, tk.2.2.1] at fin
          have hk2 : (tkR (zB e M.1 l5, M.2) l1 1 M.1.1 fl (-1)).1.2.1 M.1.1 = l5 := hk1
          rw [hk2] at fin
          refine fin ⟨h30.1, by show M.1.1 < M.1.1 + 1; omega⟩ hq (fun y y0 y1 => ?_) ?_ (fun y y1 => ?_) (fun r S2 hu v98 v99 v103 hO => hK r S2 ⟨us.tr hu, fun i hi => ?_, ?_⟩)
          · rw [h4, q2 102 (by decide), s102]
            exact hid y y0 y1
          · rw [h4, q2 102 (by decide), s102]
            exact hix
          · rw [h4]
            exact hz y y1
          · rw [v103, q3, if_neg (by omega)]
          · rw [hob]
            rcases hO with hO | ⟨hr, M', o1, o2, o3, o4, o5⟩
            · exact Or.inl hO
            · refine Or.inr ⟨hr, M', o1, o2, o3, ?_, ?_, o4, fun y hy => by rw [o5 y hy, h4], fun f f0 f1 => ?_⟩
              · rw [v98, q2 98 (by decide)]
                exact s98
              · rw [v99, q2 99 (by decide)]
                exact s99
              · rw [v103, q3, if_pos (by omega)]
        · rw [e4, pA_if, q3 i]
          by_cases hy : i = 4 * M.1.1 + l7
          · rw [if_pos hy, if_pos (by omega)]
          · rw [if_neg hy]
            by_cases hz : 4 * M.1.1 ≤ i ∧ i < 4 * M.1.1 + l7
            · rw [if_pos hz, if_pos (by omega)]
            · rw [if_neg hz, if_neg (by omega)]
        · show (4 - (l7 + 1)).toNat < (4 - l7).toNat
          omega
theorem atN_ok : atN T X x L = -1 ∧ (∀ a, xAf X x ≤ a → a < xAf X x + xAc X x → ¬ kyA T X a = L) ∨ (xAf X x ≤ atN T X x L ∧ atN T X x L < xAf X x + xAc X x ∧ kyA T X (atN T X x L) = L) ∨ xAc X x < 0 := by
  by_cases q : xAc X x < 0
  · exact Or.inr (Or.inr q)
  · unfold atN
    rcases fnd_or (P := fun a => decide (kyA T X a = L)) (xAc X x).toNat (xAf X x) with ⟨w1, w2⟩ | ⟨w1, w2, w3, -⟩
    · refine Or.inl ⟨w1, fun a a0 a1 hq => ?_⟩
      have := w2 a a0 (by omega)
      rw [decide_eq_false_iff_not] at this
      exact this hq
    · rw [decide_eq_true_eq] at w3
      exact Or.inr (Or.inl ⟨w1, by omega, w3⟩)
theorem n_objE (hC : CNm T n X S) (hE : mE S e) (hV : EV e) (hX : XE e) (hf : ∀ c, okC e c → S.2 61 c = fb c) (g : mH S e M.1) (hW : EW e M.1) (x0 : 0 ≤ x) (x1 : x < X.1.length) (hq : (q = 1 ∧ ¬ fl = -1) ∨ (q = 0 ∧ fl = -1)) (hid : ∀ y, 0 ≤ y → y < x → S.2 102 y = M.2 4 y) (hix : S.2 102 x = M.2 4 x) (hz : ∀ y, x ≤ y → M.2 4 y = 0) (hK : ∀ r S', ((xAc X x = 1 ∧ kyA T X (xAf X x) = ywR ∧ S' = pA S 98 x 5 ∧ ((r = 1 ∧ xKd X x = false ∧ txE X x = [] ∧ (q = 1 ∨ ¬ clN e fb (nmE T X x) = -1)) ∨ (r = 0 ∧ ¬ (xKd X x = false ∧ txE X x = [] ∧ (q = 1 ∨ ¬ clN e fb (nmE T X x) = -1))))) ∨ (¬ (xAc X x = 1 ∧ kyA T X (xAf X x) = ywR) ∧ OeO e T X M x (clQ e T X fb x q) fl S S' r)) → K r S') : wX11_isObjectElement x q S K := by
  have l := hC.len
  have h6 := hV.2.1
  obtain ⟨⟨-, e86, e87, -, e90, e91⟩, s1, s2, s3, s4, s5, g1, g2, g3⟩ := cn_e hC x0 x1
  have ku := hC.2.2.2.2.2.2.2.2.2.2
  have nm : sbT T ((gE X x).1 + 1) ((gE X x).1 + 1 + ((gE X x).2.1 - ((gE X x).1 + 1))) = nmE T X x := by
    unfold nmE
    rw [show (gE X x).1 + 1 + ((gE X x).2.1 - ((gE X x).1 + 1)) = (gE X x).2.1 by omega]
  have t156 : ¬ (xAc X x = 1 ∧ kyA T X (xAf X x) = ywR) → wX11_isObjectElement_156 x q (xAf X x) (xAc X x) (mNg (clQ e T X fb x q)) S K := fun hn => by
    refine n_o156 hC hE hV hX g hW x0 x1 ?_ hq hid hix hz (fun r S' hO => hK r S' (Or.inr ⟨hn, hO⟩))
    unfold clQ
    by_cases w : q = 0
    · rw [if_pos w]
      exact (clN_ok hV).imp_right (fun y => y.1)
    · rw [if_neg w]
      by_cases w2 : atN T X x ywC = -1
      · rw [if_pos w2]
        exact Or.inl rfl
      · rw [if_neg w2]
        exact (clN_ok hV).imp_right (fun y => y.1)
  have t84 : ¬ (xAc X x = 1 ∧ kyA T X (xAf X x) = ywR) → wX11_isObjectElement_84 x q (xAf X x) (xAc X x) S K := fun hn => by
    have t156 := t156 hn
    unfold wX11_isObjectElement_84
    refine ⟨⟨by omega, by omega⟩, fun w => ⟨x0, by omega, fun _ => ⟨x0, by omega, fun _ => ?_⟩⟩, fun w => ?_⟩
    · rw [e86, e87]
      refine n_clN hC hE hV hX hf (by omega) (by omega) (by omega) ?_
      rw [nm]
      unfold clQ at t156
      rw [if_pos w] at t156
      unfold wX11_isObjectElement_109
      refine ⟨fun l1 l2 l3 l4 l5 l6 S' => l1 = x ∧ l2 = q ∧ l3 = xAf X x ∧ l4 = xAc X x ∧ l5 = mNg (clN e fb (nmE T X x)) ∧ l6 = xAf X x ∧ S' = S, fun _ _ _ _ _ _ _ => 0, ⟨rfl, rfl, rfl, rfl, rfl, rfl, rfl⟩, ?_⟩
      rintro l1 l2 l3 l4 l5 l6 S' ⟨rfl, rfl, rfl, rfl, rfl, rfl, rfl⟩
      exact ⟨⟨by omega, by omega⟩, ⟨by omega, by omega⟩, fun _ => t156, fun _ => ⟨⟨by omega, by omega⟩, fun _ => t156, fun w2 => absurd w w2⟩⟩
    · have q1 : q = 1 := by omega
      unfold clQ at t156
      rw [if_neg w] at t156
      unfold wX11_isObjectElement_109
      refine ⟨fun l1 l2 l3 l4 l5 l6 S' => l1 = x ∧ l2 = q ∧ l3 = xAf X x ∧ l4 = xAc X x ∧ S' = S ∧ xAf X x ≤ l6 ∧ l6 ≤ xAf X x + xAc X x ∧ ((l5 = -2 ∧ ∀ a, xAf X x ≤ a → a < l6 → ¬ kyA T X a = ywC) ∨ (∃ a, xAf X x ≤ a ∧ a < l6 ∧ kyA T X a = ywC ∧ l5 = mNg (clN e fb (vlA X a)))), fun l1 l2 l3 l4 l5 l6 S' => (xAf X x + xAc X x - l6).toNat, ⟨rfl, rfl, rfl, rfl, rfl, Int.le_refl _, by omega, Or.inl ⟨rfl, fun a a0 a1 => by omega⟩⟩, ?_⟩
      rintro l1 l2 l3 l4 l5 l6 S' ⟨rfl, rfl, rfl, rfl, rfl, h0, h1, h2⟩
      refine ⟨⟨by omega, by omega⟩, ⟨by omega, by omega⟩, fun w2 => ?_, fun w2 => ⟨⟨by omega, by omega⟩, fun w3 => absurd w3 w, fun _ => ?_⟩⟩
      · have e6 : l6 = xAf X l1 + xAc X l1 := by omega
        rcases h2 with ⟨rfl, h2⟩ | ⟨a, b1, b2, b3, b4⟩
        · have ea : atN T X l1 ywC = -1 := by
            rcases atN_ok (T := T) (X := X) (x := l1) (L := ywC) with ⟨y, -⟩ | ⟨y1, y2, y3⟩ | y
            · exact y
            · exact absurd y3 (h2 _ y1 (by omega))
            · omega
          rw [if_pos ea] at t156
          exact t156
        · have ea : atN T X l1 ywC = a := by
            rcases atN_ok (T := T) (X := X) (x := l1) (L := ywC) with ⟨-, y⟩ | ⟨y1, y2, y3⟩ | y
            · exact absurd b3 (y a b1 (by omega))
            · exact ku l1 _ a x0 x1 y1 y2 b1 (by omega) (y3.trans b3.symm)
            · omega
          rw [ea, if_neg (by omega)] at t156
          rw [b4]
          exact t156
      · have a0 : 0 ≤ l6 := by omega
        have a1 : l6 < X.2.1.length := by omega
        refine n_key hC (w := 0) (Or.inl rfl) a0 a1 (fun r hr => ?_)
        have w0 : wds 0 = ywC := by decide
        rw [w0] at hr
        unfold wX11_isObjectElement_148
        rcases hr with ⟨rfl, hr⟩ | ⟨rfl, hr⟩
        · refine ⟨⟨by decide, by decide⟩, fun y => absurd y (by decide), fun _ => n_clV hC hE hV hX hf a0 a1 ⟨⟨rfl, rfl, rfl, rfl, rfl, by omega, by omega, Or.inr ⟨l6, h0, by omega, hr, rfl⟩⟩, ?_⟩⟩
          show (xAf X l1 + xAc X l1 - (l6 + 1)).toNat < (xAf X l1 + xAc X l1 - l6).toNat
          omega
        · refine ⟨⟨by decide, by decide⟩, fun _ => ⟨⟨rfl, rfl, rfl, rfl, rfl, by omega, by omega, ?_⟩, ?_⟩, fun y => absurd rfl y⟩
          · rcases h2 with ⟨y, h2⟩ | ⟨a, b1, b2, b3, b4⟩
            · refine Or.inl ⟨y, fun a c0 c1 => ?_⟩
              by_cases qa : a = l6
              · rw [qa]
                exact hr
              · exact h2 a c0 (by omega)
            · exact Or.inr ⟨a, b1, by omega, b3, b4⟩
          · show (xAf X l1 + xAc X l1 - (l6 + 1)).toNat < (xAf X l1 + xAc X l1 - l6).toNat
            omega
  unfold wX11_isObjectElement
  refine fun _ _ => ⟨x0, by omega, fun _ x3 e3 => ⟨x0, by omega, fun _ x8 e8 => ?_⟩⟩
  rw [e90] at e3
  rw [e91] at e8
  rw [e3, e8]
  refine ⟨fun w => t84 (fun y => w y.1), fun w => ?_⟩
  have w := Classical.not_not.mp w
  refine n_key hC (w := 2) (Or.inr (Or.inr rfl)) g1 (by omega) (fun r hr => ?_)
  have w2 : wds 2 = ywR := by decide
  rw [w2] at hr
  rcases hr with ⟨rfl, hr⟩ | ⟨rfl, hr⟩
  rotate_left
  · exact ⟨⟨by decide, by decide⟩, fun _ => t84 (fun y => hr y.2), fun y => absurd rfl y⟩
  · refine ⟨⟨by decide, by decide⟩, fun y => absurd y (by decide), fun _ => ⟨x0, by omega, fun S17 e17 => ?_⟩⟩
    have hC17 : CNm T n X S17 := by
      rw [e17]
      exact hC.nf (NF.pa (by decide))
    have hE17 : mE S17 e := by
      rw [e17]
      exact hE.nf hV (NF.pa (by decide))
    have hf17 : ∀ c, okC e c → S17.2 61 c = fb c := fun c hc => by
      rw [e17, (pA_ne 61 (by decide)).2]
      exact hf c hc
    obtain ⟨⟨-, e86, e87, -, -, -⟩, -⟩ := cn_e hC17 x0 x1
    have fin : ∀ r, ((r = 1 ∧ xKd X x = false ∧ txE X x = [] ∧ (q = 1 ∨ ¬ clN e fb (nmE T X x) = -1)) ∨ (r = 0 ∧ ¬ (xKd X x = false ∧ txE X x = [] ∧ (q = 1 ∨ ¬ clN e fb (nmE T X x) = -1)))) → K r S17 := fun r hO => hK r S17 (Or.inl ⟨w, hr, e17, hO⟩)
    refine n_kid hC17 x0 x1 (fun r2 hr2 => ?_)
    rcases hr2 with ⟨rfl, hk⟩ | ⟨rfl, hk⟩
    · exact ⟨⟨by decide, by decide⟩, fun _ => fin 0 (Or.inr ⟨rfl, fun y => by rw [hk] at y; exact absurd y.1 (by decide)⟩), fun y => absurd (by decide) y⟩
    · refine ⟨⟨by decide, by decide⟩, fun y => absurd rfl y, fun _ => n_tsz hC17 x0 x1 (fun hb => ⟨hb, fun y => fin 0 (Or.inr ⟨rfl, fun y2 => y (by rw [y2.2.1]; rfl)⟩), fun y => ?_⟩)⟩
      have y : txE X x = [] := List.length_eq_zero_iff.mp (by omega)
      refine ⟨fun w3 => fin 1 (Or.inl ⟨rfl, hk, y, Or.inl (by omega)⟩), fun w3 => ⟨x0, by omega, fun _ => ⟨x0, by omega, fun _ => ?_⟩⟩⟩
      rw [e86, e87]
      refine n_clN hC17 hE17 hV hX hf17 (by omega) (by omega) (by omega) ?_
      rw [nm]
      have hcl := clN_ok (fb := fb) hV (L := nmE T X x)
      refine ⟨?_, fun w4 => fin 0 (Or.inr ⟨rfl, fun y2 => ?_⟩), fun w4 => fin 1 (Or.inl ⟨rfl, hk, y, Or.inr (fun y2 => ?_)⟩)⟩
      · unfold mNg
        rcases hcl with y3 | ⟨y3, -⟩
        · rw [if_pos y3]
          exact ⟨by decide, by decide⟩
        · have y4 := y3.1
          have y5 := y3.2
          rw [if_neg (by omega)]
          exact ⟨by omega, by omega⟩
      · rcases y2.2.2 with y3 | y3
        · omega
        · unfold mNg at w4
          rw [if_neg y3] at w4
          rcases hcl with y4 | ⟨y4, -⟩
          · exact y3 y4
          · have := y4.1
            omega
      · unfold mNg at w4
        rw [if_pos y2] at w4
        exact w4 rfl
end NP

