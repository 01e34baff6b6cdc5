/-! WHAT ELEMENTS MEAN: the model: children, steps of a way -/
section NT
variable {S S' : St} {K : Int → St → Prop} {T W : Int → Int} {n x y o f v u c r p a b d i k z w q fl N A B s : Int} {X : Xs} {e : Env} {fb : Int → Int} {M M' M1 : Mm} {L : List Int} {h h' : Hs}
theorem nQ_sb (h1 : a ≤ b) (h2 : c ≤ d) : nQ T a b c d = true ↔ sbT T a b = sbT T c d := by
  rw [nQ_iff, sbT_iff h1 h2]
theorem ord_ocn (h : CNm T n X S) (x0 : 0 ≤ x) (x1 : x < X.1.length) : S.2 89 x = ord T X x := by
  have key : ∀ j : Nat, j ≤ x.toNat → ocn T X.1 x.toNat j = cnt (fun j => decide (xPr X j = xPr X x ∧ nmE T X j = nmE T X x)) j + 1 := fun j => by
    induction j with
    | zero => intro _; rfl
    | succ j ih =>
      intro hj
      have hw := (cn_e h (show (0 : Int) ≤ (j : Int) by omega) (by omega)).2
      have hw2 := (cn_e h x0 x1).2
      have e1 : (X.1.getD j e6) = gE X (j : Int) := by
        unfold gE
        rw [show ((j : Nat) : Int).toNat = j by omega]
      show ocn T X.1 x.toNat j + _ = cnt _ j + _ + 1
      rw [ih (by omega), e1]
      have hq := nQ_sb (T := T) (a := (gE X (j : Int)).1 + 1) (b := (gE X (j : Int)).2.1) (c := (gE X x).1 + 1) (d := (gE X x).2.1) (by omega) (by omega)
      by_cases w : xPr X (j : Int) = xPr X x ∧ nmE T X (j : Int) = nmE T X x
      · rw [if_pos (decide_eq_true w), if_pos ⟨w.1, hq.mpr w.2⟩]
      · have n1 : ¬ ((gE X (j : Int)).2.2.1 = (X.1.getD x.toNat e6).2.2.1 ∧ nQ T ((gE X (j : Int)).1 + 1) (gE X (j : Int)).2.1 ((X.1.getD x.toNat e6).1 + 1) (X.1.getD x.toNat e6).2.1 = true) := fun y => w ⟨y.1, hq.mp y.2⟩
        rw [if_neg n1, if_neg (fun y => w (of_decide_eq_true y))]
        omega
  have hO := h.2.2.2.1 x.toNat (by omega)
  rw [show ((x.toNat : Nat) : Int) = x by omega] at hO
  rw [hO, key _ (Nat.le_refl _)]
  rfl
theorem cnt_mono {P : Int → Bool} : ∀ (m k : Nat), k ≤ m → cnt P k ≤ cnt P m
  | 0, k, h => by
    rw [show k = 0 by omega]
    exact Int.le_refl _
  | m + 1, k, h => by
    by_cases q : k = m + 1
    · rw [q]
      exact Int.le_refl _
    · have := cnt_mono (P := P) m k (by omega)
      show cnt P k ≤ cnt P m + (if P (m : Int) = true then 1 else 0)
      by_cases w : P (m : Int) = true
      · rw [if_pos w]
        omega
      · rw [if_neg w]
        omega
theorem ord_inj (x0 : 0 ≤ x) (y0 : 0 ≤ y) (h1 : xPr X x = xPr X y) (h2 : nmE T X x = nmE T X y) (h3 : ord T X x = ord T X y) : x = y := by
  have key : ∀ x y : Int, 0 ≤ x → x < y → xPr X x = xPr X y → nmE T X x = nmE T X y → ord T X x < ord T X y := fun x y x0 xy h1 h2 => by
    unfold ord
    rw [h1, h2]
    have := cnt_mono (P := fun j => decide (xPr X j = xPr X y ∧ nmE T X j = nmE T X y)) y.toNat (x.toNat + 1) (by omega)
    have e1 : cnt (fun j => decide (xPr X j = xPr X y ∧ nmE T X j = nmE T X y)) (x.toNat + 1) = cnt (fun j => decide (xPr X j = xPr X y ∧ nmE T X j = nmE T X y)) x.toNat + 1 := by
      show cnt _ x.toNat + (if decide (xPr X ((x.toNat : Nat) : Int) = xPr X y ∧ nmE T X ((x.toNat : Nat) : Int) = nmE T X y) = true then 1 else 0) = _
      rw [show ((x.toNat : Nat) : Int) = x by omega, if_pos (decide_eq_true ⟨h1, h2⟩)]
    omega
  rcases (show x = y ∨ x < y ∨ y < x by omega) with w | w | w
  · exact w
  · have := key x y x0 w h1 h2
    omega
  · have := key y x y0 w h1.symm h2.symm
    omega
theorem ord_b (x0 : 0 ≤ x) : 1 ≤ ord T X x ∧ ord T X x ≤ x + 1 := by
  have := cnt_b (P := fun j => decide (xPr X j = xPr X x ∧ nmE T X j = nmE T X x)) x.toNat
  unfold ord
  omega
/-- the piece as a part of the signs -/
theorem n_pAt (hp : pcs S L) (hL : L = sbT (sgV X) A B) (hAB : A ≤ B) (h30 : L.length ≤ 3000) (i0 : 0 ≤ i) (hK : K (if A + i < B then sgV X (A + i) else -1) S) : wX11_pieceAt i S K := by
  have hl : (L.length : Int) = B - A := by
    rw [hL, sbT_len]
    omega
  unfold wX11_pieceAt
  intro _ _
  rw [hp.1]
  refine ⟨fun q => ?_, fun q => ⟨i0, by omega, fun _ => ?_⟩⟩
  · rw [if_neg (by omega)] at hK
    exact hK
  · have := (pcs_at hp i0 (by omega)).1
    rw [this, hL, sbT_get (by omega), show ((i.toNat : Nat) : Int) = i by omega]
    rw [if_pos (by omega)] at hK
    exact hK
theorem n_child (hC : CNm T n X S) (hp : pcs S L) (hL : L = sbT (sgV X) A B) (hAB : A ≤ B) (h30 : L.length ≤ 3000) (y0 : -1 ≤ y) (y1 : y < X.1.length) (a0 : 0 ≤ a) (s0 : 0 ≤ s) (s1 : A + a + s ≤ B) (hr : rng r) (hK : K (mNg (chd T X y (sbT (sgV X) (A + a) (A + a + s)) r)) S) : wX11_childAt (mNg y) a s r S K := by
  have l := hC.len
  have hl : (L.length : Int) = B - A := by
    rw [hL, sbT_len]
    omega
  have ry : rng (mNg y) := by
    unfold mNg
    by_cases q : y = -1
    · rw [if_pos q]
      exact ⟨by decide, by decide⟩
    · rw [if_neg q]
      exact ⟨by omega, by omega⟩
  unfold wX11_childAt
  refine fun _ _ _ _ => ⟨fun l1 l2 l3 l4 l5 l6 S' => l1 = mNg y ∧ l2 = a ∧ l3 = s ∧ l4 = r ∧ S' = S ∧ 0 ≤ l6 ∧ l6 ≤ X.1.length ∧ ((l5 = -2 ∧ ∀ j, 0 ≤ j → j < l6 → ¬ (xPr X j = y ∧ nmE T X j = sbT (sgV X) (A + a) (A + a + s) ∧ ord T X j = r)) ∨ (0 ≤ l5 ∧ l5 < l6 ∧ xPr X l5 = y ∧ nmE T X l5 = sbT (sgV X) (A + a) (A + a + s) ∧ ord T X l5 = r)), fun l1 l2 l3 l4 l5 l6 S' => ((X.1.length : Int) - l6).toNat, ⟨rfl, rfl, rfl, rfl, rfl, by decide, by omega, Or.inl ⟨rfl, fun c c0 c1 => by omega⟩⟩, ?_⟩
  rintro l1 l2 l3 l4 l5 l6 S' ⟨rfl, rfl, rfl, rfl, rfl, h0, h1, h3⟩
  intro _
  rw [l.2.2.2.2.2.1]
  refine ⟨⟨by omega, by omega⟩, fun qq => ?_, fun qq => ⟨h0, by omega, fun _ => ⟨ry, ?_⟩⟩⟩
  · rcases h3 with ⟨rfl, w⟩ | ⟨w1, w2, w3, w4, w5⟩
    · rcases chd_b (T := T) (X := X) (p := y) (r := l4) (L := sbT (sgV X) (A + l2) (A + l2 + l3)) with q | ⟨q1, q2⟩
      · rw [q] at hK
        exact hK
      · exfalso
        unfold chd at q1 q2
        rcases fnd_or (P := fun k => decide (xPr X k = y ∧ nmE T X k = sbT (sgV X) (A + l2) (A + l2 + l3) ∧ ord T X k = l4)) X.1.length 0 with ⟨y1, -⟩ | ⟨y1, y2, y3, -⟩
        · omega
        · rw [decide_eq_true_eq] at y3
          exact w _ q1 (by omega) y3
    · have q : chd T X y (sbT (sgV X) (A + l2) (A + l2 + l3)) l4 = l5 := by
        unfold chd
        have := fnd_one (N := (X.1.length : Int)) (i := l5) (P := fun k => decide (xPr X k = y ∧ nmE T X k = sbT (sgV X) (A + l2) (A + l2 + l3) ∧ ord T X k = l4)) (fun i j i0 i1 j0 j1 hi hj => by
          rw [decide_eq_true_eq] at hi hj
          exact ord_inj i0 j0 (hi.1.trans hj.1.symm) (hi.2.1.trans hj.2.1.symm) (hi.2.2.trans hj.2.2.symm)) w1 (by omega) (decide_eq_true ⟨w3, w4, w5⟩)
        rw [show ((X.1.length : Int)).toNat = X.1.length by omega] at this
        exact this
      rw [q] at hK
      unfold mNg at hK
      rw [if_neg (by omega)] at hK
      exact hK
  · have x1 : l6 < X.1.length := by omega
    obtain ⟨⟨-, e86, e87, e88, -, -⟩, g1, g2, g3, g4, g5, -⟩ := cn_e hC h0 x1
    have e89 := ord_ocn hC h0 x1
    have pe : (S'.2 88 l6 = mNg y ↔ xPr X l6 = y) := by
      rw [e88]
      unfold mNg
      by_cases q1 : xPr X l6 < 0
      · rw [if_pos q1]
        by_cases q2 : y = -1
        · rw [if_pos q2]
          exact ⟨fun _ => by omega, fun _ => rfl⟩
        · rw [if_neg q2]
          exact ⟨fun w => by omega, fun w => by omega⟩
      · rw [if_neg q1]
        by_cases q2 : y = -1
        · rw [if_pos q2]
          exact ⟨fun w => by omega, fun w => by omega⟩
        · rw [if_neg q2]
    have nmL : nmE T X l6 = sbT T ((gE X l6).1 + 1) (gE X l6).2.1 := rfl
    have t111 : ∀ l7, ((l7 = 1 ∧ xPr X l6 = y ∧ nmE T X l6 = sbT (sgV X) (A + l2) (A + l2 + l3) ∧ ord T X l6 = l4) ∨ (l7 = 0 ∧ ¬ (xPr X l6 = y ∧ nmE T X l6 = sbT (sgV X) (A + l2) (A + l2 + l3) ∧ ord T X l6 = l4))) → wX11_childAt_111 (mNg y) l2 l3 l4 l5 l6 l7 S' K (fun ml1 ml2 ml3 ml4 ml5 ml6 T' => (ml1 = mNg y ∧ ml2 = l2 ∧ ml3 = l3 ∧ ml4 = l4 ∧ T' = S' ∧ 0 ≤ ml6 ∧ ml6 ≤ X.1.length ∧ ((ml5 = -2 ∧ ∀ j, 0 ≤ j → j < ml6 → ¬ (xPr X j = y ∧ nmE T X j = sbT (sgV X) (A + l2) (A + l2 + l3) ∧ ord T X j = l4)) ∨ (0 ≤ ml5 ∧ ml5 < ml6 ∧ xPr X ml5 = y ∧ nmE T X ml5 = sbT (sgV X) (A + l2) (A + l2 + l3) ∧ ord T X ml5 = l4))) ∧ ((X.1.length : Int) - ml6).toNat < ((X.1.length : Int) - l6).toNat) := fun l7 hl7 => by
      unfold wX11_childAt_111 wX11_childAt_123
      rcases hl7 with ⟨rfl, w3, w4, w5⟩ | ⟨rfl, hno⟩
      · exact ⟨⟨by decide, by decide⟩, fun w => absurd w (by decide), fun _ => ⟨⟨rfl, rfl, rfl, rfl, rfl, by omega, by omega, Or.inr ⟨h0, by omega, w3, w4, w5⟩⟩, by omega⟩⟩
      · refine ⟨⟨by decide, by decide⟩, fun _ => ⟨⟨rfl, rfl, rfl, rfl, rfl, by omega, by omega, ?_⟩, by omega⟩, fun w => absurd rfl w⟩
        rcases h3 with ⟨w1, w2⟩ | ⟨w1, w2, w3, w4, w5⟩
        · refine Or.inl ⟨w1, fun c c0 c1 => ?_⟩
          by_cases qc : c = l6
          · rw [qc]
            exact hno
          · exact w2 c c0 (by omega)
        · exact Or.inr ⟨w1, by omega, w3, w4, w5⟩
    have t55 : ∀ s0, ((s0 = 1 ∧ xPr X l6 = y ∧ ord T X l6 = l4 ∧ (gE X l6).2.1 - ((gE X l6).1 + 1) = l3) ∨ (s0 = 0 ∧ ¬ (xPr X l6 = y ∧ ord T X l6 = l4 ∧ (gE X l6).2.1 - ((gE X l6).1 + 1) = l3))) → wX11_childAt_55 (mNg y) l2 l3 l4 l5 l6 s0 S' K (fun ml1 ml2 ml3 ml4 ml5 ml6 T' => (ml1 = mNg y ∧ ml2 = l2 ∧ ml3 = l3 ∧ ml4 = l4 ∧ T' = S' ∧ 0 ≤ ml6 ∧ ml6 ≤ X.1.length ∧ ((ml5 = -2 ∧ ∀ j, 0 ≤ j → j < ml6 → ¬ (xPr X j = y ∧ nmE T X j = sbT (sgV X) (A + l2) (A + l2 + l3) ∧ ord T X j = l4)) ∨ (0 ≤ ml5 ∧ ml5 < ml6 ∧ xPr X ml5 = y ∧ nmE T X ml5 = sbT (sgV X) (A + l2) (A + l2 + l3) ∧ ord T X ml5 = l4))) ∧ ((X.1.length : Int) - ml6).toNat < ((X.1.length : Int) - l6).toNat) := fun s0' hs0 => by
      unfold wX11_childAt_55
      refine ⟨fun m1 m2 m3 m4 m5 m6 m7 m8 S2 => m1 = mNg y ∧ m2 = l2 ∧ m3 = l3 ∧ m4 = l4 ∧ m5 = l5 ∧ m6 = l6 ∧ S2 = S' ∧ 0 ≤ m8 ∧ m8 ≤ l3 ∧ ((m7 = 1 ∧ (xPr X l6 = y ∧ ord T X l6 = l4 ∧ (gE X l6).2.1 - ((gE X l6).1 + 1) = l3) ∧ ∀ i, 0 ≤ i → i < m8 → T ((gE X l6).1 + 1 + i) = sgV X (A + l2 + i)) ∨ (m7 = 0 ∧ ¬ (xPr X l6 = y ∧ nmE T X l6 = sbT (sgV X) (A + l2) (A + l2 + l3) ∧ ord T X l6 = l4))), fun m1 m2 m3 m4 m5 m6 m7 m8 S2 => (l3 - m8).toNat, ⟨rfl, rfl, rfl, rfl, rfl, rfl, rfl, by decide, s0, ?_⟩, ?_⟩
      · rcases hs0 with ⟨w1, w2⟩ | ⟨w1, w2⟩
        · exact Or.inl ⟨w1, w2, fun i i0 i1 => by omega⟩
        · refine Or.inr ⟨w1, fun q => w2 ⟨q.1, q.2.2, ?_⟩⟩
          have := q.2.1
          rw [nmL, sbT_iff (by omega) (by omega)] at this
          omega
      · rintro m1 m2 m3 m4 m5 m6 m7 m8 S2 ⟨rfl, rfl, rfl, rfl, rfl, rfl, rfl, i0, i1, i2⟩
        have r7 : rng m7 := by
          rcases i2 with ⟨w, -⟩ | ⟨w, -⟩
          · rw [w]
            exact ⟨by decide, by decide⟩
          · rw [w]
            exact ⟨by decide, by decide⟩
        refine ⟨⟨by omega, by omega⟩, ⟨by omega, by omega⟩, fun q5 => t111 m7 ?_, fun q5 => ⟨r7, fun q6 => t111 m7 ?_, fun q6 => ⟨h0, by omega, fun _ => ?_⟩⟩⟩
        · rcases i2 with ⟨w1, ⟨w2, w3, w4⟩, w5⟩ | w
          · refine Or.inl ⟨w1, w2, ?_, w3⟩
            rw [nmL, sbT_iff (by omega) (by omega)]
            exact ⟨by omega, fun i j0 j1 => w5 i j0 (by omega)⟩
          · exact Or.inr w
        · rcases i2 with ⟨w1, -⟩ | w
          · omega
          · exact Or.inr w
        · rcases i2 with ⟨rfl, w2, w3⟩ | ⟨w, -⟩
          · rw [e86]
            have hd := hC.1.2.1.2 ((gE X m6).1 + 1 + m8) (by omega) (by omega)
            have hv := (pcs_at hp (show 0 ≤ m2 + m8 by omega) (by omega)).1
            rw [hL, sbT_get (by omega), show (((m2 + m8).toNat : Nat) : Int) = m2 + m8 by omega, show A + (m2 + m8) = A + m2 + m8 by omega] at hv
            rw [hd, hv]
            unfold wX11_childAt_103
            refine ⟨by omega, by omega, fun _ => ⟨by omega, by omega, fun _ => ⟨fun w4 => ⟨⟨rfl, rfl, rfl, rfl, rfl, rfl, rfl, by omega, by omega, Or.inr ⟨rfl, fun q7 => w4 ?_⟩⟩, ?_⟩, fun w4 => ⟨⟨rfl, rfl, rfl, rfl, rfl, rfl, rfl, by omega, by omega, Or.inl ⟨rfl, w2, fun i j0 j1 => ?_⟩⟩, ?_⟩⟩⟩⟩
            · have := q7.2.1
              rw [nmL, sbT_iff (by omega) (by omega)] at this
              exact this.2 m8 i0 (by omega)
            · show (m3 - (m8 + 1)).toNat < (m3 - m8).toNat
              omega
            · by_cases q8 : i = m8
              · rw [q8]
                exact Classical.not_not.mp w4
              · exact w3 i j0 (by omega)
            · show (m3 - (m8 + 1)).toNat < (m3 - m8).toNat
              omega
          · exact absurd w q6
    unfold wX11_childAt_54
    refine ⟨fun w => t55 0 (Or.inr ⟨rfl, fun q => w (pe.mpr q.1)⟩), fun w => ⟨h0, by omega, fun _ => ?_⟩⟩
    have w := pe.mp (Classical.not_not.mp w)
    rw [e89]
    refine ⟨hr, fun w2 => t55 0 (Or.inr ⟨rfl, fun q => w2 q.2.1⟩), fun w2 => ⟨h0, by omega, fun _ => ?_⟩⟩
    rw [e87]
    exact ⟨⟨by omega, by omega⟩, fun w3 => t55 0 (Or.inr ⟨rfl, fun q => w3 q.2.2⟩), fun w3 => t55 1 (Or.inl ⟨rfl, w, Classical.not_not.mp w2, Classical.not_not.mp w3⟩)⟩
end NT

