/-! WHAT ELEMENTS MEAN: the model's leaves: fields, keys, texts -/
section NM
variable {S S' : St} {K : Int → St → Prop} {T W : Int → Int} {n x o f v u c r p a b d i k z w : Int} {X : Xs} {e : Env} {fb : Int → Int} {M M' : Mm} {L : List Int}
def fdM (e : Env) (c : Int) (L : List Int) : Int := fnd (fun f => decide (eM e c f = 0 ∧ eL e (6 + c * 4 + f) = L)) (eF e c).toNat 0
/-- fields of a kind (q) with a name -/
theorem n_fdQ {q : Int → Bool} (h : CNm T n X S) (hE : mE S e) (hV : EV e) (hX : XE e) (hc : okC e c) (hv : iv 0 1 v) (hq : ∀ f, okF e c f → (q f = true ↔ if v = 0 then eM e c f = 0 else (eD e c f ≤ 1 ∧ eM e c f = 1))) (a0 : 0 ≤ a) (z0 : 0 ≤ z) (z1 : a + z ≤ n) (hK : K (mNg (fnd (fun f => decide (q f = true ∧ eL e (6 + c * 4 + f) = sbT T a (a + z))) (eF e c).toNat 0)) S) : wX11_fieldNamed c a z v S K := by
  have h6 := hV.2.1
  have h4 := hV.2.2.2.1 c hc
  have hF := hE.2.2.2.2.2.1 c hc
  have hn := h.len.1
  have hc0 := hc.1
  have hc1 := hc.2
  unfold wX11_fieldNamed
  refine fun _ _ _ _ => ⟨fun l1 l2 l3 l4 l5 l6 S' => l1 = c ∧ l2 = a ∧ l3 = z ∧ l4 = v ∧ S' = S ∧ 0 ≤ l6 ∧ l6 ≤ eF e c ∧ ((l5 = -2 ∧ ∀ f, 0 ≤ f → f < l6 → ¬ (q f = true ∧ eL e (6 + c * 4 + f) = sbT T a (a + z))) ∨ (0 ≤ l5 ∧ l5 < l6 ∧ q l5 = true ∧ eL e (6 + c * 4 + l5) = sbT T a (a + z))), fun l1 l2 l3 l4 l5 l6 S' => (eF e c - l6).toNat, ⟨rfl, rfl, rfl, rfl, rfl, by decide, by omega, Or.inl ⟨rfl, fun c c0 c1 => by omega⟩⟩, ?_⟩
  rintro l1 l2 l3 l4 l5 l6 S' ⟨rfl, rfl, rfl, rfl, rfl, h0, h1, h3⟩
  refine ⟨by omega, by omega, fun _ => ?_⟩
  rw [hF]
  refine ⟨⟨by omega, by omega⟩, fun qq => ?_, fun qq x5 e5 => ?_⟩
  · rcases h3 with ⟨rfl, w⟩ | ⟨w1, w2, w3, w4⟩
    · rcases fnd_or (P := fun f => decide (q f = true ∧ eL e (6 + l1 * 4 + f) = sbT T l2 (l2 + l3))) (eF e l1).toNat 0 with ⟨y, -⟩ | ⟨y1, y2, y3, -⟩
      · rw [y] at hK
        exact hK
      · rw [decide_eq_true_eq] at y3
        exact absurd y3 (w _ y1 (by omega))
    · rw [fnd_one (N := eF e l1) (i := l5) (fun i j i0 i1 j0 j1 hi hj => by
        rw [decide_eq_true_eq] at hi hj
        exact hX.2.2.1 l1 i j ⟨hc, i0, i1⟩ ⟨hc, j0, j1⟩ (hi.2.trans hj.2.symm)) w1 (by omega) (decide_eq_true ⟨w3, w4⟩)] at hK
      unfold mNg at hK
      rw [if_neg (by omega)] at hK
      exact hK
  · have hf : okF e l1 l6 := ⟨hc, h0, by omega⟩
    have f4 := okF4 hV hf
    obtain ⟨e59, e60⟩ := hE.2.2.2.2.2.2.1 l1 l6 hf
    have hD := hV.2.2.2.2.1 _ _ hf
    have no : ¬ (q l6 = true ∧ eL e (6 + l1 * 4 + l6) = sbT T l2 (l2 + l3)) → wX11_fieldNamed_101 l1 l2 l3 l4 l5 l6 S' K (fun ml1 ml2 ml3 ml4 ml5 ml6 T' => (ml1 = l1 ∧ ml2 = l2 ∧ ml3 = l3 ∧ ml4 = l4 ∧ T' = S' ∧ 0 ≤ ml6 ∧ ml6 ≤ eF e l1 ∧ ((ml5 = -2 ∧ ∀ f, 0 ≤ f → f < ml6 → ¬ (q f = true ∧ eL e (6 + l1 * 4 + f) = sbT T l2 (l2 + l3))) ∨ (0 ≤ ml5 ∧ ml5 < ml6 ∧ q ml5 = true ∧ eL e (6 + l1 * 4 + ml5) = sbT T l2 (l2 + l3)))) ∧ (eF e l1 - ml6).toNat < (eF e l1 - l6).toNat) := fun hno => by
      unfold wX11_fieldNamed_101 wX11_fieldNamed_103
      refine ⟨⟨rfl, rfl, rfl, rfl, rfl, by omega, by omega, ?_⟩, by omega⟩
      rcases h3 with ⟨w1, w2⟩ | ⟨w1, w2, w3, w4⟩
      · refine Or.inl ⟨w1, fun c c0 c1 => ?_⟩
        by_cases qc : c = l6
        · rw [qc]
          exact hno
        · exact w2 c c0 (by omega)
      · exact Or.inr ⟨w1, by omega, w3, w4⟩
    have t75 : ∀ s0, ((s0 = 1 ∧ q l6 = true) ∨ (s0 = 0 ∧ ¬ q l6 = true)) → wX11_fieldNamed_75 l1 l2 l3 l4 l5 l6 x5 s0 S' K (fun ml1 ml2 ml3 ml4 ml5 ml6 T' => (ml1 = l1 ∧ ml2 = l2 ∧ ml3 = l3 ∧ ml4 = l4 ∧ T' = S' ∧ 0 ≤ ml6 ∧ ml6 ≤ eF e l1 ∧ ((ml5 = -2 ∧ ∀ f, 0 ≤ f → f < ml6 → ¬ (q f = true ∧ eL e (6 + l1 * 4 + f) = sbT T l2 (l2 + l3))) ∨ (0 ≤ ml5 ∧ ml5 < ml6 ∧ q ml5 = true ∧ eL e (6 + l1 * 4 + ml5) = sbT T l2 (l2 + l3)))) ∧ (eF e l1 - ml6).toNat < (eF e l1 - l6).toNat) := fun s0 hs => by
      unfold wX11_fieldNamed_75
      rcases hs with ⟨rfl, hs⟩ | ⟨rfl, hs⟩
      · refine ⟨⟨by decide, by decide⟩, fun w => absurd w (by decide), fun _ => ⟨⟨by omega, by omega⟩, ⟨by omega, by omega⟩, ⟨by omega, by omega⟩, ?_⟩⟩
        rw [e5, show 6 + (4 * l1 + l6) = 6 + l1 * 4 + l6 by omega]
        refine n_named h hE hV hX (Or.inr ⟨l1, l6, hf, rfl⟩) a0 z0 z1 (fun r hr => ?_)
        rcases hr with ⟨rfl, hr⟩ | ⟨rfl, hr⟩
        · refine ⟨⟨by decide, by decide⟩, fun w => absurd w (by decide), fun _ => ?_⟩
          unfold wX11_fieldNamed_103
          exact ⟨⟨rfl, rfl, rfl, rfl, rfl, by omega, by omega, Or.inr ⟨h0, by omega, hs, hr.symm⟩⟩, by omega⟩
        · exact ⟨⟨by decide, by decide⟩, fun _ => no (fun q2 => hr q2.2.symm), fun w => absurd rfl w⟩
      · exact ⟨⟨by decide, by decide⟩, fun _ => no (fun q2 => hs q2.1), fun w => absurd rfl w⟩
    have hq6 := hq l6 hf
    rw [e5, e59, e60]
    rw [e5] at t75
    refine ⟨⟨by omega, by omega⟩, fun w => ⟨by omega, by omega, fun _ => ⟨fun w2 => ?_, fun w2 => ?_⟩⟩, fun w => ⟨by omega, by omega, fun _ => ⟨fun w2 => ?_, fun w2 => ⟨by omega, by omega, fun _ => ⟨fun w3 => ?_, fun w3 => ?_⟩⟩⟩⟩⟩
    · rw [if_pos w] at hq6
      exact t75 0 (Or.inr ⟨rfl, fun y => w2 (hq6.mp y)⟩)
    · rw [if_pos w] at hq6
      exact t75 1 (Or.inl ⟨rfl, hq6.mpr (Classical.not_not.mp w2)⟩)
    · rw [if_neg w] at hq6
      exact t75 0 (Or.inr ⟨rfl, fun y => by have := (hq6.mp y).1; omega⟩)
    · rw [if_neg w] at hq6
      exact t75 0 (Or.inr ⟨rfl, fun y => by have := (hq6.mp y).2; omega⟩)
    · rw [if_neg w] at hq6
      exact t75 1 (Or.inl ⟨rfl, hq6.mpr ⟨by omega, by omega⟩⟩)
theorem n_fdN (h : CNm T n X S) (hE : mE S e) (hV : EV e) (hX : XE e) (hc : okC e c) (a0 : 0 ≤ a) (z0 : 0 ≤ z) (z1 : a + z ≤ n) (hK : K (mNg (fdN e 1 c (sbT T a (a + z)))) S) : wX11_fieldNamed c a z 1 S K := by
  refine n_fdQ (q := fun f => decide (isA e c f = 1)) h hE hV hX hc ⟨by decide, by decide⟩ (fun f hf => ?_) a0 z0 z1 ?_
  · rw [if_neg (by decide), decide_eq_true_eq]
    unfold isA
    by_cases q : eD e c f ≤ 1 ∧ eM e c f = 1
    · rw [if_pos q]
      exact ⟨fun _ => q, fun _ => rfl⟩
    · rw [if_neg q]
      exact ⟨fun w => absurd w (by decide), fun w => absurd w q⟩
  · simp only [decide_eq_true_eq]
    exact hK
theorem n_fdM (h : CNm T n X S) (hE : mE S e) (hV : EV e) (hX : XE e) (hc : okC e c) (a0 : 0 ≤ a) (z0 : 0 ≤ z) (z1 : a + z ≤ n) (hK : K (mNg (fdM e c (sbT T a (a + z)))) S) : wX11_fieldNamed c a z 0 S K := by
  refine n_fdQ (q := fun f => decide (eM e c f = 0)) h hE hV hX hc ⟨by decide, by decide⟩ (fun f hf => ?_) a0 z0 z1 ?_
  · rw [if_pos rfl, decide_eq_true_eq]
  · simp only [decide_eq_true_eq]
    exact hK
theorem n_imp (hE : mE S e) (hV : EV e) (hX : XE e) (hc : okC e c) (hK : K (mNg (imp e c)) S) : wX11_implicitOf c S K := by
  have h6 := hV.2.1
  have h4 := hV.2.2.2.1 c hc
  have hF := hE.2.2.2.2.2.1 c hc
  have hc0 := hc.1
  have hc1 := hc.2
  unfold wX11_implicitOf
  refine fun _ => ⟨fun l1 l2 l3 S' => l1 = c ∧ S' = S ∧ 0 ≤ l3 ∧ l3 ≤ eF e c ∧ ((l2 = -2 ∧ ∀ f, 0 ≤ f → f < l3 → ¬ (eD e c f = 3 ∧ eM e c f = 1)) ∨ (0 ≤ l2 ∧ l2 < l3 ∧ eD e c l2 = 3 ∧ eM e c l2 = 1)), fun l1 l2 l3 S' => (eF e c - l3).toNat, ⟨rfl, rfl, by decide, by omega, Or.inl ⟨rfl, fun c c0 c1 => by omega⟩⟩, ?_⟩
  rintro l1 l2 l3 S' ⟨rfl, rfl, h0, h1, h3⟩
  refine ⟨by omega, by omega, fun _ => ?_⟩
  rw [hF]
  refine ⟨⟨by omega, by omega⟩, fun qq => ?_, fun qq => ⟨by omega, by omega, fun _ => ?_⟩⟩
  · rcases h3 with ⟨rfl, w⟩ | ⟨w1, w2, w3, w4⟩
    · rcases imp_ok hV hc with y | ⟨y1, y2, y3⟩
      · rw [y] at hK
        exact hK
      · exact absurd ⟨y2, y3⟩ (w _ y1.2.1 (by have := y1.2.2; omega))
    · have y : imp e l1 = l2 := by
        unfold imp
        exact fnd_one (N := eF e l1) (i := l2) (fun i j i0 i1 j0 j1 hi hj => by
          rw [decide_eq_true_eq] at hi hj
          exact hX.2.2.2.2.1 l1 i j ⟨hc, i0, i1⟩ ⟨hc, j0, j1⟩ hi.1 hi.2 hj.1 hj.2) w1 (by omega) (decide_eq_true ⟨w3, w4⟩)
      rw [y] at hK
      unfold mNg at hK
      rw [if_neg (by omega)] at hK
      exact hK
  · have hf : okF e l1 l3 := ⟨hc, h0, by omega⟩
    obtain ⟨e59, e60⟩ := hE.2.2.2.2.2.2.1 l1 l3 hf
    have hM := (hV.2.2.2.2.1 _ _ hf).2
    have no : ¬ (eD e l1 l3 = 3 ∧ eM e l1 l3 = 1) → wX11_implicitOf_46 l1 l2 l3 S' K (fun ml1 ml2 ml3 T' => (ml1 = l1 ∧ T' = S' ∧ 0 ≤ ml3 ∧ ml3 ≤ eF e l1 ∧ ((ml2 = -2 ∧ ∀ f, 0 ≤ f → f < ml3 → ¬ (eD e l1 f = 3 ∧ eM e l1 f = 1)) ∨ (0 ≤ ml2 ∧ ml2 < ml3 ∧ eD e l1 ml2 = 3 ∧ eM e l1 ml2 = 1))) ∧ (eF e l1 - ml3).toNat < (eF e l1 - l3).toNat) := fun hno => by
      unfold wX11_implicitOf_46 wX11_implicitOf_47
      refine ⟨⟨rfl, rfl, by omega, by omega, ?_⟩, by omega⟩
      rcases h3 with ⟨w1, w2⟩ | ⟨w1, w2, w3, w4⟩
      · refine Or.inl ⟨w1, fun c c0 c1 => ?_⟩
        by_cases qc : c = l3
        · rw [qc]
          exact hno
        · exact w2 c c0 (by omega)
      · exact Or.inr ⟨w1, by omega, w3, w4⟩
    rw [e59, e60]
    refine ⟨fun w => no (fun q => w q.1), fun w => ⟨by omega, by omega, fun _ => ⟨fun w2 => no (fun q => by have := q.2; omega), fun w2 => ?_⟩⟩⟩
    unfold wX11_implicitOf_47
    refine ⟨⟨rfl, rfl, by omega, by omega, Or.inr ⟨h0, by omega, Classical.not_not.mp w, by omega⟩⟩, ?_⟩
    show (eF e l1 - (l3 + 1)).toNat < (eF e l1 - l3).toNat
    omega
def wds (w : Int) : List Int := if w = 0 then ywC else if w = 1 then ywI else ywR
theorem n_wd (hw : w = 0 ∨ w = 1 ∨ w = 2) (i0 : 0 ≤ i) (hK : iv 0 65535 ((wds w).getD i.toNat 0) → K ((wds w).getD i.toNat 0) S) : wX11_wordSign w i S K := by
  have hb : iv 0 65535 ((wds w).getD i.toNat 0) := by
    have t : ∀ (L : List Int), (∀ u ∈ L, iv 0 65535 u) → iv 0 65535 (L.getD i.toNat 0) := fun L hL => by
      by_cases q : i.toNat < L.length
      · rw [List.getD_eq_getElem?_getD, List.getElem?_eq_getElem q]
        exact hL _ (List.getElem_mem q)
      · rw [List.getD_eq_getElem?_getD, List.getElem?_eq_none (by omega)]
        exact ⟨by decide, by decide⟩
    refine t _ ?_
    rcases hw with rfl | rfl | rfl <;> decide
  have hK := hK hb
  have big : ∀ (L : List Int) (m : Nat), L.length = m → (m : Int) ≤ i → L.getD i.toNat 0 = 0 := fun L m h1 h2 => by
    rw [List.getD_eq_getElem?_getD, List.getElem?_eq_none (by omega)]
    rfl
  have at1 : ∀ (j : Nat) (y : Int), i = j → (wds w).getD j 0 = y → K y S := fun j y h1 h2 => by
    rw [h1, show ((j : Nat) : Int).toNat = j by omega, h2] at hK
    exact hK
  unfold wX11_wordSign
  intro _ _
  rcases hw with rfl | rfl | rfl
  · refine ⟨fun q => absurd rfl q, fun _ => ⟨fun q0 => ⟨fun q1 => ⟨fun q2 => ⟨fun q5 => ?_, fun q5 => ?_⟩, fun q2 => at1 2 97 (by omega) (by decide)⟩, fun q1 => at1 1 108 (by omega) (by decide)⟩, fun q0 => at1 0 99 (by omega) (by decide)⟩⟩
    · rw [big (wds 0) 5 (by decide) (by omega)] at hK
      exact hK
    · rcases (show i = 3 ∨ i = 4 by omega) with q | q
      · exact at1 3 115 q (by decide)
      · exact at1 4 115 q (by decide)
  · refine ⟨fun _ => ⟨fun q => absurd rfl q, fun _ => ⟨fun q0 => ⟨fun q1 => ?_, fun q1 => at1 1 100 (by omega) (by decide)⟩, fun q0 => at1 0 105 (by omega) (by decide)⟩⟩, fun q => absurd (by decide) q⟩
    rw [big (wds 1) 2 (by decide) (by omega)] at hK
    exact hK
  · refine ⟨fun _ => ⟨fun _ => ⟨fun q => ?_, fun q => at1 0 114 q (by decide), fun q => at1 1 101 q (by decide), fun q => at1 2 102 q (by decide), fun q => at1 3 101 q (by decide), fun q => at1 4 114 q (by decide), fun q => at1 5 101 q (by decide), fun q => at1 6 110 q (by decide), fun q => at1 7 99 q (by decide), fun q => at1 8 101 q (by decide)⟩, fun q => absurd (by decide) q⟩, fun q => absurd (by decide) q⟩
    rw [big (wds 2) 9 (by decide) (by omega)] at hK
    exact hK
theorem n_key (h : CNm T n X S) (hw : w = 0 ∨ w = 1 ∨ w = 2) (a0 : 0 ≤ a) (a1 : a < X.2.1.length) (hK : ∀ r, (r = 1 ∧ kyA T X a = wds w) ∨ (r = 0 ∧ ¬ kyA T X a = wds w) → K r S) : wX11_isKey a w S K := by
  have l := h.len
  obtain ⟨⟨e92, e93, -, -⟩, k1, k2, k3, -, -, -⟩ := cn_a h a0 a1
  obtain ⟨⟨hT, hD, hs⟩, -⟩ := h
  have hky : kyA T X a = sbT T (gAt X a).1 ((gAt X a).1 + ((gAt X a).2.1 - (gAt X a).1)) := by
    unfold kyA
    rw [show (gAt X a).1 + ((gAt X a).2.1 - (gAt X a).1) = (gAt X a).2.1 by omega]
  rw [hky] at hK
  obtain ⟨z, hz⟩ : ∃ z, z = (gAt X a).2.1 - (gAt X a).1 := ⟨_, rfl⟩
  obtain ⟨g, hg⟩ : ∃ g, g = (gAt X a).1 := ⟨_, rfl⟩
  rw [← hz, ← hg] at hK
  rw [← hz] at e93
  rw [← hg] at e92
  have z0 : 0 < z := by omega
  have g0 : 0 ≤ g := by omega
  have z1 : g + z ≤ n := by omega
  have cmp := cmpL (L := wds w) (W := T) (a := g) (z := z) (by rcases hw with rfl | rfl | rfl <;> decide) (fun i i0 i1 => by have := isSn_b (hs (g + i) (by omega) (by omega)); omega) (by omega)
  have t18 : ∀ s0, (s0 = 1 ∧ (wds w).getD z.toNat 0 = 0) ∨ (s0 = 0 ∧ ¬ (wds w).getD z.toNat 0 = 0) → wX11_isKey_18 a w s0 S K := fun s0 hs0 => by
    unfold wX11_isKey_18
    refine ⟨fun l1 l2 l3 l4 S' => l1 = a ∧ l2 = w ∧ S' = S ∧ 0 ≤ l4 ∧ l4 ≤ z ∧ ((l3 = 1 ∧ (wds w).getD z.toNat 0 = 0 ∧ ∀ i, 0 ≤ i → i < l4 → T (g + i) = (wds w).getD i.toNat 0) ∨ (l3 = 0 ∧ ¬ sbT T g (g + z) = wds w)), fun l1 l2 l3 l4 S' => (z - l4).toNat, ⟨rfl, rfl, rfl, by decide, by omega, ?_⟩, ?_⟩
    · rcases hs0 with ⟨w1, w2⟩ | ⟨w1, w2⟩
      · exact Or.inl ⟨w1, w2, fun i i0 i1 => by omega⟩
      · exact Or.inr ⟨w1, fun q => w2 (cmp.mpr q).1⟩
    · rintro l1 l2 l3 l4 S' ⟨rfl, rfl, rfl, h0, h1, h2⟩
      have r4 : iv 0 1 l3 := by
        rcases h2 with ⟨w, -⟩ | ⟨w, -⟩
        · rw [w]
          exact ⟨by decide, by decide⟩
        · rw [w]
          exact ⟨by decide, by decide⟩
      refine ⟨a0, by omega, fun _ => ?_⟩
      rw [e93, e92]
      refine ⟨⟨by omega, by omega⟩, fun q => ⟨r4, ?_⟩, fun q => ⟨⟨by omega, by omega⟩, fun q2 => ⟨r4, ?_⟩, fun q2 => ⟨a0, by omega, fun _ => ⟨by omega, by omega, fun _ => ⟨⟨by omega, by omega⟩, n_wd hw h0 (fun hb => ?_)⟩⟩⟩⟩⟩
      · rcases h2 with ⟨rfl, w1, w2⟩ | ⟨rfl, w⟩
        · exact hK 1 (Or.inl ⟨rfl, cmp.mp ⟨w1, fun i i0 i1 => w2 i i0 (by omega)⟩⟩)
        · exact hK 0 (Or.inr ⟨rfl, w⟩)
      · rcases h2 with ⟨w, -⟩ | ⟨rfl, w⟩
        · omega
        · exact hK 0 (Or.inr ⟨rfl, w⟩)
      · rcases h2 with ⟨rfl, w1, w2⟩ | ⟨w, -⟩
        · have hd := hD.2 (g + l4) (by omega) (by omega)
          rw [hd]
          unfold wX11_isKey_65
          refine ⟨⟨by omega, by omega⟩, fun w3 => ⟨⟨rfl, rfl, rfl, by omega, by omega, Or.inr ⟨rfl, fun q5 => w3 ((cmp.mpr q5).2 l4 h0 (by omega))⟩⟩, ?_⟩, fun w3 => ⟨⟨rfl, rfl, rfl, by omega, by omega, Or.inl ⟨rfl, w1, fun i i0 i1 => ?_⟩⟩, ?_⟩⟩
          · show (z - (l4 + 1)).toNat < (z - l4).toNat
            omega
          · by_cases q6 : i = l4
            · rw [q6]
              exact Classical.not_not.mp w3
            · exact w2 i i0 (by omega)
          · show (z - (l4 + 1)).toNat < (z - l4).toNat
            omega
        · exact absurd w q2
  unfold wX11_isKey
  refine fun _ _ => ⟨a0, by omega, fun _ => ?_⟩
  rw [e93]
  exact n_wd hw (by omega) (fun hb => ⟨⟨by omega, by omega⟩, fun q => t18 0 (Or.inr ⟨rfl, q⟩), fun q => t18 1 (Or.inl ⟨rfl, Classical.not_not.mp q⟩)⟩)
theorem n_kid (h : CNm T n X S) (x0 : 0 ≤ x) (x1 : x < X.1.length) (hK : ∀ r, (r = 1 ∧ xKd X x = true) ∨ (r = 0 ∧ xKd X x = false) → K r S) : wX11_hasChild x S K := by
  have l := h.len
  have hq := h.2.2.2.2.2.2.2.1 x x0 x1
  unfold wX11_hasChild
  intro _ _
  rw [l.2.2.2.2.2.1]
  have no : ¬ (x + 1 < X.1.length ∧ xPr X (x + 1) = x) → K 0 S := fun w => hK 0 (Or.inr ⟨rfl, by
    cases hd : xKd X x with
    | false => rfl
    | true => exact absurd (hq.mp hd) w⟩)
  refine ⟨⟨by omega, by omega⟩, fun q => no (fun w => by omega), fun q => ⟨by omega, by omega, fun _ => ?_⟩⟩
  have e88 := (cn_e h (show 0 ≤ x + 1 by omega) (by omega)).1.2.2.2.1
  have hp := h.2.2.2.2.2.2.2.2.1 (x + 1) (by omega) (by omega)
  rw [e88, if_neg (by omega)]
  exact ⟨fun w => no (fun y => w y.2), fun w => hK 1 (Or.inl ⟨rfl, hq.mpr ⟨by omega, Classical.not_not.mp w⟩⟩)⟩
theorem flt_snoc {V : List (Int × Int)} {k : Nat} {P : Int × Int → Bool} (hk : k < V.length) : (V.take (k + 1)).filter P = (V.take k).filter P ++ (if P (V.getD k (0, 0)) = true then [V.getD k (0, 0)] else []) := by
  rw [List.take_succ, List.getElem?_eq_getElem hk, List.filter_append]
  have e1 : V.getD k (0, 0) = V[k] := by
    rw [List.getD_eq_getElem?_getD, List.getElem?_eq_getElem hk]
    rfl
  rw [e1]
  show _ ++ [V[k]].filter P = _
  by_cases q : P V[k] = true
  · rw [List.filter_cons_of_pos q, if_pos q]
    rfl
  · rw [List.filter_cons_of_neg q, if_neg q]
    rfl
theorem n_tsz (h : CNm T n X S) (x0 : 0 ≤ x) (x1 : x < X.1.length) (hK : rng ((txE X x).length : Int) → K (txE X x).length S) : wX11_textSize x S K := by
  have l := h.len
  unfold wX11_textSize
  refine fun _ => ⟨fun l1 l2 l3 S' => l1 = x ∧ S' = S ∧ 0 ≤ l3 ∧ l3 ≤ X.2.2.length ∧ l2 = ((X.2.2.take l3.toNat).filter (fun u => decide (u.2 = x))).length, fun l1 l2 l3 S' => ((X.2.2.length : Int) - l3).toNat, ⟨rfl, rfl, by decide, by omega, rfl⟩, ?_⟩
  rintro l1 l2 l3 S' ⟨rfl, rfl, h0, h1, h2⟩
  intro _
  rw [l.2.2.2.2.2.2.2]
  refine ⟨⟨by omega, by omega⟩, fun q => ?_, fun q => ⟨h0, by omega, fun _ => ?_⟩⟩
  · rw [List.take_of_length_le (by omega)] at h2
    have e1 : l2 = ((txE X l1).length : Int) := by
      rw [h2]
      unfold txE
      rw [List.length_map]
    have b1 : (txE X l1).length ≤ X.2.2.length := by
      unfold txE
      rw [List.length_map]
      exact List.length_filter_le _ _
    rw [e1]
    exact hK ⟨by omega, by omega⟩
  · have e97 := (cn_v h h0 (by omega)).2.1
    have sn := flt_snoc (V := X.2.2) (k := l3.toNat) (P := fun u => decide (u.2 = l1)) (by omega)
    rw [e97]
    unfold wX11_textSize_29
    refine ⟨⟨by omega, by omega⟩, fun w => ⟨⟨rfl, rfl, by omega, by omega, ?_⟩, ?_⟩, fun w => ⟨⟨rfl, rfl, by omega, by omega, ?_⟩, ?_⟩⟩
    · rw [show (l3 + 1).toNat = l3.toNat + 1 by omega, sn, if_neg (by rw [decide_eq_true_eq]; exact w), List.append_nil]
      exact h2
    · show ((X.2.2.length : Int) - (l3 + 1)).toNat < ((X.2.2.length : Int) - l3).toNat
      omega
    · rw [show (l3 + 1).toNat = l3.toNat + 1 by omega, sn, if_pos (decide_eq_true (Classical.not_not.mp w)), List.length_append, h2]
      rfl
    · show ((X.2.2.length : Int) - (l3 + 1)).toNat < ((X.2.2.length : Int) - l3).toNat
      omega
theorem n_blk (h : CNm T n X S) (x0 : 0 ≤ x) (x1 : x < X.1.length) (hK : ∀ r, (r = 1 ∧ xSd X x = false) ∨ (r = 0 ∧ xSd X x = true) → K r S) : wX11_isBlankWithin x S K := by
  have l := h.len
  unfold wX11_isBlankWithin
  refine fun _ => ⟨fun l1 l2 l3 S' => l1 = x ∧ S' = S ∧ 0 ≤ l3 ∧ l3 ≤ X.2.2.length ∧ ((l2 = 1 ∧ ∀ i : Nat, i < l3 → ((X.2.2.getD i (0, 0)).2 = x → isBl (X.2.2.getD i (0, 0)).1)) ∨ (l2 = 0 ∧ xSd X x = true)), fun l1 l2 l3 S' => ((X.2.2.length : Int) - l3).toNat, ⟨rfl, rfl, by decide, by omega, Or.inl ⟨rfl, fun i hi => by omega⟩⟩, ?_⟩
  rintro l1 l2 l3 S' ⟨rfl, rfl, h0, h1, h2⟩
  intro _
  rw [l.2.2.2.2.2.2.2]
  have r4 : iv 0 1 l2 := by
    rcases h2 with ⟨w, -⟩ | ⟨w, -⟩
    · rw [w]
      exact ⟨by decide, by decide⟩
    · rw [w]
      exact ⟨by decide, by decide⟩
  refine ⟨⟨by omega, by omega⟩, fun q => ⟨r4, ?_⟩, fun q => ⟨⟨by omega, by omega⟩, fun w => ?_, fun w => ⟨h0, by omega, fun _ => ?_⟩⟩⟩
  · rcases h2 with ⟨rfl, w⟩ | ⟨rfl, w⟩
    · refine hK 1 (Or.inl ⟨rfl, ?_⟩)
      cases hd : xSd X l1 with
      | false => rfl
      | true =>
        obtain ⟨i, i1, i2, i3⟩ := xSd_iff.mp hd
        exact absurd (w i (by omega) i2) i3
    · exact hK 0 (Or.inr ⟨rfl, w⟩)
  · have h2 := h2.resolve_left (fun y => by have := y.1; omega)
    unfold wX11_isBlankWithin_42 wX11_isBlankWithin_43
    refine ⟨⟨rfl, rfl, by omega, by omega, Or.inr ⟨rfl, h2.2⟩⟩, ?_⟩
    show ((X.2.2.length : Int) - (l3 + 1)).toNat < ((X.2.2.length : Int) - l3).toNat
    omega
  · have h2 := (h2.resolve_right (fun y => w y.1)).2
    obtain ⟨e96, e97, hsn⟩ := cn_v h h0 (show l3 < X.2.2.length by omega)
    have e1 := sgV_at (X := X) h0 (show l3 < X.2.2.length by omega)
    have hb := isSn_b hsn
    have yes : ((X.2.2.getD l3.toNat (0, 0)).2 = l1 → isBl (X.2.2.getD l3.toNat (0, 0)).1) → wX11_isBlankWithin_38 l1 l3 S' K (fun ml1 ml2 ml3 T' => (ml1 = l1 ∧ T' = S' ∧ 0 ≤ ml3 ∧ ml3 ≤ X.2.2.length ∧ ((ml2 = 1 ∧ ∀ i : Nat, i < ml3 → ((X.2.2.getD i (0, 0)).2 = l1 → isBl (X.2.2.getD i (0, 0)).1)) ∨ (ml2 = 0 ∧ xSd X l1 = true))) ∧ ((X.2.2.length : Int) - ml3).toNat < ((X.2.2.length : Int) - l3).toNat) := fun y => by
      unfold wX11_isBlankWithin_38 wX11_isBlankWithin_43
      refine ⟨⟨rfl, rfl, by omega, by omega, Or.inl ⟨rfl, fun i hi => ?_⟩⟩, by omega⟩
      by_cases qi : i = l3.toNat
      · rw [qi]
        exact y
      · exact h2 i (by omega)
    rw [e97, e96]
    refine ⟨⟨by omega, by omega⟩, fun w2 => yes (fun y => absurd y w2), fun w2 => ⟨h0, by omega, fun _ => n_isBl (fun r hr => ?_)⟩⟩
    rcases hr with ⟨rfl, hr⟩ | ⟨rfl, hr⟩
    · exact ⟨⟨by decide, by decide⟩, fun y => absurd y (by decide), fun _ => yes (fun _ => by rw [← e1]; exact hr)⟩
    · refine ⟨⟨by decide, by decide⟩, fun _ => ?_, fun y => absurd rfl y⟩
      unfold wX11_isBlankWithin_42 wX11_isBlankWithin_43
      refine ⟨⟨rfl, rfl, by omega, by omega, Or.inr ⟨rfl, xSd_iff.mpr ⟨l3.toNat, by omega, Classical.not_not.mp w2, by rw [← e1]; exact hr⟩⟩⟩, ?_⟩
      show ((X.2.2.length : Int) - (l3 + 1)).toNat < ((X.2.2.length : Int) - l3).toNat
      omega
end NM

