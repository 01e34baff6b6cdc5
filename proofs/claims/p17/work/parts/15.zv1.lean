/-! WHAT ELEMENTS MEAN: the class's leaves -/
def SV (X : Xs) : Prop := ∀ i : Nat, i < X.2.2.length → isSn (X.2.2.getD i (0, 0)).1
def rTc (S : St) (c : Nat) (W : Int → Int) (n : Int) : Prop := S.1 c 1 = n ∧ ∀ p, 0 ≤ p → p < n → S.2 c p = W p
def CM (T : Int → Int) (n : Int) (X : Xs) (S : St) : Prop := (TX T n ∧ rTc S 1 T n) ∧ (0 < X.1.length ∧ X.1.length ≤ 200) ∧ cX S X ∧ KD S X.1 ∧ SD S X.1 X.2.2 ∧ TD S X.2.2 X.1.length ∧ WX n X n ∧ nBE T X.1 ∧ SV X
def MF (S S' : St) : Prop := (∀ a, a ≠ 50 → S'.1 a = S.1 a) ∧ ∀ a, (a < 51 ∨ 53 < a) → (a < 231 ∨ 236 < a) → S'.2 a = S.2 a
theorem MF.rf {S : St} : MF S S := ⟨fun _ _ => rfl, fun _ _ _ => rfl⟩
theorem MF.tr {S S1 S2 : St} (h : MF S S1) (g : MF S1 S2) : MF S S2 := ⟨fun a q => (g.1 a q).trans (h.1 a q), fun a q r => (g.2 a q r).trans (h.2 a q r)⟩
theorem CM.mf {T : Int → Int} {n : Int} {X : Xs} {S S' : St} (h : CM T n X S) (g : MF S S') : CM T n X S' := by
  have e : ∀ a, a < 51 → S'.2 a = S.2 a := fun a q => g.2 a (Or.inl q) (Or.inl (by omega))
  unfold CM rTc cX cXe cXa cXv KD SD TD at h ⊢
  rw [g.1 1 (by decide), g.1 3 (by decide), g.1 4 (by decide), e 1 (by decide), e 4 (by decide), e 6 (by decide), e 7 (by decide), e 8 (by decide), e 9 (by decide), e 10 (by decide), e 11 (by decide), e 12 (by decide), e 13 (by decide), e 14 (by decide), e 15 (by decide), e 16 (by decide), e 17 (by decide), e 18 (by decide), e 19 (by decide)]
  exact h
theorem cE.mf {S S' : St} {e : Env} (h : cE S e) (g : MF S S') : cE S' e := h.mv (by rw [g.1 42 (by decide)]) (by rw [g.1 24 (by decide)]) (g.2 43 (by decide) (by decide)) (g.2 44 (by decide) (by decide)) (g.2 45 (by decide) (by decide)) (g.2 25 (by decide) (by decide)) (g.2 26 (by decide) (by decide)) (g.2 27 (by decide) (by decide)) (g.2 28 (by decide) (by decide)) (g.2 29 (by decide) (by decide)) (g.2 30 (by decide) (by decide))
section QL
variable {S : St} {K : Int → St → Prop} {T W : Int → Int} {n p u i x a b k : Int} {X : Xs} {e : Env} {c : Nat}
theorem sgV_at (h0 : 0 ≤ i) (h1 : i < X.2.2.length) : sgV X i = (X.2.2.getD i.toNat (0, 0)).1 := if_pos ⟨h0, h1⟩
theorem sgV_out (h : ¬ (0 ≤ i ∧ i < X.2.2.length)) : sgV X i = -1 := if_neg h
theorem CM.v4 (h : CM T n X S) : TX (sgV X) X.2.2.length ∧ rTc S 4 (sgV X) X.2.2.length := by
  obtain ⟨⟨hX, h1⟩, hm, ⟨-, -, hv1, hv2⟩, -, -, -, hw, -, hs⟩ := h
  have hn := hX.1
  have hw1 := hw.1
  refine ⟨⟨⟨by omega, by omega⟩, fun p p0 p1 => ?_, fun p p1 => sgV_out (fun z => by omega)⟩, hv1, fun p p0 p1 => ?_⟩
  · rw [sgV_at p0 p1]
    have := hs p.toNat (by omega)
    omega
  · rw [sgV_at p0 p1]
    have := hv2 p.toNat (by omega)
    rw [show ((p.toNat : Nat) : Int) = p by omega] at this
    exact this
theorem q_at (hX : TX W n) (hC : rTc S c W n) (i0 : 0 ≤ i) (hK : K (W i) S) : wX5_at c i S K := by
  intro r hr
  rcases hr with ⟨h0, h1, h2, h3⟩ | ⟨h0, h1⟩
  · rw [hC.1] at h1
    rw [hC.2 i h0 h1] at h2
    rw [h2]
    exact hK
  · rw [hC.1] at h0
    rw [hX.2.2 i (by omega)] at hK
    rw [h1]
    exact hK
theorem cm_e (h : CM T n X S) (x0 : 0 ≤ x) (x1 : x < X.1.length) : (S.2 7 x = (gE X x).1 + 1 ∧ S.2 8 x = (gE X x).2.1 ∧ S.2 9 x = xPr X x ∧ S.2 11 x = xAf X x ∧ S.2 12 x = xAc X x) ∧ 0 ≤ (gE X x).1 ∧ (gE X x).1 + 1 < (gE X x).2.1 ∧ (gE X x).2.1 ≤ n ∧ -1 ≤ xPr X x ∧ xPr X x < x ∧ 0 ≤ xAf X x ∧ 0 ≤ xAc X x ∧ xAf X x + xAc X x ≤ X.2.1.length := by
  obtain ⟨⟨hX, h1⟩, hm, ⟨⟨he1, he2⟩, -, -⟩, -, -, -, ⟨-, -, hw, -⟩, -, -⟩ := h
  have h2 := he2 x.toNat (by omega)
  have h3 := hw x.toNat (by omega)
  rw [show ((x.toNat : Nat) : Int) = x by omega] at h2 h3
  exact ⟨⟨h2.2.1, h2.2.2.1, h2.2.2.2.1, h2.2.2.2.2.1, h2.2.2.2.2.2⟩, h3⟩
theorem cm_a (h : CM T n X S) (a0 : 0 ≤ a) (a1 : a < X.2.1.length) : (S.2 16 a = (gAt X a).1 ∧ S.2 17 a = (gAt X a).2.1 ∧ S.2 18 a = (gAt X a).2.2.1 ∧ S.2 19 a = (gAt X a).2.2.2) ∧ 0 ≤ (gAt X a).1 ∧ (gAt X a).1 < (gAt X a).2.1 ∧ (gAt X a).2.1 ≤ n ∧ 0 ≤ (gAt X a).2.2.1 ∧ (gAt X a).2.2.1 ≤ (gAt X a).2.2.2 ∧ (gAt X a).2.2.2 ≤ X.2.2.length := by
  obtain ⟨⟨hX, h1⟩, hm, ⟨-, ⟨he1, he2⟩, -⟩, -, -, -, ⟨-, -, -, hw⟩, -, -⟩ := h
  have h2 := he2 a.toNat (by omega)
  have h3 := hw a.toNat (by omega)
  rw [show ((a.toNat : Nat) : Int) = a by omega] at h2
  exact ⟨h2, h3⟩
theorem CM.len (h : CM T n X S) : iv 0 3000 n ∧ 0 < X.1.length ∧ X.1.length ≤ 200 ∧ X.2.1.length ≤ 600 ∧ X.2.2.length ≤ 3000 ∧ S.1 3 16 = X.1.length ∧ S.1 3 17 = X.2.1.length := by
  obtain ⟨⟨hX, h1⟩, hm, ⟨⟨he1, -⟩, ⟨ha1, -⟩, -⟩, -, -, -, ⟨hw1, hw2, -, -⟩, -, -⟩ := h
  have hn := hX.1
  exact ⟨hn, hm.1, hm.2, by omega, by omega, he1, ha1⟩
theorem q_has (h : CM T n X S) (x0 : 0 ≤ x) (x1 : x < X.1.length) (hK : K 1 S) : wX6_has x S K := by
  refine k_has (E := X.1) h.len.2.2.2.2.2.1 (fun r hr => ?_)
  rcases hr with ⟨rfl, -⟩ | ⟨-, z⟩
  · exact hK
  · exact absurd ⟨x0, x1⟩ z
theorem q_hasA (h : CM T n X S) (a0 : 0 ≤ a) (a1 : a < X.2.1.length) (hK : K 1 S) : wX6_hasAttribute a S K := by
  have l := h.len
  unfold wX6_hasAttribute
  intro _
  rw [l.2.2.2.2.2.2]
  exact ⟨fun z => absurd z (by omega), fun _ _ => ⟨fun z => absurd z (by omega), fun _ => hK⟩⟩
theorem q_nameFrom (h : CM T n X S) (x0 : 0 ≤ x) (x1 : x < X.1.length) (hK : K (S.2 7 x) S) : wX6_nameFrom x S K := by
  have l := h.len
  unfold wX6_nameFrom
  exact fun _ => q_has h x0 x1 ⟨⟨by decide, by decide⟩, fun z => absurd z (by decide), fun _ => ⟨x0, by omega, fun _ => hK⟩⟩
theorem q_nameTo (h : CM T n X S) (x0 : 0 ≤ x) (x1 : x < X.1.length) (hK : K (S.2 8 x) S) : wX6_nameTo x S K := by
  have l := h.len
  unfold wX6_nameTo
  exact fun _ => q_has h x0 x1 ⟨⟨by decide, by decide⟩, fun z => absurd z (by decide), fun _ => ⟨x0, by omega, fun _ => hK⟩⟩
theorem q_parent (h : CM T n X S) (x0 : 0 ≤ x) (x1 : x < X.1.length) (hK : K (S.2 9 x) S) : wX6_parent x S K := by
  have l := h.len
  unfold wX6_parent
  exact fun _ => q_has h x0 x1 ⟨⟨by decide, by decide⟩, fun z => absurd z (by decide), fun _ => ⟨x0, by omega, fun _ => hK⟩⟩
theorem q_kidCount (h : CM T n X S) (x0 : 0 ≤ x) (x1 : x < X.1.length) (hK : K (S.2 10 x) S) : wX6_kidCount x S K := by
  have l := h.len
  unfold wX6_kidCount
  exact fun _ => q_has h x0 x1 ⟨⟨by decide, by decide⟩, fun z => absurd z (by decide), fun _ => ⟨x0, by omega, fun _ => hK⟩⟩
theorem q_firstAttribute (h : CM T n X S) (x0 : 0 ≤ x) (x1 : x < X.1.length) (hK : K (S.2 11 x) S) : wX6_firstAttribute x S K := by
  have l := h.len
  unfold wX6_firstAttribute
  exact fun _ => q_has h x0 x1 ⟨⟨by decide, by decide⟩, fun z => absurd z (by decide), fun _ => ⟨x0, by omega, fun _ => hK⟩⟩
theorem q_attributeCount (h : CM T n X S) (x0 : 0 ≤ x) (x1 : x < X.1.length) (hK : K (S.2 12 x) S) : wX6_attributeCount x S K := by
  have l := h.len
  unfold wX6_attributeCount
  exact fun _ => q_has h x0 x1 ⟨⟨by decide, by decide⟩, fun z => absurd z (by decide), fun _ => ⟨x0, by omega, fun _ => hK⟩⟩
theorem q_textFrom (h : CM T n X S) (x0 : 0 ≤ x) (x1 : x < X.1.length) (hK : K (S.2 13 x) S) : wX6_textFrom x S K := by
  have l := h.len
  unfold wX6_textFrom
  exact fun _ => q_has h x0 x1 ⟨⟨by decide, by decide⟩, fun z => absurd z (by decide), fun _ => ⟨x0, by omega, fun _ => hK⟩⟩
theorem q_textTo (h : CM T n X S) (x0 : 0 ≤ x) (x1 : x < X.1.length) (hK : K (S.2 14 x) S) : wX6_textTo x S K := by
  have l := h.len
  unfold wX6_textTo
  exact fun _ => q_has h x0 x1 ⟨⟨by decide, by decide⟩, fun z => absurd z (by decide), fun _ => ⟨x0, by omega, fun _ => hK⟩⟩
theorem q_keyFrom (h : CM T n X S) (a0 : 0 ≤ a) (a1 : a < X.2.1.length) (hK : K (S.2 16 a) S) : wX6_keyFrom a S K := by
  have l := h.len
  unfold wX6_keyFrom
  exact fun _ => q_hasA h a0 a1 ⟨⟨by decide, by decide⟩, fun z => absurd z (by decide), fun _ => ⟨a0, by omega, fun _ => hK⟩⟩
theorem q_keyTo (h : CM T n X S) (a0 : 0 ≤ a) (a1 : a < X.2.1.length) (hK : K (S.2 17 a) S) : wX6_keyTo a S K := by
  have l := h.len
  unfold wX6_keyTo
  exact fun _ => q_hasA h a0 a1 ⟨⟨by decide, by decide⟩, fun z => absurd z (by decide), fun _ => ⟨a0, by omega, fun _ => hK⟩⟩
theorem q_valueFrom (h : CM T n X S) (a0 : 0 ≤ a) (a1 : a < X.2.1.length) (hK : K (S.2 18 a) S) : wX6_valueFrom a S K := by
  have l := h.len
  unfold wX6_valueFrom
  exact fun _ => q_hasA h a0 a1 ⟨⟨by decide, by decide⟩, fun z => absurd z (by decide), fun _ => ⟨a0, by omega, fun _ => hK⟩⟩
theorem q_valueTo (h : CM T n X S) (a0 : 0 ≤ a) (a1 : a < X.2.1.length) (hK : K (S.2 19 a) S) : wX6_valueTo a S K := by
  have l := h.len
  unfold wX6_valueTo
  exact fun _ => q_hasA h a0 a1 ⟨⟨by decide, by decide⟩, fun z => absurd z (by decide), fun _ => ⟨a0, by omega, fun _ => hK⟩⟩
theorem q_isSolid (h : CM T n X S) (x0 : 0 ≤ x) (x1 : x < X.1.length) (hK : ∀ r, (r = 1 ∧ xSd X x = true) ∨ (r = 0 ∧ xSd X x = false) → K r S) : wX6_isSolid x S K := by
  have l := h.len
  have hs := h.2.2.2.2.1 x.toNat (by omega)
  rw [show ((x.toNat : Nat) : Int) = x by omega] at hs
  unfold wX6_isSolid
  refine fun _ => q_has h x0 x1 ⟨⟨by decide, by decide⟩, fun z => absurd z (by decide), fun _ => ⟨x0, by omega, fun _ => ⟨fun z => hK 0 (Or.inr ⟨rfl, ?_⟩), fun z => hK 1 (Or.inl ⟨rfl, ?_⟩)⟩⟩⟩
  · rcases hs with ⟨w, -⟩ | ⟨-, w⟩
    · omega
    · cases hd : xSd X x with
      | false => rfl
      | true =>
        obtain ⟨i, i1, i2, i3⟩ := xSd_iff.mp hd
        exact absurd (w i i1 i2) i3
  · rcases hs with ⟨-, w⟩ | ⟨w, -⟩
    · exact xSd_iff.mpr w
    · exact absurd w z
theorem cm_kid (h : CM T n X S) (x0 : 0 ≤ x) (x1 : x < X.1.length) : iv 0 200 (S.2 10 x) ∧ (0 < S.2 10 x ↔ xKd X x = true) := by
  have l := h.len
  have hk := h.2.2.2.1 x.toNat (by omega)
  rw [show ((x.toNat : Nat) : Int) = x by omega] at hk
  exact ⟨⟨hk.1, by omega⟩, hk.2.2.trans xKd_iff.symm⟩
theorem q_isAt (hX : TX T n) (hC : rTc S 1 T n) (a0 : 0 ≤ a) (ab : a ≤ b) (bn : b ≤ n) (hK : ∀ r, (r = 1 ∧ sbT T a b = ywR) ∨ (r = 0 ∧ ¬ sbT T a b = ywR) → K r S) : wX5_isAt a b S K := by
  have hn := hX.1
  have hL : ∀ i : Nat, i < 9 → sch 24 (i : Int) = (ywR).getD i 0 ∧ iv 0 65535 (sch 24 (i : Int)) := by decide +kernel
  unfold wX5_isAt
  intro _ _
  refine ⟨⟨by omega, by omega⟩, fun z => ?_, fun z => hK 0 (Or.inr ⟨rfl, fun w => ?_⟩)⟩
  · refine ⟨fun l1 l4 S' => l1 = a ∧ S' = S ∧ 0 ≤ l4 ∧ l4 ≤ 9 ∧ ∀ i, 0 ≤ i → i < l4 → T (a + i) = sch 24 i, fun l1 l4 S' => (9 - l4).toNat, ⟨rfl, rfl, by decide, by decide, fun i i0 i1 => by omega⟩, ?_⟩
    rintro l1 l4 S' ⟨rfl, rfl, h0, h1, h2⟩
    refine ⟨⟨by omega, by omega⟩, fun z2 => hK 1 (Or.inl ⟨rfl, sbT_eq.mpr ⟨?_, fun d hd => ?_⟩⟩), fun z2 => ?_⟩
    · show (b - l1).toNat = 9
      omega
    · rw [← (hL d (by omega)).1]
      exact h2 d (by omega) (by omega)
    · have bb := tx_rng hX (show 0 ≤ l1 + l4 by omega)
      have hl := hL l4.toNat (by omega)
      rw [show ((l4.toNat : Nat) : Int) = l4 by omega] at hl
      refine ⟨⟨by omega, by omega⟩, q_at hX hC (by omega) ⟨h0, by omega, ⟨by omega, by omega⟩, fun w => ⟨⟨rfl, rfl, by omega, by omega, fun i i0 i1 => ?_⟩, ?_⟩, fun w => hK 0 (Or.inr ⟨rfl, fun w2 => ?_⟩)⟩⟩
      · by_cases cc : i = l4
        · rw [cc]
          exact w
        · exact h2 i i0 (by omega)
      · show (9 - (l4 + 1)).toNat < (9 - l4).toNat
        omega
      · have := (sbT_eq.mp w2).2 l4.toNat (by omega)
        rw [show ((l4.toNat : Nat) : Int) = l4 by omega, ← hl.1] at this
        exact w this
  · have := (sbT_eq.mp w).1
    have : (b - a).toNat = 9 := this
    omega
theorem q_isAt_b (hX : TX T n) (hC : rTc S 1 T n) (a0 : 0 ≤ a) (ab : a ≤ b) (bn : b ≤ n) (hK : ∀ r, (r = 1 ∧ sbT T a b = ywC) ∨ (r = 0 ∧ ¬ sbT T a b = ywC) → K r S) : wX5_isAt_b a b S K := by
  have hn := hX.1
  have hL : ∀ i : Nat, i < 5 → sch 25 (i : Int) = (ywC).getD i 0 ∧ iv 0 65535 (sch 25 (i : Int)) := by decide +kernel
  unfold wX5_isAt_b
  intro _ _
  refine ⟨⟨by omega, by omega⟩, fun z => ?_, fun z => hK 0 (Or.inr ⟨rfl, fun w => ?_⟩)⟩
  · refine ⟨fun l1 l4 S' => l1 = a ∧ S' = S ∧ 0 ≤ l4 ∧ l4 ≤ 5 ∧ ∀ i, 0 ≤ i → i < l4 → T (a + i) = sch 25 i, fun l1 l4 S' => (5 - l4).toNat, ⟨rfl, rfl, by decide, by decide, fun i i0 i1 => by omega⟩, ?_⟩
    rintro l1 l4 S' ⟨rfl, rfl, h0, h1, h2⟩
    refine ⟨⟨by omega, by omega⟩, fun z2 => hK 1 (Or.inl ⟨rfl, sbT_eq.mpr ⟨?_, fun d hd => ?_⟩⟩), fun z2 => ?_⟩
    · show (b - l1).toNat = 5
      omega
    · rw [← (hL d (by omega)).1]
      exact h2 d (by omega) (by omega)
    · have bb := tx_rng hX (show 0 ≤ l1 + l4 by omega)
      have hl := hL l4.toNat (by omega)
      rw [show ((l4.toNat : Nat) : Int) = l4 by omega] at hl
      refine ⟨⟨by omega, by omega⟩, q_at hX hC (by omega) ⟨h0, by omega, ⟨by omega, by omega⟩, fun w => ⟨⟨rfl, rfl, by omega, by omega, fun i i0 i1 => ?_⟩, ?_⟩, fun w => hK 0 (Or.inr ⟨rfl, fun w2 => ?_⟩)⟩⟩
      · by_cases cc : i = l4
        · rw [cc]
          exact w
        · exact h2 i i0 (by omega)
      · show (5 - (l4 + 1)).toNat < (5 - l4).toNat
        omega
      · have := (sbT_eq.mp w2).2 l4.toNat (by omega)
        rw [show ((l4.toNat : Nat) : Int) = l4 by omega, ← hl.1] at this
        exact w this
  · have := (sbT_eq.mp w).1
    have : (b - a).toNat = 5 := this
    omega
theorem q_isAt_c (hX : TX T n) (hC : rTc S 1 T n) (a0 : 0 ≤ a) (ab : a ≤ b) (bn : b ≤ n) (hK : ∀ r, (r = 1 ∧ sbT T a b = ywI) ∨ (r = 0 ∧ ¬ sbT T a b = ywI) → K r S) : wX5_isAt_c a b S K := by
  have hn := hX.1
  have hL : ∀ i : Nat, i < 2 → sch 26 (i : Int) = (ywI).getD i 0 ∧ iv 0 65535 (sch 26 (i : Int)) := by decide +kernel
  unfold wX5_isAt_c
  intro _ _
  refine ⟨⟨by omega, by omega⟩, fun z => ?_, fun z => hK 0 (Or.inr ⟨rfl, fun w => ?_⟩)⟩
  · refine ⟨fun l1 l4 S' => l1 = a ∧ S' = S ∧ 0 ≤ l4 ∧ l4 ≤ 2 ∧ ∀ i, 0 ≤ i → i < l4 → T (a + i) = sch 26 i, fun l1 l4 S' => (2 - l4).toNat, ⟨rfl, rfl, by decide, by decide, fun i i0 i1 => by omega⟩, ?_⟩
    rintro l1 l4 S' ⟨rfl, rfl, h0, h1, h2⟩
    refine ⟨⟨by omega, by omega⟩, fun z2 => hK 1 (Or.inl ⟨rfl, sbT_eq.mpr ⟨?_, fun d hd => ?_⟩⟩), fun z2 => ?_⟩
    · show (b - l1).toNat = 2
      omega
    · rw [← (hL d (by omega)).1]
      exact h2 d (by omega) (by omega)
    · have bb := tx_rng hX (show 0 ≤ l1 + l4 by omega)
      have hl := hL l4.toNat (by omega)
      rw [show ((l4.toNat : Nat) : Int) = l4 by omega] at hl
      refine ⟨⟨by omega, by omega⟩, q_at hX hC (by omega) ⟨h0, by omega, ⟨by omega, by omega⟩, fun w => ⟨⟨rfl, rfl, by omega, by omega, fun i i0 i1 => ?_⟩, ?_⟩, fun w => hK 0 (Or.inr ⟨rfl, fun w2 => ?_⟩)⟩⟩
      · by_cases cc : i = l4
        · rw [cc]
          exact w
        · exact h2 i i0 (by omega)
      · show (2 - (l4 + 1)).toNat < (2 - l4).toNat
        omega
      · have := (sbT_eq.mp w2).2 l4.toNat (by omega)
        rw [show ((l4.toNat : Nat) : Int) = l4 by omega, ← hl.1] at this
        exact w this
  · have := (sbT_eq.mp w).1
    have : (b - a).toNat = 2 := this
    omega
theorem q_attN (h : CM T n X S) (x0 : 0 ≤ x) (x1 : x < X.1.length) (hK : K (atN T X x ywR) S) : wX6_attributeNamed x S K := by
  have l := h.len
  obtain ⟨⟨-, -, -, e11, e12⟩, -, -, -, -, -, g1, g2, g3⟩ := cm_e h x0 x1
  unfold wX6_attributeNamed
  refine fun _ => q_firstAttribute h x0 x1 ?_
  rw [e11]
  refine ⟨fun l1 l3 l4 S' => l1 = x ∧ l3 = xAf X x ∧ S' = S ∧ xAf X x ≤ l4 ∧ l4 ≤ xAf X x + xAc X x ∧ fnd (fun a => decide (kyA T X a = ywR)) (xAf X x + xAc X x - l4).toNat l4 = atN T X x ywR, fun l1 l3 l4 S' => (xAf X x + xAc X x - l4).toNat, ⟨rfl, rfl, rfl, by omega, by omega, ?_⟩, ?_⟩
  · unfold atN
    rw [show xAf X x + xAc X x - xAf X x = xAc X x by omega]
  · rintro l1 l3 l4 S' ⟨rfl, rfl, rfl, h0, h1, h2⟩
    refine ⟨⟨by omega, by omega⟩, q_attributeCount h x0 x1 ?_⟩
    rw [e12]
    refine ⟨⟨by omega, by omega⟩, ⟨by omega, by omega⟩, fun z => ?_, fun z => ?_⟩
    · rw [fnd_end z] at h2
      rw [h2]
      exact hK
    · obtain ⟨⟨k16, k17, -, -⟩, k1, k2, k3, -, -, -⟩ := cm_a h (show 0 ≤ l4 by omega) (show l4 < X.2.1.length by omega)
      rw [fnd_at (by omega)] at h2
      rw [k16, k17]
      refine ⟨by omega, by omega, fun _ => ⟨by omega, by omega, fun _ => q_isAt h.1.1 h.1.2 k1 (by omega) k3 (fun r hr => ?_)⟩⟩
      rcases hr with ⟨rfl, hw⟩ | ⟨rfl, hw⟩
      · refine ⟨⟨by decide, by decide⟩, fun w => absurd w (by decide), fun _ => ?_⟩
        rw [if_pos (decide_eq_true (show kyA T X l4 = ywR from hw))] at h2
        rw [h2]
        exact hK
      · refine ⟨⟨by decide, by decide⟩, fun _ => ⟨⟨rfl, rfl, rfl, by omega, by omega, ?_⟩, ?_⟩, fun w => absurd rfl w⟩
        · rw [if_neg (by rw [decide_eq_true_eq]; exact hw)] at h2
          exact h2
        · show (xAf X l1 + xAc X l1 - (l4 + 1)).toNat < (xAf X l1 + xAc X l1 - l4).toNat
          omega
theorem q_attN_b (h : CM T n X S) (x0 : 0 ≤ x) (x1 : x < X.1.length) (hK : K (atN T X x ywC) S) : wX6_attributeNamed_b x S K := by
  have l := h.len
  obtain ⟨⟨-, -, -, e11, e12⟩, -, -, -, -, -, g1, g2, g3⟩ := cm_e h x0 x1
  unfold wX6_attributeNamed_b
  refine fun _ => q_firstAttribute h x0 x1 ?_
  rw [e11]
  refine ⟨fun l1 l3 l4 S' => l1 = x ∧ l3 = xAf X x ∧ S' = S ∧ xAf X x ≤ l4 ∧ l4 ≤ xAf X x + xAc X x ∧ fnd (fun a => decide (kyA T X a = ywC)) (xAf X x + xAc X x - l4).toNat l4 = atN T X x ywC, fun l1 l3 l4 S' => (xAf X x + xAc X x - l4).toNat, ⟨rfl, rfl, rfl, by omega, by omega, ?_⟩, ?_⟩
  · unfold atN
    rw [show xAf X x + xAc X x - xAf X x = xAc X x by omega]
  · rintro l1 l3 l4 S' ⟨rfl, rfl, rfl, h0, h1, h2⟩
    refine ⟨⟨by omega, by omega⟩, q_attributeCount h x0 x1 ?_⟩
    rw [e12]
    refine ⟨⟨by omega, by omega⟩, ⟨by omega, by omega⟩, fun z => ?_, fun z => ?_⟩
    · rw [fnd_end z] at h2
      rw [h2]
      exact hK
    · obtain ⟨⟨k16, k17, -, -⟩, k1, k2, k3, -, -, -⟩ := cm_a h (show 0 ≤ l4 by omega) (show l4 < X.2.1.length by omega)
      rw [fnd_at (by omega)] at h2
      rw [k16, k17]
      refine ⟨by omega, by omega, fun _ => ⟨by omega, by omega, fun _ => q_isAt_b h.1.1 h.1.2 k1 (by omega) k3 (fun r hr => ?_)⟩⟩
      rcases hr with ⟨rfl, hw⟩ | ⟨rfl, hw⟩
      · refine ⟨⟨by decide, by decide⟩, fun w => absurd w (by decide), fun _ => ?_⟩
        rw [if_pos (decide_eq_true (show kyA T X l4 = ywC from hw))] at h2
        rw [h2]
        exact hK
      · refine ⟨⟨by decide, by decide⟩, fun _ => ⟨⟨rfl, rfl, rfl, by omega, by omega, ?_⟩, ?_⟩, fun w => absurd rfl w⟩
        · rw [if_neg (by rw [decide_eq_true_eq]; exact hw)] at h2
          exact h2
        · show (xAf X l1 + xAc X l1 - (l4 + 1)).toNat < (xAf X l1 + xAc X l1 - l4).toNat
          omega
def rwC (S : St) (k : Int) : List Int := catF (fun i => [S.2 25 (k * 16 + i)]) (S.2 26 k).toNat 0
theorem rwC_sb : rwC S k = sbT (fun i => S.2 25 (k * 16 + i)) 0 (S.2 26 k) := by
  unfold rwC sbT
  rw [show S.2 26 k - 0 = S.2 26 k by omega]
theorem q_spells (hX : TX W n) (hC : rTc S 1 W n) (k0 : 0 ≤ k) (k1 : k < 30) (a0 : 0 ≤ a) (ab : a ≤ b) (bn : b ≤ n) (hK : ∀ r, (r = 1 ∧ rwC S k = sbT W a b) ∨ (r = 0 ∧ ¬ rwC S k = sbT W a b) → K r S) : wX4_spells k a b S K := by
  have hn := hX.1
  unfold wX4_spells
  refine fun _ _ _ => ⟨fun z => absurd z (by omega), fun _ => ⟨fun z => absurd z (by omega), fun _ => ⟨k0, k1, fun h26 => ⟨⟨by omega, by omega⟩, fun z => ?_, fun z => hK 0 (Or.inr ⟨rfl, fun w => ?_⟩)⟩⟩⟩⟩
  · refine ⟨fun l1 l3 l5 S' => l1 = k ∧ l3 = a ∧ S' = S ∧ 0 ≤ l5 ∧ l5 ≤ S.2 26 k ∧ ∀ i, 0 ≤ i → i < l5 → S.2 25 (k * 16 + i) = W (a + i), fun l1 l3 l5 S' => (S.2 26 k - l5).toNat, ⟨rfl, rfl, rfl, by decide, by omega, fun i i0 i1 => by omega⟩, ?_⟩
    rintro l1 l3 l5 S' ⟨rfl, rfl, rfl, h0, h1, h2⟩
    refine ⟨k0, k1, fun _ => ⟨⟨by omega, by omega⟩, fun z2 => hK 1 (Or.inl ⟨rfl, ?_⟩), fun z2 => ⟨by omega, by omega, fun hv => ⟨⟨by omega, by omega⟩, q_at hX hC (by omega) ?_⟩⟩⟩⟩
    · rw [rwC_sb, sbT_iff (by omega) ab]
      refine ⟨by omega, fun i i0 i1 => ?_⟩
      rw [show (0 : Int) + i = i by omega]
      exact h2 i i0 (by omega)
    · have bb := tx_rng hX (show 0 ≤ l3 + l5 by omega)
      refine ⟨⟨by omega, by omega⟩, fun w => ⟨⟨rfl, rfl, rfl, by omega, by omega, fun i i0 i1 => ?_⟩, ?_⟩, fun w => hK 0 (Or.inr ⟨rfl, fun w2 => ?_⟩)⟩
      · by_cases cc : i = l5
        · rw [cc]
          exact w
        · exact h2 i i0 (by omega)
      · show (S'.2 26 l1 - (l5 + 1)).toNat < (S'.2 26 l1 - l5).toNat
        omega
      · rw [rwC_sb, sbT_iff (by omega) ab] at w2
        have := w2.2 l5 h0 (by omega)
        rw [show (0 : Int) + l5 = l5 by omega] at this
        exact w this
  · rw [rwC_sb, sbT_iff (by omega) ab] at w
    omega
theorem q_spells_b (hX : TX W n) (hC : rTc S 4 W n) (k0 : 0 ≤ k) (k1 : k < 30) (a0 : 0 ≤ a) (ab : a ≤ b) (bn : b ≤ n) (hK : ∀ r, (r = 1 ∧ rwC S k = sbT W a b) ∨ (r = 0 ∧ ¬ rwC S k = sbT W a b) → K r S) : wX4_spells_b k a b S K := by
  have hn := hX.1
  unfold wX4_spells_b
  refine fun _ _ _ => ⟨fun z => absurd z (by omega), fun _ => ⟨fun z => absurd z (by omega), fun _ => ⟨k0, k1, fun h26 => ⟨⟨by omega, by omega⟩, fun z => ?_, fun z => hK 0 (Or.inr ⟨rfl, fun w => ?_⟩)⟩⟩⟩⟩
  · refine ⟨fun l1 l3 l5 S' => l1 = k ∧ l3 = a ∧ S' = S ∧ 0 ≤ l5 ∧ l5 ≤ S.2 26 k ∧ ∀ i, 0 ≤ i → i < l5 → S.2 25 (k * 16 + i) = W (a + i), fun l1 l3 l5 S' => (S.2 26 k - l5).toNat, ⟨rfl, rfl, rfl, by decide, by omega, fun i i0 i1 => by omega⟩, ?_⟩
    rintro l1 l3 l5 S' ⟨rfl, rfl, rfl, h0, h1, h2⟩
    refine ⟨k0, k1, fun _ => ⟨⟨by omega, by omega⟩, fun z2 => hK 1 (Or.inl ⟨rfl, ?_⟩), fun z2 => ⟨by omega, by omega, fun hv => ⟨⟨by omega, by omega⟩, q_at hX hC (by omega) ?_⟩⟩⟩⟩
    · rw [rwC_sb, sbT_iff (by omega) ab]
      refine ⟨by omega, fun i i0 i1 => ?_⟩
      rw [show (0 : Int) + i = i by omega]
      exact h2 i i0 (by omega)
    · have bb := tx_rng hX (show 0 ≤ l3 + l5 by omega)
      refine ⟨⟨by omega, by omega⟩, fun w => ⟨⟨rfl, rfl, rfl, by omega, by omega, fun i i0 i1 => ?_⟩, ?_⟩, fun w => hK 0 (Or.inr ⟨rfl, fun w2 => ?_⟩)⟩
      · by_cases cc : i = l5
        · rw [cc]
          exact w
        · exact h2 i i0 (by omega)
      · show (S'.2 26 l1 - (l5 + 1)).toNat < (S'.2 26 l1 - l5).toNat
        omega
      · rw [rwC_sb, sbT_iff (by omega) ab] at w2
        have := w2.2 l5 h0 (by omega)
        rw [show (0 : Int) + l5 = l5 by omega] at this
        exact w this
  · rw [rwC_sb, sbT_iff (by omega) ab] at w
    omega
theorem q_readC {fb : Int → Int} (hE : cE S e) (hV : EV e) (hf : ∀ d, okC e d → S.2 32 d = fb d) (hX : TX W n) (hC : rTc S 1 W n) (a0 : 0 ≤ a) (ab : a ≤ b) (bn : b ≤ n) (hK : K (clN e fb (sbT W a b)) S) : wX4_readableClass a b S K := by
  have hn := hX.1
  have h6 := hV.2.1
  have h24 := hE.2.2.2.2.1
  unfold wX4_readableClass
  refine fun _ _ => ⟨fun l2 l3 l4 S' => l2 = a ∧ l3 = b ∧ S' = S ∧ 0 ≤ l4 ∧ l4 ≤ eC e ∧ fnd (fun d => decide (eL e d = sbT W a b)) (eC e - l4).toNat l4 = clF e (sbT W a b), fun l2 l3 l4 S' => (eC e - l4).toNat, ⟨rfl, rfl, rfl, by decide, by omega, ?_⟩, ?_⟩
  · unfold clF
    rw [show eC e - 0 = eC e by omega]
  · rintro l2 l3 l4 S' ⟨rfl, rfl, rfl, h0, h1, h2⟩
    intro _
    rw [h24]
    refine ⟨⟨by omega, by omega⟩, fun z => ?_, fun z => ⟨⟨by omega, by omega⟩, ⟨by omega, by omega⟩, ?_⟩⟩
    · rw [fnd_end z] at h2
      unfold clN at hK
      rw [if_pos (Or.inl h2.symm)] at hK
      exact hK
    · have hc : okC e l4 := ⟨h0, by omega⟩
      have hrow : eL e l4 = rwC S' l4 := (hE.2.2.2.2.2.2.2 l4 (Or.inl hc)).2
      rw [fnd_at (by omega)] at h2
      refine q_spells hX hC h0 (by omega) a0 ab bn (fun r hr => ?_)
      rcases hr with ⟨rfl, hw⟩ | ⟨rfl, hw⟩
      · rw [if_pos (decide_eq_true (hrow.trans hw))] at h2
        refine ⟨⟨by decide, by decide⟩, fun w => absurd w (by decide), fun _ => ⟨h0, by omega, fun _ => ?_⟩⟩
        rw [hf l4 hc]
        unfold clN at hK
        rw [← h2] at hK
        refine ⟨fun w => ?_, fun w => ?_⟩
        · rw [if_neg (fun q => q.elim (fun q => by omega) (fun q => q w))] at hK
          exact hK
        · rw [if_pos (Or.inr w)] at hK
          exact hK
      · refine ⟨⟨by decide, by decide⟩, fun _ => ⟨⟨rfl, rfl, rfl, by omega, by omega, ?_⟩, ?_⟩, fun w => absurd rfl w⟩
        · rw [if_neg (by rw [decide_eq_true_eq, hrow]; exact hw)] at h2
          exact h2
        · show (eC e - (l4 + 1)).toNat < (eC e - l4).toNat
          omega
theorem q_readC_b {fb : Int → Int} (hE : cE S e) (hV : EV e) (hf : ∀ d, okC e d → S.2 32 d = fb d) (hX : TX W n) (hC : rTc S 4 W n) (a0 : 0 ≤ a) (ab : a ≤ b) (bn : b ≤ n) (hK : K (clN e fb (sbT W a b)) S) : wX4_readableClass_b a b S K := by
  have hn := hX.1
  have h6 := hV.2.1
  have h24 := hE.2.2.2.2.1
  unfold wX4_readableClass_b
  refine fun _ _ => ⟨fun l2 l3 l4 S' => l2 = a ∧ l3 = b ∧ S' = S ∧ 0 ≤ l4 ∧ l4 ≤ eC e ∧ fnd (fun d => decide (eL e d = sbT W a b)) (eC e - l4).toNat l4 = clF e (sbT W a b), fun l2 l3 l4 S' => (eC e - l4).toNat, ⟨rfl, rfl, rfl, by decide, by omega, ?_⟩, ?_⟩
  · unfold clF
    rw [show eC e - 0 = eC e by omega]
  · rintro l2 l3 l4 S' ⟨rfl, rfl, rfl, h0, h1, h2⟩
    intro _
    rw [h24]
    refine ⟨⟨by omega, by omega⟩, fun z => ?_, fun z => ⟨⟨by omega, by omega⟩, ⟨by omega, by omega⟩, ?_⟩⟩
    · rw [fnd_end z] at h2
      unfold clN at hK
      rw [if_pos (Or.inl h2.symm)] at hK
      exact hK
    · have hc : okC e l4 := ⟨h0, by omega⟩
      have hrow : eL e l4 = rwC S' l4 := (hE.2.2.2.2.2.2.2 l4 (Or.inl hc)).2
      rw [fnd_at (by omega)] at h2
      refine q_spells_b hX hC h0 (by omega) a0 ab bn (fun r hr => ?_)
      rcases hr with ⟨rfl, hw⟩ | ⟨rfl, hw⟩
      · rw [if_pos (decide_eq_true (hrow.trans hw))] at h2
        refine ⟨⟨by decide, by decide⟩, fun w => absurd w (by decide), fun _ => ⟨h0, by omega, fun _ => ?_⟩⟩
        rw [hf l4 hc]
        unfold clN at hK
        rw [← h2] at hK
        refine ⟨fun w => ?_, fun w => ?_⟩
        · rw [if_neg (fun q => q.elim (fun q => by omega) (fun q => q w))] at hK
          exact hK
        · rw [if_pos (Or.inr w)] at hK
          exact hK
      · refine ⟨⟨by decide, by decide⟩, fun _ => ⟨⟨rfl, rfl, rfl, by omega, by omega, ?_⟩, ?_⟩, fun w => absurd rfl w⟩
        · rw [if_neg (by rw [decide_eq_true_eq, hrow]; exact hw)] at h2
          exact h2
        · show (eC e - (l4 + 1)).toNat < (eC e - l4).toNat
          omega
theorem q_fieldN {d at1 : Int} (hE : cE S e) (hV : EV e) (hd : okC e d) (h01 : iv 0 1 at1) (hX : TX T n) (hC : rTc S 1 T n) (a0 : 0 ≤ a) (ab : a ≤ b) (bn : b ≤ n) (hK : K (fdN e at1 d (sbT T a b)) S) : wX4_fieldNamed d at1 a b S K := by
  have hn := hX.1
  have h6 := hV.2.1
  have h4 := hV.2.2.2.1 d hd
  have hd0 := hd.1
  have hd1 := hd.2
  unfold wX4_fieldNamed
  refine fun _ _ _ _ => ⟨fun l1 l2 l4 l5 l6 S' => l1 = d ∧ l2 = at1 ∧ l4 = a ∧ l5 = b ∧ S' = S ∧ 0 ≤ l6 ∧ l6 ≤ eF e d ∧ fnd (fun f => decide (isA e d f = at1 ∧ eL e (6 + d * 4 + f) = sbT T a b)) (eF e d - l6).toNat l6 = fdN e at1 d (sbT T a b), fun l1 l2 l4 l5 l6 S' => (eF e d - l6).toNat, ⟨rfl, rfl, rfl, rfl, rfl, by decide, by omega, ?_⟩, ?_⟩
  · unfold fdN
    rw [show eF e d - 0 = eF e d by omega]
  · rintro l1 l2 l4 l5 l6 S' ⟨rfl, rfl, rfl, rfl, rfl, h0, h1, h2⟩
    refine ⟨⟨by omega, by omega⟩, r_fc hE hV hd ⟨⟨by omega, by omega⟩, ⟨by omega, by omega⟩, fun z => ?_, fun z => ?_⟩⟩
    · rw [fnd_end z] at h2
      rw [h2]
      exact hK
    · have hf : okF e l1 l6 := ⟨hd, h0, by omega⟩
      have hr : rng (isA e l1 l6) := by
        unfold isA
        exact r01
      have hrow : eL e (6 + l1 * 4 + l6) = rwC S' (6 + l1 * 4 + l6) := (hE.2.2.2.2.2.2.2 _ (Or.inr ⟨l1, l6, hf, rfl⟩)).2
      rw [fnd_at (by omega)] at h2
      have next : ¬ (isA e l1 l6 = l2 ∧ eL e (6 + l1 * 4 + l6) = sbT T l4 l5) → wX4_fieldNamed_45 l1 l2 l4 l5 l6 S' K (fun ml1 ml2 ml4 ml5 ml6 T' => (ml1 = l1 ∧ ml2 = l2 ∧ ml4 = l4 ∧ ml5 = l5 ∧ T' = S' ∧ 0 ≤ ml6 ∧ ml6 ≤ eF e l1 ∧ fnd (fun f => decide (isA e l1 f = l2 ∧ eL e (6 + l1 * 4 + f) = sbT T l4 l5)) (eF e l1 - ml6).toNat ml6 = fdN e l2 l1 (sbT T l4 l5)) ∧ (eF e l1 - ml6).toNat < (eF e l1 - l6).toNat) := fun q => by
        unfold wX4_fieldNamed_45
        rw [if_neg (by rw [decide_eq_true_eq]; exact q)] at h2
        exact ⟨⟨rfl, rfl, rfl, rfl, rfl, by omega, by omega, h2⟩, by omega⟩
      refine r_isAtt hE hV hf ⟨hr, ⟨by omega, by omega⟩, fun w => next (fun q => w q.1), fun w => r_fname ⟨⟨by omega, by omega⟩, ⟨by omega, by omega⟩, ⟨by omega, by omega⟩, q_spells hX hC (by omega) (by omega) a0 ab bn (fun r hr => ?_)⟩⟩
      rcases hr with ⟨rfl, hw⟩ | ⟨rfl, hw⟩
      · rw [if_pos (decide_eq_true ⟨Classical.not_not.mp w, hrow.trans hw⟩)] at h2
        refine ⟨⟨by decide, by decide⟩, fun w => absurd w (by decide), fun _ => ?_⟩
        rw [h2]
        exact hK
      · exact ⟨⟨by decide, by decide⟩, fun _ => next (fun q => hw (hrow.symm.trans q.2)), fun w => absurd rfl w⟩
end QL

