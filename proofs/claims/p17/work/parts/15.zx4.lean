/-! WHAT ELEMENTS MEAN: the model: where references lead -/
section NV
variable {S S' : St} {K : Int → St → Prop} {T W : Int → Int} {n x y o f v u c r p a b d i k z w q fl N A B s P : Int} {X : Xs} {e : Env} {fb : Int → Int} {M M' M1 : Mm} {L : List Int} {h h' : Hs}
theorem CNm.sgb (hC : CNm T n X S) : iv (-1) 126 (sgV X i) := by
  by_cases w : 0 ≤ i ∧ i < X.2.2.length
  · have := isSn_b (cn_v hC w.1 w.2).2.2
    exact ⟨by omega, by omega⟩
  · rw [sgV_out w]
    exact ⟨by decide, by decide⟩
theorem n_way (hC : CNm T n X S) (hp : pcs S L) (hL : L = sbT (sgV X) A B) (A0 : 0 ≤ A) (hAB : A ≤ B) (hB : B ≤ X.2.2.length) (x0 : 0 ≤ x) (x1 : x < X.1.length) (hK : K (upW T X B 3001 x A) S) : wX11_way x S K := by
  have l := hC.len
  have hl : (L.length : Int) = B - A := by
    rw [hL, sbT_len]
    omega
  have h30 : L.length ≤ 3000 := by omega
  have pAt : ∀ (i : Int) (K2 : Int → St → Prop), 0 ≤ i → (iv (-1) 126 (if A + i < B then sgV X (A + i) else -1) → K2 (if A + i < B then sgV X (A + i) else -1) S) → wX11_pieceAt i S K2 := fun i K2 i0 hk => n_pAt hp hL hAB h30 i0 (hk (by
    by_cases w : A + i < B
    · rw [if_pos w]
      exact hC.sgb
    · rw [if_neg w]
      exact ⟨by decide, by decide⟩))
  unfold wX11_way
  refine fun _ => ⟨fun l2 l3 l4 S' => l4 = 1 ∧ S' = S ∧ 0 ≤ l3 ∧ A + l3 ≤ B ∧ ((∃ (y : Int) (k : Nat), l2 = y ∧ 0 ≤ y ∧ y < X.1.length ∧ B - (A + l3) ≤ k ∧ upW T X B k y (A + l3) = upW T X B 3001 x A) ∨ (l2 = -2 ∧ upW T X B 3001 x A = -2)), fun l2 l3 l4 S' => (B - A - l3).toNat, ⟨rfl, rfl, by decide, by omega, Or.inl ⟨x, 3001, rfl, x0, x1, by omega, by rw [show A + 0 = A by omega]⟩⟩, ?_⟩
  rintro l2 l3 l4 S' ⟨rfl, rfl, h0, h1, h2⟩
  have r2 : rng l2 := by
    rcases h2 with ⟨y, k, rfl, y0, y1, -⟩ | ⟨w, -⟩
    · exact ⟨by omega, by omega⟩
    · rw [w]
      exact ⟨by decide, by decide⟩
  have out : ¬ (A + l3 + 2 ≤ B ∧ sgV X (A + l3) = 46 ∧ sgV X (A + l3 + 1) = 46) → wX11_way_97 l2 l3 S' K := fun hn => by
    unfold wX11_way_97
    rcases h2 with ⟨y, k, rfl, y0, y1, hk, h5⟩ | ⟨rfl, h5⟩
    · have e5 : upW T X B k l2 (A + l3) = dwA T X l2 (A + l3) B := by
        cases k with
        | zero => rfl
        | succ k =>
          show (if A + l3 + 2 ≤ B ∧ sgV X (A + l3) = 46 ∧ sgV X (A + l3 + 1) = 46 then _ else _) = _
          rw [if_neg hn]
      rw [← h5, e5] at hK
      have em : mNg l2 = l2 := if_neg (by omega)
      have st := n_steps (y := l2) hC hp hL A0 hAB hB (by omega) y1 h0 h1 hK
      rw [em] at st
      exact ⟨r2, fun _ => ⟨⟨by omega, by omega⟩, st⟩, fun w => absurd (show ¬ l2 = -2 by omega) w⟩
    · rw [h5] at hK
      exact ⟨r2, fun w => absurd rfl w, fun _ => hK⟩
  refine ⟨⟨by decide, by decide⟩, fun w => absurd w (by decide), fun _ => ⟨⟨by omega, by omega⟩, pAt l3 _ h0 (fun hb => ⟨⟨by omega, by omega⟩, fun w => out (fun y => w (by rw [if_pos (by omega)]; exact y.2.1)), fun w => ⟨⟨by omega, by omega⟩, pAt (l3 + 1) _ (by omega) (fun hb2 => ⟨⟨by omega, by omega⟩, fun w2 => out (fun y => w2 (by rw [if_pos (by omega), show A + (l3 + 1) = A + l3 + 1 by omega]; exact y.2.2)), fun w2 => ⟨r2, fun w3 => ?_, fun w3 => ?_⟩⟩)⟩⟩)⟩⟩
  · have w := Classical.not_not.mp w
    have w2 := Classical.not_not.mp w2
    have c1 : A + (l3 + 1) < B := by
      by_cases y : A + (l3 + 1) < B
      · exact y
      · rw [if_neg y] at w2
        omega
    rw [if_pos (by omega)] at w
    rw [if_pos c1, show A + (l3 + 1) = A + l3 + 1 by omega] at w2
    obtain ⟨y, k, rfl, y0, y1, hk, h5⟩ := h2.resolve_right (fun y => w3 y.1)
    obtain ⟨k', rfl⟩ : ∃ k', k = k' + 1 := ⟨k - 1, by omega⟩
    have h5 : (if A + l3 + 2 ≤ B ∧ sgV X (A + l3) = 46 ∧ sgV X (A + l3 + 1) = 46 then (if xPr X l2 = -1 then -2 else if A + l3 + 2 = B then xPr X l2 else if sgV X (A + l3 + 2) = 47 then upW T X B k' (xPr X l2) (A + l3 + 3) else -2) else dwA T X l2 (A + l3) B) = upW T X B 3001 x A := h5
    rw [if_pos ⟨by omega, w, w2⟩] at h5
    obtain ⟨⟨-, -, -, e88, -, -⟩, -, -, -, g4, g5, -⟩ := cn_e hC y0 y1
    refine ⟨y0, by omega, fun _ x17 e17 x20 e20 => ⟨⟨by omega, by omega⟩, pAt x20 _ (by omega) (fun hb3 => ?_)⟩⟩
    rw [e88] at e17
    have e20' : A + x20 = A + l3 + 2 := by omega
    rw [e20'] at hb3 ⊢
    unfold wX11_way_69
    refine ⟨⟨by omega, by omega⟩, fun c2 => ⟨⟨by decide, by decide⟩, fun y2 => absurd rfl y2, fun _ _ => ?_⟩, fun c2 => ⟨⟨by decide, by decide⟩, fun _ => ⟨⟨rfl, rfl, by omega, ?_, ?_⟩, ?_⟩, fun y2 => absurd (by decide) y2⟩⟩
    · rw [hp.1]
      refine ⟨⟨by omega, by omega⟩, fun c3 => ?_, fun c3 => ?_⟩
      · have : upW T X B 3001 x A = -2 := by
          rw [← h5]
          by_cases c4 : xPr X l2 = -1
          · rw [if_pos c4]
          · rw [if_neg c4, if_neg (by omega), if_neg (fun y2 => c2 (by rw [if_pos (by omega)]; exact y2))]
        rw [this] at hK
        exact hK
      · have c3 := Classical.not_not.mp c3
        have : upW T X B 3001 x A = x17 := by
          rw [← h5, e17]
          by_cases c4 : xPr X l2 = -1
          · rw [if_pos c4, if_pos (by omega)]
          · rw [if_neg c4, if_pos (by omega), if_neg (by omega)]
        rw [this] at hK
        exact hK
    · have c2 := Classical.not_not.mp c2
      by_cases c3 : A + l3 + 2 < B
      · omega
      · rw [if_neg c3] at c2
        omega
    · have c2 := Classical.not_not.mp c2
      have c3 : A + l3 + 2 < B := by
        by_cases c3 : A + l3 + 2 < B
        · exact c3
        · rw [if_neg c3] at c2
          omega
      rw [if_pos c3] at c2
      by_cases c4 : xPr X l2 = -1
      · rw [if_pos c4] at h5
        right
        rw [e17, if_pos (by omega)]
        exact ⟨rfl, h5.symm⟩
      · rw [if_neg c4, if_neg (by omega), if_pos c2] at h5
        left
        rw [e17, if_neg (by omega)]
        exact ⟨xPr X l2, k', rfl, by omega, by omega, by omega, by rw [show A + (x20 + 1) = A + l3 + 3 by omega]; exact h5⟩
    · show (B - A - (x20 + 1)).toNat < (B - A - l3).toNat
      omega
  · have w3 := Classical.not_not.mp w3
    rcases h2 with ⟨y, k, rfl, y0, y1, -⟩ | ⟨-, h5⟩
    · omega
    · rw [h5] at hK
      exact hK
theorem idV_pos (h1 : ¬ L.length = 0) (h4 : ¬ 4 < L.length) (h48 : ¬ L.headD 0 = 48) (hv : nvL L 0 = some v) : idV L = v ∧ 0 < v ∧ v ≤ 9999 := by
  have e1 : idV L = v := by
    unfold idV
    rw [if_neg (by omega), hv]
    rfl
  obtain ⟨q1, q2⟩ := nvL_bd _ 0 v (by decide) hv
  have q3 : (10 : Int) ^ L.length ≤ 10 ^ 4 := by
    have := Nat.pow_le_pow_right (show 0 < 10 by decide) (show L.length ≤ 4 by omega)
    exact_mod_cast this
  have q4 : ((10 : Int) ^ 4) = 10000 := by decide
  refine ⟨e1, ?_, by omega⟩
  cases L with
  | nil => exact absurd rfl h1
  | cons t l =>
    have h48 : ¬ t = 48 := h48
    unfold nvL at hv
    by_cases ht : isDg t
    · rw [if_pos ht] at hv
      have mono : ∀ (D : List Int) (s t : Int), 0 ≤ s → nvL D s = some t → s ≤ t := fun D => by
        induction D with
        | nil => intro s t _ q; injection q with q; omega
        | cons u l ih =>
          intro s t s0 q
          unfold nvL at q
          by_cases hu : isDg u
          · rw [if_pos hu] at q
            have hu1 : 48 ≤ u := hu.1
            have := ih _ t (by omega) q
            omega
          · rw [if_neg hu] at q
            cases q
      have ht1 : 48 ≤ t := ht.1
      have := mono _ _ v (by omega) hv
      omega
    · rw [if_neg ht] at hv
      cases hv
theorem n_withId (hC : CNm T n X S) (hp : pcs S L) (h30 : L.length ≤ 3000) (hK : ∀ r : Int, ((r = -2 ∧ (idV L = 0 ∨ ∀ k : Int, 0 ≤ k → k < X.1.length → ¬ (S.2 98 k = 4 ∧ S.2 102 k = idV L))) ∨ (0 ≤ r ∧ r < X.1.length ∧ ¬ idV L = 0 ∧ S.2 98 r = 4 ∧ S.2 102 r = idV L)) → K r S) : wX11_withId S K := by
  have l := hC.len
  have sb := pcs_sb hp
  have t79 : ∀ l1 l2, ((l2 = 1 ∧ l1 = idV L ∧ 0 < l1 ∧ l1 ≤ 9999) ∨ (l2 = 0 ∧ idV L = 0)) → wX11_withId_79 l1 l2 S K := fun l1 l2 hl => by
    unfold wX11_withId_79
    refine ⟨fun m1 m2 m3 m4 S' => m1 = l1 ∧ m2 = l2 ∧ S' = S ∧ 0 ≤ m4 ∧ m4 ≤ X.1.length ∧ ((m3 = -2 ∧ (l2 = 0 ∨ ∀ k, 0 ≤ k → k < m4 → ¬ (S.2 98 k = 4 ∧ S.2 102 k = l1))) ∨ (0 ≤ m3 ∧ m3 < X.1.length ∧ l2 = 1 ∧ S.2 98 m3 = 4 ∧ S.2 102 m3 = l1)), fun m1 m2 m3 m4 S' => ((X.1.length : Int) - m4).toNat, ⟨rfl, rfl, rfl, by decide, by omega, Or.inl ⟨rfl, Or.inr (fun k k0 k1 => by omega)⟩⟩, ?_⟩
    rintro m1 m2 m3 m4 S' ⟨rfl, rfl, rfl, i0, i1, i2⟩
    have fin : (m2 = 0 ∨ (X.1.length : Int) ≤ m4) → K m3 S' := fun hw => by
      refine hK m3 ?_
      rcases hl with ⟨c1, c2, c3, -⟩ | ⟨c1, c2⟩
      · rcases i2 with ⟨d1, d2⟩ | ⟨d1, d2, d3, d4, d5⟩
        · refine Or.inl ⟨d1, Or.inr (fun k k0 k1 => ?_)⟩
          rcases d2 with d2 | d2
          · omega
          · rw [← c2]
            exact d2 k k0 (by omega)
        · exact Or.inr ⟨d1, d2, by omega, d4, by rw [d5, c2]⟩
      · rcases i2 with ⟨d1, -⟩ | ⟨-, -, d3, -⟩
        · exact Or.inl ⟨d1, Or.inl c2⟩
        · omega
    intro _
    rw [l.2.2.2.2.2.1]
    have r2 : rng m2 := by
      rcases hl with ⟨c1, -⟩ | ⟨c1, -⟩
      · rw [c1]
        exact ⟨by decide, by decide⟩
      · rw [c1]
        exact ⟨by decide, by decide⟩
    refine ⟨⟨by omega, by omega⟩, fun q => fin (Or.inr q), fun q => ⟨r2, fun q2 => fin (Or.inl q2), fun q2 => ⟨i0, by omega, fun _ => ?_⟩⟩⟩
    have c := hl.resolve_right (fun y => q2 y.1)
    have no : ¬ (S'.2 98 m4 = 4 ∧ S'.2 102 m4 = m1) → wX11_withId_125 m1 m2 m3 m4 S' K (fun ml1 ml2 ml3 ml4 T' => (ml1 = m1 ∧ ml2 = m2 ∧ T' = S' ∧ 0 ≤ ml4 ∧ ml4 ≤ X.1.length ∧ ((ml3 = -2 ∧ (m2 = 0 ∨ ∀ k, 0 ≤ k → k < ml4 → ¬ (S'.2 98 k = 4 ∧ S'.2 102 k = m1))) ∨ (0 ≤ ml3 ∧ ml3 < X.1.length ∧ m2 = 1 ∧ S'.2 98 ml3 = 4 ∧ S'.2 102 ml3 = m1))) ∧ ((X.1.length : Int) - ml4).toNat < ((X.1.length : Int) - m4).toNat) := fun hno => by
      unfold wX11_withId_125 wX11_withId_126
      refine ⟨⟨rfl, rfl, rfl, by omega, by omega, ?_⟩, by omega⟩
      rcases i2 with ⟨d1, d2⟩ | d
      · refine Or.inl ⟨d1, Or.inr (fun k k0 k1 => ?_)⟩
        by_cases qk : k = m4
        · rw [qk]
          exact hno
        · exact (d2.resolve_left q2) k k0 (by omega)
      · exact Or.inr d
    refine ⟨fun w => no (fun y => w y.1), fun w => ⟨i0, by omega, fun _ => ⟨⟨by omega, by omega⟩, fun w2 => no (fun y => w2 y.2), fun w2 => ?_⟩⟩⟩
    unfold wX11_withId_126
    refine ⟨⟨rfl, rfl, rfl, by omega, by omega, Or.inr ⟨i0, by omega, c.1, Classical.not_not.mp w, Classical.not_not.mp w2⟩⟩, ?_⟩
    show ((X.1.length : Int) - (m4 + 1)).toNat < ((X.1.length : Int) - m4).toNat
    omega
  have t33 : ∀ s0 : Int, ((s0 = 1 ∧ ¬ L.length = 0 ∧ ¬ 4 < L.length ∧ ¬ L.headD 0 = 48) ∨ (s0 = 0 ∧ idV L = 0)) → wX11_withId_33 0 s0 S K := fun s0 hs => by
    unfold wX11_withId_33
    refine ⟨fun m1 m2 m3 S' => S' = S ∧ 0 ≤ m3 ∧ m3 ≤ L.length ∧ ((m2 = 1 ∧ (¬ L.length = 0 ∧ ¬ 4 < L.length ∧ ¬ L.headD 0 = 48) ∧ nvL (sbT (S.2 104) m3 L.length) m1 = nvL L 0) ∨ (m2 = 0 ∧ idV L = 0)), fun m1 m2 m3 S' => ((L.length : Int) - m3).toNat, ⟨rfl, by decide, by omega, ?_⟩, ?_⟩
    · rcases hs with ⟨w1, w2⟩ | w
      · exact Or.inl ⟨w1, w2, by rw [sb]⟩
      · exact Or.inr w
    · rintro m1 m2 m3 S' ⟨rfl, i0, i1, i2⟩
      intro _
      rw [hp.1]
      have r2 : rng m2 := by
        rcases i2 with ⟨w, -⟩ | ⟨w, -⟩
        · rw [w]
          exact ⟨by decide, by decide⟩
        · rw [w]
          exact ⟨by decide, by decide⟩
      refine ⟨⟨by omega, by omega⟩, fun q => t79 m1 m2 ?_, fun q => ⟨r2, fun q2 => t79 m1 m2 ?_, fun q2 => ⟨i0, by omega, fun _ => n_isDg (fun r hr => ⟨i0, by omega, fun _ x12 e12 => ?_⟩)⟩⟩⟩
      · rcases i2 with ⟨w1, ⟨w2, w3, w4⟩, w5⟩ | w
        · rw [sbT_nil (by omega)] at w5
          have := idV_pos w2 w3 w4 w5.symm
          exact Or.inl ⟨w1, this.1.symm, this.2.1, this.2.2⟩
        · exact Or.inr w
      · rcases i2 with ⟨w1, -⟩ | w
        · omega
        · exact Or.inr w
      · obtain ⟨w1, w2, w5⟩ := i2.resolve_right (fun y => q2 y.1)
        rw [sbT_cons (show m3 < L.length by omega)] at w5
        refine ⟨⟨rfl, by omega, by omega, ?_⟩, ?_⟩
        · rcases hr with ⟨rfl, hd⟩ | ⟨rfl, hd⟩
          · refine Or.inl ⟨rfl, w2, ?_⟩
            rw [e12, show 10 * m1 + S'.2 104 m3 - 48 = m1 * 10 + S'.2 104 m3 - 48 by omega]
            exact (if_pos hd).symm.trans w5
          · refine Or.inr ⟨rfl, ?_⟩
            have h3' : nvL L 0 = none := ((if_neg hd).symm.trans w5).symm
            unfold idV
            rw [h3']
            by_cases y : L.length = 0 ∨ 4 < L.length ∨ L.headD 0 = 48
            · rw [if_pos y]
            · rw [if_neg y]
              rfl
        · show ((L.length : Int) - (m3 + 1)).toNat < ((L.length : Int) - m3).toNat
          omega
  have hd0 : 0 < L.length → S.2 104 0 = L.headD 0 := fun w => by
    have := (pcs_at hp (i := 0) (by decide) (by omega)).1
    rw [this]
    cases L with
    | nil => exact absurd w (by decide)
    | cons t l => rfl
  unfold wX11_withId wX11_withId_32
  rw [hp.1]
  refine fun _ => ⟨fun q => t33 0 (Or.inr ⟨rfl, ?_⟩), fun q => ⟨fun q2 => t33 0 (Or.inr ⟨rfl, ?_⟩), fun q2 => ⟨by decide, by decide, fun _ => ⟨fun q3 => t33 0 (Or.inr ⟨rfl, ?_⟩), fun q3 => t33 1 (Or.inl ⟨rfl, by omega, by omega, by rw [hd0 (by omega)] at q3; exact q3⟩)⟩⟩⟩⟩
  · unfold idV
    rw [if_pos (by omega)]
  · unfold idV
    rw [if_pos (by omega)]
  · rw [hd0 (by omega)] at q3
    unfold idV
    rw [if_pos (Or.inr (Or.inr q3))]
end NV

