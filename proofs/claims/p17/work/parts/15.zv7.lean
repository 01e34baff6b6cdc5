/-! WHAT ELEMENTS MEAN: the class: ways -/
section QW
variable {S S' : St} {K : Int → St → Prop} {T W : Int → Int} {n x o f v u c r p a b d : Int} {X : Xs} {e : Env} {fb : Int → Int} {M M' : Mm}
theorem plc_b : ∀ (k : Nat) (a : Int), a ≤ plc W u k a ∧ plc W u k a ≤ a + k ∧ (plc W u k a < a + k → W (plc W u k a) = u) ∧ ∀ i, a ≤ i → i < plc W u k a → ¬ W i = u
  | 0, a => ⟨Int.le_refl _, by show a ≤ a + ((0 : Nat) : Int); omega, fun q => absurd q (by show ¬ a < a + ((0 : Nat) : Int); omega), fun i i0 i1 => absurd i1 (by show ¬ i < a; omega)⟩
  | k + 1, a => by
    unfold plc
    by_cases q : W a = u
    · rw [if_pos q]
      exact ⟨Int.le_refl _, by omega, fun _ => q, fun i i0 i1 => by omega⟩
    · rw [if_neg q]
      obtain ⟨h1, h2, h3, h4⟩ := plc_b k (a + 1)
      refine ⟨by omega, by omega, fun w => h3 (by omega), fun i i0 i1 => ?_⟩
      by_cases w : i = a
      · rw [w]
        exact q
      · exact h4 i (by omega) i1
theorem plO_b (ab : a ≤ b) : a ≤ plO W u a b ∧ plO W u a b ≤ b ∧ (plO W u a b < b → W (plO W u a b) = u) ∧ ∀ i, a ≤ i → i < plO W u a b → ¬ W i = u := by
  obtain ⟨h1, h2, h3, h4⟩ := plc_b (W := W) (u := u) (b - a).toNat a
  exact ⟨h1, by unfold plO; omega, fun q => h3 (by unfold plO at q; omega), h4⟩
theorem k_plO (hX : TX W n) (hC : rTc S 4 W n) (a0 : 0 ≤ a) (ab : a ≤ b) (bn : b ≤ n) (hu : rng u) (hK : K (plO W u a b) S) : wX7_placeOf u a b S K := by
  have hn := hX.1
  unfold wX7_placeOf
  refine fun _ _ _ => ⟨fun l1 l3 l4 S' => l1 = u ∧ l3 = b ∧ S' = S ∧ a ≤ l4 ∧ l4 ≤ b ∧ plc W u (b - l4).toNat l4 = plO W u a b, fun l1 l3 l4 S' => (b - l4).toNat, ⟨rfl, rfl, rfl, by omega, ab, rfl⟩, ?_⟩
  rintro l1 l3 l4 S' ⟨rfl, rfl, rfl, h0, h1, h2⟩
  refine ⟨⟨by omega, by omega⟩, ⟨by omega, by omega⟩, fun z => ?_, fun z => q_at hX hC (by omega) ?_⟩
  · have e1 : l4 = l3 := by omega
    rw [e1, show (l3 - l3).toNat = 0 by omega] at h2
    have h2 : l3 = plO W l1 a l3 := h2
    rw [← h2] at hK
    exact hK
  · have bb := tx_rng hX (show 0 ≤ l4 by omega)
    rw [show (l3 - l4).toNat = (l3 - (l4 + 1)).toNat + 1 by omega] at h2
    have h2 : (if W l4 = l1 then l4 else plc W l1 (l3 - (l4 + 1)).toNat (l4 + 1)) = plO W l1 a l3 := h2
    refine ⟨⟨by omega, by omega⟩, hu, fun w => ⟨⟨rfl, rfl, rfl, by omega, by omega, ?_⟩, ?_⟩, fun w => ?_⟩
    · rw [if_neg w] at h2
      exact h2
    · show (l3 - (l4 + 1)).toNat < (l3 - l4).toNat
      omega
    · rw [if_pos (Classical.not_not.mp w)] at h2
      rw [← h2] at hK
      exact hK
theorem nv_bd {L : List Int} {k : Nat} (hl : L.length ≤ k) : 0 ≤ (nvL L 0).getD 0 ∧ (nvL L 0).getD 0 < 10 ^ k := by
  have hk : (1 : Int) ≤ 10 ^ k := Int.pow_pos (by decide)
  cases h : nvL L 0 with
  | none =>
    show 0 ≤ (0 : Int) ∧ (0 : Int) < 10 ^ k
    exact ⟨Int.le_refl _, by omega⟩
  | some w =>
    obtain ⟨q1, q2⟩ := nvL_bd L 0 w (by decide) h
    have q3 : (10 : Int) ^ L.length ≤ 10 ^ k := by
      have := Nat.pow_le_pow_right (show 0 < 10 by decide) hl
      exact_mod_cast this
    show 0 ≤ w ∧ w < 10 ^ k
    exact ⟨q1, by omega⟩
theorem rkO_b : iv 0 999 (rkO W a b) := by
  unfold rkO
  by_cases q : b - 1 ≤ a ∨ 3 < b - 1 - a ∨ ¬ W (b - 1) = 93 ∨ W a = 48
  · rw [if_pos q]
    exact ⟨by decide, by decide⟩
  · rw [if_neg q]
    have h := nv_bd (L := sbT W a (b - 1)) (k := 3) (by rw [sbT_len]; omega)
    have h3 : ((10 : Int) ^ 3) = 1000 := by decide
    by_cases w : (nvL (sbT W a (b - 1)) 0).getD 0 = 1
    · rw [if_pos w]
      exact ⟨by decide, by decide⟩
    · rw [if_neg w]
      exact ⟨h.1, by have := h.2; omega⟩
theorem k_rank (hX : TX W n) (hC : rTc S 4 W n) (a0 : 0 ≤ a) (bn : b ≤ n) (b0 : 0 ≤ b) (hK : K (rkO W a b) S) : wX7_rank a b S K := by
  have hn := hX.1
  unfold rkO at hK
  unfold wX7_rank
  refine fun _ _ x1 e1 => ?_
  rw [e1]
  refine ⟨⟨by omega, by omega⟩, fun z => ?_, fun z => ⟨⟨by omega, by omega⟩, fun z2 => ?_, fun z2 => q_at hX hC (by omega) ?_⟩⟩
  · rw [if_pos (Or.inl z)] at hK
    exact hK
  · rw [if_pos (Or.inr (Or.inl z2))] at hK
    exact hK
  · have bb := tx_rng hX (show 0 ≤ b - 1 by omega)
    have ba := tx_rng hX a0
    refine ⟨⟨by omega, by omega⟩, fun z3 => ?_, fun z3 => q_at hX hC a0 ⟨⟨by omega, by omega⟩, fun z4 => ?_, fun z4 => ?_⟩⟩
    · rw [if_pos (Or.inr (Or.inr (Or.inl z3)))] at hK
      exact hK
    · rw [if_neg (fun w => by rcases w with w | w | w | w; exact z w; exact z2 w; exact w (Classical.not_not.mp z3); exact z4 w)] at hK
      refine ⟨fun l3 l4 l5 S' => l3 = b - 1 ∧ S' = S ∧ a ≤ l5 ∧ l5 ≤ b - 1 ∧ nvL (sbT W l5 (b - 1)) l4 = nvL (sbT W a (b - 1)) 0, fun l3 l4 l5 S' => (b - 1 - l5).toNat, ⟨rfl, rfl, by omega, by omega, rfl⟩, ?_⟩
      rintro l3 l4 l5 S' ⟨h3, rfl, h0, h1, h2⟩
      rw [h3]
      refine ⟨⟨by omega, by omega⟩, ⟨by omega, by omega⟩, fun q => ?_, fun q => q_at hX hC (by omega) ?_⟩
      · rw [sbT_nil q] at h2
        have h2 : some l4 = nvL (sbT W a (b - 1)) 0 := h2
        rw [← h2] at hK
        have hK : K (if l4 = 1 then 0 else l4) S' := hK
        have hb := nv_bd (L := sbT W a (b - 1)) (k := 3) (by rw [sbT_len]; omega)
        rw [← h2] at hb
        have hb : 0 ≤ l4 ∧ l4 < 10 ^ 3 := hb
        have h10 : ((10 : Int) ^ 3) = 1000 := by decide
        refine ⟨⟨by omega, by omega⟩, fun w => ?_, fun w => ?_⟩
        · rw [if_neg w] at hK
          exact hK
        · rw [if_pos (Classical.not_not.mp w)] at hK
          exact hK
      · have b2 := tx_rng hX (show 0 ≤ l5 by omega)
        rw [sbT_cons (show l5 < b - 1 by omega)] at h2
        refine ⟨⟨by omega, by omega⟩, k_isDg (fun r hr => ?_)⟩
        rcases hr with ⟨rfl, hd⟩ | ⟨rfl, hd⟩
        · refine ⟨⟨by decide, by decide⟩, fun _ => q_at hX hC (by omega) (fun x13 e13 => ⟨⟨rfl, rfl, by omega, by omega, ?_⟩, ?_⟩), fun w => absurd (by decide) w⟩
          · rw [e13]
            exact (if_pos hd).symm.trans h2
          · show (b - 1 - (l5 + 1)).toNat < (b - 1 - l5).toNat
            omega
        · have h3' : nvL (sbT W a (b - 1)) 0 = none := ((if_neg hd).symm.trans h2).symm
          rw [h3'] at hK
          exact ⟨⟨by decide, by decide⟩, fun w => absurd rfl w, fun _ => hK⟩
    · rw [if_pos (Or.inr (Or.inr (Or.inr (Classical.not_not.mp z4))))] at hK
      exact hK
theorem k_speltb (hX : TX T n) (hC : rTc S 1 T n) {n2 : Int} (hX2 : TX W n2) (hC2 : rTc S 4 W n2) (a0 : 0 ≤ a) (ab : a ≤ b) (bn : b ≤ n) (c0 : 0 ≤ c) (cd : c ≤ d) (dn : d ≤ n2) (hK : ∀ r, (r = 1 ∧ sbT T a b = sbT W c d) ∨ (r = 0 ∧ ¬ sbT T a b = sbT W c d) → K r S) : wX6_isSpelt_b a b c d S K := by
  have hn := hX.1
  have hn2 := hX2.1
  unfold wX6_isSpelt_b
  refine fun _ _ _ _ => ⟨⟨by omega, by omega⟩, ⟨by omega, by omega⟩, fun z => ?_, fun z => hK 0 (Or.inr ⟨rfl, fun w => z ((sbT_iff ab cd).mp w).1⟩)⟩
  refine ⟨fun l1 l2 l4 l6 S' => l1 = a ∧ l2 = b ∧ l4 = c ∧ S' = S ∧ 0 ≤ l6 ∧ l6 ≤ b - a ∧ ∀ i, 0 ≤ i → i < l6 → T (a + i) = W (c + i), fun l1 l2 l4 l6 S' => (b - a - l6).toNat, ⟨rfl, rfl, rfl, rfl, by decide, by omega, fun i i0 i1 => by omega⟩, ?_⟩
  rintro l1 l2 l4 l6 S' ⟨rfl, rfl, rfl, rfl, h0, h1, h2⟩
  refine ⟨⟨by omega, by omega⟩, ⟨by omega, by omega⟩, fun q => hK 1 (Or.inl ⟨rfl, (sbT_iff ab cd).mpr ⟨z, fun i i0 i1 => h2 i i0 (by omega)⟩⟩), fun q => ⟨⟨by omega, by omega⟩, q_at hX hC (by omega) ⟨⟨by omega, by omega⟩, q_at hX2 hC2 (by omega) ?_⟩⟩⟩
  have b1 := tx_rng hX (show 0 ≤ l1 + l6 by omega)
  have b2 := tx_rng hX2 (show 0 ≤ l4 + l6 by omega)
  refine ⟨⟨by omega, by omega⟩, ⟨by omega, by omega⟩, fun w => ⟨⟨rfl, rfl, rfl, rfl, by omega, by omega, fun i i0 i1 => ?_⟩, ?_⟩, fun w => hK 0 (Or.inr ⟨rfl, fun w2 => w (((sbT_iff ab cd).mp w2).2 l6 h0 (by omega))⟩)⟩
  · by_cases cc : i = l6
    · rw [cc]
      exact w
    · exact h2 i i0 (by omega)
  · show (l2 - l1 - (l6 + 1)).toNat < (l2 - l1 - l6).toNat
    omega
theorem cnt_zero {P : Int → Bool} : ∀ k : Nat, (∀ j : Int, 0 ≤ j → j < k → P j = false) → cnt P k = 0
  | 0, _ => rfl
  | k + 1, h => by
    unfold cnt
    rw [cnt_zero k (fun j j0 j1 => h j j0 (by omega)), if_neg (by rw [h k (by omega) (by omega)]; decide)]
    rfl
theorem cnt_b {P : Int → Bool} : ∀ k : Nat, 0 ≤ cnt P k ∧ cnt P k ≤ k
  | 0 => ⟨Int.le_refl _, Int.le_refl _⟩
  | k + 1 => by
    have := cnt_b (P := P) k
    unfold cnt
    by_cases q : P (k : Int) = true
    · rw [if_pos q]
      omega
    · rw [if_neg q]
      omega
theorem fnd_skip {P : Int → Bool} {N : Int} : ∀ (k : Nat) (i : Int), (i + k ≤ N) → (∀ j, i ≤ j → j < i + k → P j = false) → fnd P (N - i).toNat i = fnd P (N - (i + k)).toNat (i + k)
  | 0, i, _, _ => by rw [show i + ((0 : Nat) : Int) = i by omega]
  | k + 1, i, h, hP => by
    rw [fnd_at (by omega), if_neg (by rw [hP i (by omega) (by omega)]; decide), fnd_skip k (i + 1) (by omega) (fun j j0 j1 => hP j (by omega) (by omega)), show i + 1 + (k : Int) = i + ((k + 1 : Nat) : Int) by omega]
theorem ord_of (h1 : xPr X x = p) {L : List Int} (h2 : nmE T X x = L) : ord T X x = cnt (fun j => decide (xPr X j = p ∧ nmE T X j = L)) x.toNat + 1 := by
  unfold ord
  rw [h1, h2]
theorem k_child (h : CM T n X S) (p0 : -1 ≤ p) (p1 : p < X.1.length) (a0 : 0 ≤ a) (ab : a ≤ b) (bn : b ≤ X.2.2.length) (hr : iv 0 999 r) (hK : K (chd T X p (sbT (sgV X) a b) r) S) : wX6_child p a b r S K := by
  have l := h.len
  have v4 := h.v4
  unfold wX6_child
  refine fun _ _ _ _ x1 e1 => ?_
  rw [e1]
  have sk : ∀ j : Int, 0 ≤ j → j < p + 1 → decide (xPr X j = p ∧ nmE T X j = sbT (sgV X) a b) = false := fun j j0 j1 => by
    have := (cm_e h j0 (by omega)).2.2.2.2.2.1
    rw [decide_eq_false_iff_not]
    exact fun w => by omega
  refine ⟨fun l1 l2 l3 l4 l5 l6 S' => l1 = p ∧ l2 = a ∧ l3 = b ∧ l4 = r ∧ S' = S ∧ p + 1 ≤ l6 ∧ l6 ≤ X.1.length ∧ l5 = cnt (fun j => decide (xPr X j = p ∧ nmE T X j = sbT (sgV X) a b)) l6.toNat ∧ fnd (fun k => decide (xPr X k = p ∧ nmE T X k = sbT (sgV X) a b ∧ ord T X k = r)) ((X.1.length : Int) - l6).toNat l6 = chd T X p (sbT (sgV X) a b) r, fun l1 l2 l3 l4 l5 l6 S' => ((X.1.length : Int) - l6).toNat, ⟨rfl, rfl, rfl, rfl, rfl, by omega, by omega, (cnt_zero _ (fun j j0 j1 => sk j j0 (by omega))).symm, ?_⟩, ?_⟩
  · unfold chd
    have := fnd_skip (P := fun k => decide (xPr X k = p ∧ nmE T X k = sbT (sgV X) a b ∧ ord T X k = r)) (N := X.1.length) (p + 1).toNat 0 (by omega) (fun j j0 j1 => by
      have := sk j j0 (by omega)
      rw [decide_eq_false_iff_not] at this ⊢
      exact fun w => this ⟨w.1, w.2.1⟩)
    rw [show (0 : Int) + (((p + 1).toNat : Nat) : Int) = p + 1 by omega, show ((X.1.length : Int) - 0).toNat = X.1.length by omega] at this
    exact this.symm
  · rintro l1 l2 l3 l4 l5 l6 S' ⟨rfl, rfl, rfl, rfl, rfl, h0, h1, h2, h3⟩
    intro _
    rw [l.2.2.2.2.2.1]
    refine ⟨⟨by omega, by omega⟩, fun z => ?_, fun z => ?_⟩
    · rw [fnd_end z] at h3
      rw [← h3] at hK
      exact hK
    · have x0 : 0 ≤ l6 := by omega
      have x1 : l6 < X.1.length := by omega
      obtain ⟨⟨e7, e8, e9, -, -⟩, g1, g2, g3, g4, g5, -⟩ := cm_e h x0 x1
      have cb := cnt_b (P := fun j => decide (xPr X j = l1 ∧ nmE T X j = sbT (sgV X) l2 l3)) l6.toNat
      have step : ∀ w, w = (if decide (xPr X l6 = l1 ∧ nmE T X l6 = sbT (sgV X) l2 l3) = true then l5 + 1 else l5) → w = cnt (fun j => decide (xPr X j = l1 ∧ nmE T X j = sbT (sgV X) l2 l3)) (l6 + 1).toNat := fun w hw => by
        rw [show (l6 + 1).toNat = l6.toNat + 1 by omega]
        show w = cnt _ l6.toNat + (if decide (xPr X ((l6.toNat : Nat) : Int) = l1 ∧ nmE T X ((l6.toNat : Nat) : Int) = sbT (sgV X) l2 l3) = true then 1 else 0)
        rw [show ((l6.toNat : Nat) : Int) = l6 by omega, hw, h2]
        by_cases q : decide (xPr X l6 = l1 ∧ nmE T X l6 = sbT (sgV X) l2 l3) = true
        · rw [if_pos q, if_pos q]
        · rw [if_neg q, if_neg q, Int.add_zero]
      rw [fnd_at x1] at h3
      have next : ∀ w, w = (if decide (xPr X l6 = l1 ∧ nmE T X l6 = sbT (sgV X) l2 l3) = true then l5 + 1 else l5) → ¬ (xPr X l6 = l1 ∧ nmE T X l6 = sbT (sgV X) l2 l3 ∧ ord T X l6 = l4) → wX6_child_68 l1 l2 l3 l4 w l6 S' K (fun ml1 ml2 ml3 ml4 ml5 ml6 T' => (ml1 = l1 ∧ ml2 = l2 ∧ ml3 = l3 ∧ ml4 = l4 ∧ T' = S' ∧ l1 + 1 ≤ ml6 ∧ ml6 ≤ X.1.length ∧ ml5 = cnt (fun j => decide (xPr X j = l1 ∧ nmE T X j = sbT (sgV X) l2 l3)) ml6.toNat ∧ fnd (fun k => decide (xPr X k = l1 ∧ nmE T X k = sbT (sgV X) l2 l3 ∧ ord T X k = l4)) ((X.1.length : Int) - ml6).toNat ml6 = chd T X l1 (sbT (sgV X) l2 l3) l4) ∧ ((X.1.length : Int) - ml6).toNat < ((X.1.length : Int) - l6).toNat) := fun w hw hn => by
        unfold wX6_child_68
        rw [if_neg (by rw [decide_eq_true_eq]; exact hn)] at h3
        exact ⟨⟨rfl, rfl, rfl, rfl, rfl, by omega, by omega, step w hw, h3⟩, by omega⟩
      rw [e9]
      refine ⟨x0, by omega, fun _ => ⟨⟨by omega, by omega⟩, fun w => next l5 (by rw [if_neg (by rw [decide_eq_true_eq]; exact fun q => w q.1)]) (fun q => w q.1), fun w => ⟨x0, by omega, fun _ => ⟨x0, by omega, fun _ => ⟨⟨by omega, by omega⟩, ⟨by omega, by omega⟩, ?_⟩⟩⟩⟩⟩
      have w' : xPr X l6 = l1 := Classical.not_not.mp w
      rw [e7, e8]
      refine k_speltb h.1.1 h.1.2 v4.1 v4.2 (by omega) (by omega) g3 a0 ab bn (fun r hr => ?_)
      have hnm : sbT T ((gE X l6).1 + 1) (gE X l6).2.1 = nmE T X l6 := rfl
      rw [hnm] at hr
      rcases hr with ⟨rfl, hq⟩ | ⟨rfl, hq⟩
      · have ho := ord_of w' hq
        rw [← h2] at ho
        refine ⟨⟨by decide, by decide⟩, fun w => absurd w (by decide), fun _ => ⟨⟨by omega, by omega⟩, ⟨by omega, by omega⟩, fun w2 => next (l5 + 1) (by rw [if_pos (decide_eq_true ⟨w', hq⟩)]) (fun q => w2 (ho.symm.trans q.2.2)), fun w2 => ?_⟩⟩
        rw [if_pos (decide_eq_true ⟨w', hq, ho.trans (Classical.not_not.mp w2)⟩)] at h3
        rw [← h3] at hK
        exact hK
      · exact ⟨⟨by decide, by decide⟩, fun _ => next l5 (by rw [if_neg (by rw [decide_eq_true_eq]; exact fun q => hq q.2)]) (fun q => hq q.2.1), fun w => absurd rfl w⟩
theorem chd_b {L : List Int} : chd T X p L r = -1 ∨ (0 ≤ chd T X p L r ∧ chd T X p L r < X.1.length) := by
  unfold chd
  have := fnd_or (P := fun k => decide (xPr X k = p ∧ nmE T X k = L ∧ ord T X k = r)) X.1.length 0
  omega
/-- the step of a way at a: where it ends, and whose child it is -/
def stE (X : Xs) (a b : Int) : Int := plO (sgV X) 47 a b
def stC (T : Int → Int) (X : Xs) (e a b : Int) : Int := chd T X e (sbT (sgV X) a (plO (sgV X) 91 a (stE X a b))) (if plO (sgV X) 91 a (stE X a b) = stE X a b then 1 else rkO (sgV X) (plO (sgV X) 91 a (stE X a b) + 1) (stE X a b))
theorem dwn_s {k : Nat} {y : Int} (h : ¬ b < a) : dwn T X b (k + 1) y a = if stC T X y a b = -1 then -2 else dwn T X b k (stC T X y a b) (stE X a b + 1) := by
  show (if b < a then _ else _) = _
  rw [if_neg h]
  rfl
theorem dwn_e {k : Nat} {y : Int} (h : b < a) : dwn T X b k y a = y := by
  cases k with
  | zero => rfl
  | succ k =>
    show (if b < a then _ else _) = _
    rw [if_pos h]
theorem k_dwn {y : Int} (h : CM T n X S) (y0 : -1 ≤ y) (y1 : y < X.1.length) (a0 : 0 ≤ a) (bn : b ≤ X.2.2.length) (b0 : 0 ≤ b) (hK : K (dwA T X y a b) S) : wX7_down y a b S K := by
  have l := h.len
  have v4 := h.v4
  unfold wX7_down
  by_cases hab : b < a
  · refine fun g1 g2 g3 => ⟨fun l3 l4 l5 l6 S' => l3 = b ∧ l4 = y ∧ S' = S ∧ l6 = a, fun _ _ _ _ _ => 0, ⟨rfl, rfl, rfl, rfl⟩, ?_⟩
    rintro l3 l4 l5 l6 S' ⟨rfl, rfl, rfl, rfl⟩
    unfold dwA at hK
    rw [dwn_e hab] at hK
    exact ⟨g2, ⟨by omega, by omega⟩, fun _ => hK, fun z => absurd hab z⟩
  refine fun _ _ _ => ⟨fun l3 l4 l5 l6 S' => l3 = b ∧ S' = S ∧ -1 ≤ l4 ∧ l4 < X.1.length ∧ 0 ≤ l6 ∧ l6 ≤ l5 ∧ l5 ≤ b + 1 ∧ ∃ k : Nat, b + 1 - l5 ≤ k ∧ dwn T X b k l4 l5 = dwA T X y a b, fun l3 l4 l5 l6 S' => (b + 1 - l6).toNat, ⟨rfl, rfl, y0, y1, a0, Int.le_refl _, by omega, 3001, by omega, rfl⟩, ?_⟩
  rintro l3 l4 l5 l6 S' ⟨rfl, rfl, h0, h1, h2, h3, h4, k, hk, h5⟩
  refine ⟨⟨by omega, by omega⟩, ⟨by omega, by omega⟩, fun z => ?_, fun z => ⟨⟨by omega, by omega⟩, fun z2 => ?_, fun z2 => ?_⟩⟩
  · rw [dwn_e (by omega)] at h5
    rw [h5]
    exact hK
  · rw [dwn_e z2] at h5
    rw [h5]
    exact hK
  · obtain ⟨k', rfl⟩ : ∃ k', k = k' + 1 := ⟨k - 1, by omega⟩
    rw [dwn_s z2] at h5
    have q1 := plO_b (W := sgV X) (u := 47) (show l5 ≤ l3 by omega)
    have e1 : plO (sgV X) 47 l5 l3 = stE X l5 l3 := rfl
    rw [e1] at q1
    have q2 := plO_b (W := sgV X) (u := 91) (show l5 ≤ stE X l5 l3 from q1.1)
    refine k_plO v4.1 v4.2 (by omega) (by omega) bn ⟨by decide, by decide⟩ ⟨?_, ?_⟩
    · rw [e1]
      exact ⟨by omega, by omega⟩
    rw [e1]
    refine k_plO v4.1 v4.2 (by omega) q1.1 (by omega) ⟨by decide, by decide⟩ ⟨⟨by omega, by omega⟩, ?_⟩
    have go : ∀ rk, iv 0 999 rk → rk = (if plO (sgV X) 91 l5 (stE X l5 l3) = stE X l5 l3 then 1 else rkO (sgV X) (plO (sgV X) 91 l5 (stE X l5 l3) + 1) (stE X l5 l3)) → wX7_down_65 l3 l4 l5 l6 (stE X l5 l3) (plO (sgV X) 91 l5 (stE X l5 l3)) rk S' K (fun ml3 ml4 ml5 ml6 T' => (ml3 = l3 ∧ T' = S' ∧ -1 ≤ ml4 ∧ ml4 < X.1.length ∧ 0 ≤ ml6 ∧ ml6 ≤ ml5 ∧ ml5 ≤ l3 + 1 ∧ ∃ k : Nat, l3 + 1 - ml5 ≤ k ∧ dwn T X l3 k ml4 ml5 = dwA T X y a l3) ∧ (l3 + 1 - ml6).toNat < (l3 + 1 - l6).toNat) := fun rk hr er => by
      unfold wX7_down_65
      refine ⟨⟨by omega, by omega⟩, ⟨by omega, by omega⟩, ⟨by omega, by omega⟩, ⟨by omega, by omega⟩, k_child h h0 h1 (by omega) q2.1 (by omega) hr ?_⟩
      rw [er]
      have e2 : chd T X l4 (sbT (sgV X) l5 (plO (sgV X) 91 l5 (stE X l5 l3))) (if plO (sgV X) 91 l5 (stE X l5 l3) = stE X l5 l3 then 1 else rkO (sgV X) (plO (sgV X) 91 l5 (stE X l5 l3) + 1) (stE X l5 l3)) = stC T X l4 l5 l3 := rfl
      rw [e2]
      have cb : stC T X l4 l5 l3 = -1 ∨ (0 ≤ stC T X l4 l5 l3 ∧ stC T X l4 l5 l3 < X.1.length) := by
        rw [← e2]
        exact chd_b
      refine ⟨⟨by omega, by omega⟩, fun w x9 e9 => ?_, fun w => ?_⟩
      · rw [if_neg w] at h5
        refine ⟨⟨rfl, rfl, by omega, by omega, by omega, by omega, by omega, k', by omega, ?_⟩, by omega⟩
        rw [e9]
        exact h5
      · rw [if_pos (Classical.not_not.mp w)] at h5
        rw [h5]
        exact hK
    refine ⟨fun w => ⟨⟨by omega, by omega⟩, k_rank v4.1 v4.2 (by omega) (by omega) (by omega) (go _ rkO_b (by rw [if_neg w]))⟩, fun w => go 1 ⟨by decide, by decide⟩ (by rw [if_pos (Classical.not_not.mp w)])⟩
theorem k_goesUp (h : CM T n X S) (a0 : 0 ≤ a) (a1 : a ≤ b) (bn : b ≤ X.2.2.length) (hK : ∀ r, (r = 1 ∧ a + 2 ≤ b ∧ sgV X a = 46 ∧ sgV X (a + 1) = 46) ∨ (r = 0 ∧ ¬ (a + 2 ≤ b ∧ sgV X a = 46 ∧ sgV X (a + 1) = 46)) → K r S) : wX7_goesUp a b S K := by
  have l := h.len
  have v4 := h.v4
  have b1 := tx_rng v4.1 a0
  have b2 := tx_rng v4.1 (show 0 ≤ a + 1 by omega)
  unfold wX7_goesUp
  refine fun _ _ => ⟨⟨by omega, by omega⟩, fun z => hK 0 (Or.inr ⟨rfl, fun w => by omega⟩), fun z => q_at v4.1 v4.2 a0 ⟨⟨by omega, by omega⟩, fun z2 => hK 0 (Or.inr ⟨rfl, fun w => z2 w.2.1⟩), fun z2 => ⟨⟨by omega, by omega⟩, q_at v4.1 v4.2 (by omega) ⟨⟨by omega, by omega⟩, fun z3 => hK 0 (Or.inr ⟨rfl, fun w => z3 w.2.2⟩), fun z3 => hK 1 (Or.inl ⟨rfl, by omega, Classical.not_not.mp z2, Classical.not_not.mp z3⟩)⟩⟩⟩⟩
theorem k_way (h : CM T n X S) (x0 : 0 ≤ x) (x1 : x < X.1.length) (a0 : 0 ≤ a) (ab : a ≤ b) (bn : b ≤ X.2.2.length) (hK : K (wyE T X x a b) S) : wX7_end x a b S K := by
  have l := h.len
  have v4 := h.v4
  have ba := tx_rng v4.1 a0
  unfold wyE at hK
  have loop : ¬ (a < b ∧ sgV X a = 47) → wX7_end_28 x a b S K := fun hn => by
    rw [if_neg hn] at hK
    unfold wX7_end_28
    refine ⟨fun l3 l4 l5 l6 S' => l3 = b ∧ S' = S ∧ 0 ≤ l4 ∧ l4 < X.1.length ∧ 0 ≤ l6 ∧ l6 ≤ l5 ∧ l5 ≤ b ∧ ∃ k : Nat, b - l5 ≤ k ∧ upW T X b k l4 l5 = upW T X b 3001 x a, fun l3 l4 l5 l6 S' => (b - l6).toNat, ⟨rfl, rfl, x0, x1, a0, Int.le_refl _, ab, 3001, by omega, rfl⟩, ?_⟩
    rintro l3 l4 l5 l6 S' ⟨rfl, rfl, h0, h1, h2, h3, h4, k, hk, h5⟩
    have no : ¬ (l5 + 2 ≤ l3 ∧ sgV X l5 = 46 ∧ sgV X (l5 + 1) = 46) → wX7_end_119 l3 l4 l5 S' K := fun hz => by
      have e5 : upW T X l3 k l4 l5 = dwA T X l4 l5 l3 := by
        cases k with
        | zero => rfl
        | succ k =>
          show (if l5 + 2 ≤ l3 ∧ sgV X l5 = 46 ∧ sgV X (l5 + 1) = 46 then _ else _) = _
          rw [if_neg hz]
      rw [← h5, e5] at hK
      unfold wX7_end_119
      exact ⟨⟨by omega, by omega⟩, ⟨by omega, by omega⟩, ⟨by omega, by omega⟩, k_dwn h (by omega) h1 (by omega) bn (by omega) hK⟩
    refine ⟨⟨by omega, by omega⟩, ⟨by omega, by omega⟩, fun z => no (fun w => by omega), fun z => ⟨⟨by omega, by omega⟩, k_goesUp h (by omega) h4 bn (fun r hr => ?_)⟩⟩
    rcases hr with ⟨rfl, hw⟩ | ⟨rfl, hw⟩
    · obtain ⟨k', rfl⟩ : ∃ k', k = k' + 1 := ⟨k - 1, by omega⟩
      have h5 : (if l5 + 2 ≤ l3 ∧ sgV X l5 = 46 ∧ sgV X (l5 + 1) = 46 then (if xPr X l4 = -1 then -2 else if l5 + 2 = l3 then xPr X l4 else if sgV X (l5 + 2) = 47 then upW T X l3 k' (xPr X l4) (l5 + 3) else -2) else dwA T X l4 l5 l3) = upW T X l3 3001 x a := h5
      rw [if_pos hw] at h5
      rw [← h5] at hK
      obtain ⟨⟨-, -, e9, -, -⟩, -, -, -, g4, g5, -⟩ := cm_e h h0 h1
      have b2 := tx_rng v4.1 (show 0 ≤ l5 + 2 by omega)
      refine ⟨⟨by decide, by decide⟩, fun w => absurd w (by decide), fun _ => ⟨⟨by omega, by omega⟩, q_parent h h0 h1 ?_⟩⟩
      rw [e9]
      refine ⟨⟨by omega, by omega⟩, fun w => ?_, fun w => ⟨⟨by omega, by omega⟩, fun w2 => q_at v4.1 v4.2 (by omega) ⟨⟨by omega, by omega⟩, fun w3 => ⟨⟨rfl, rfl, by omega, by omega, by omega, by omega, by omega, k', by omega, ?_⟩, ?_⟩, fun w3 => ?_⟩, fun w2 => ?_⟩⟩
      · rw [if_pos w] at hK
        unfold wX7_end_79
        exact ⟨⟨by omega, by omega⟩, fun w2 => absurd w w2, fun _ => hK⟩
      · rw [if_neg w, if_neg w2, if_pos w3] at h5
        rw [show l5 + 2 + 1 = l5 + 3 by omega]
        exact h5
      · show (l3 - (l6 + 1)).toNat < (l3 - l6).toNat
        omega
      · rw [if_neg w, if_neg w2, if_neg w3] at hK
        exact hK
      · rw [if_neg w, if_pos (Classical.not_not.mp w2)] at hK
        unfold wX7_end_79
        exact ⟨⟨by omega, by omega⟩, fun _ => hK, fun w3 => absurd w w3⟩
    · exact ⟨⟨by decide, by decide⟩, fun _ => no hw, fun w => absurd rfl w⟩
  unfold wX7_end
  refine fun _ _ _ => ⟨fun z => loop (fun w => by omega), fun z => q_at v4.1 v4.2 a0 ⟨⟨by omega, by omega⟩, fun z2 => loop (fun w => z2 w.2), fun z2 => ⟨⟨by omega, by omega⟩, ?_⟩⟩⟩
  rw [if_pos ⟨by omega, Classical.not_not.mp z2⟩] at hK
  exact k_dwn h (by decide) (by omega) (by omega) bn (by omega) hK
theorem dwn_b (y0 : -2 ≤ p) (y1 : p < X.1.length) : ∀ (k : Nat) (y a : Int), -2 ≤ y → y < X.1.length → -2 ≤ dwn T X b k y a ∧ dwn T X b k y a < X.1.length
  | 0, y, a, h0, h1 => ⟨h0, h1⟩
  | k + 1, y, a, h0, h1 => by
    by_cases q : b < a
    · rw [dwn_e q]
      exact ⟨h0, h1⟩
    · rw [dwn_s q]
      have cb : stC T X y a b = -1 ∨ (0 ≤ stC T X y a b ∧ stC T X y a b < X.1.length) := chd_b
      by_cases w : stC T X y a b = -1
      · rw [if_pos w]
        omega
      · rw [if_neg w]
        exact dwn_b y0 y1 k _ _ (by omega) (by omega)
theorem upW_b (h : ∀ y : Int, 0 ≤ y → y < X.1.length → -1 ≤ xPr X y ∧ xPr X y < y) : ∀ (k : Nat) (y a : Int), 0 ≤ y → y < X.1.length → -2 ≤ upW T X b k y a ∧ upW T X b k y a < X.1.length
  | 0, y, a, h0, h1 => dwn_b (p := y) (by omega) h1 3001 y a (by omega) h1
  | k + 1, y, a, h0, h1 => by
    have hp := h y h0 h1
    unfold upW
    by_cases c1 : a + 2 ≤ b ∧ sgV X a = 46 ∧ sgV X (a + 1) = 46
    · rw [if_pos c1]
      by_cases c2 : xPr X y = -1
      · rw [if_pos c2]
        omega
      · rw [if_neg c2]
        by_cases c3 : a + 2 = b
        · rw [if_pos c3]
          omega
        · rw [if_neg c3]
          by_cases c4 : sgV X (a + 2) = 47
          · rw [if_pos c4]
            exact upW_b h k _ _ (by omega) (by omega)
          · rw [if_neg c4]
            omega
    · rw [if_neg c1]
      exact dwn_b (p := y) (by omega) h1 3001 y a (by omega) h1
theorem wyE_b (h : CM T n X S) (x0 : 0 ≤ x) (x1 : x < X.1.length) : -2 ≤ wyE T X x a b ∧ wyE T X x a b < X.1.length := by
  unfold wyE
  by_cases q : a < b ∧ sgV X a = 47
  · rw [if_pos q]
    exact dwn_b (p := 0) (by decide) (by omega) 3001 (-1) (a + 1) (by decide) (by omega)
  · rw [if_neg q]
    exact upW_b (fun y y0 y1 => ⟨(cm_e h y0 y1).2.2.2.2.1, (cm_e h y0 y1).2.2.2.2.2.1⟩) 3001 x a x0 x1
end QW

