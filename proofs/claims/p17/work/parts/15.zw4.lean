/-! WHAT ELEMENTS MEAN: the model: ids, classes named by values -/
section NI
variable {S S' : St} {K : Int → St → Prop} {T W : Int → Int} {n x y o f v u c r p a b d i k z w : Int} {X : Xs} {e : Env} {fb : Int → Int} {M M' : Mm} {L : List Int} {h h' : Hs}
theorem vlA_len (hC : CNm T n X S) (a0 : 0 ≤ a) (a1 : a < X.2.1.length) : ((vlA X a).length : Int) = (gAt X a).2.2.2 - (gAt X a).2.2.1 := by
  obtain ⟨-, -, -, -, k1, k2, k3⟩ := cn_a hC a0 a1
  unfold vlA
  rw [sbT_len]
  omega
theorem n_isId (hC : CNm T n X S) (x0 : 0 ≤ x) (x1 : x < X.1.length) (a0 : 0 ≤ a) (a1 : a < X.2.1.length) (hid : ∀ y, 0 ≤ y → y < x → S.2 102 y = M.2 4 y) (hz : ∀ y, x ≤ y → M.2 4 y = 0) (hK0 : (idV (vlA X a) = 0 ∨ ¬ wId M X.1.length (idV (vlA X a)) = -1) → ∀ S', (S' = S ∨ S' = pA S 102 x (idV (vlA X a))) → K 0 S') (hK : ¬ (idV (vlA X a) = 0 ∨ ¬ wId M X.1.length (idV (vlA X a)) = -1) → K 1 (pA S 102 x (idV (vlA X a)))) : wX11_isId x a S K := by
  have l := hC.len
  have vl := vlA_len hC a0 a1
  obtain ⟨⟨-, -, e94, e95⟩, -, -, -, k1, k2, k3⟩ := cn_a hC a0 a1
  have hvl : sbT (sgV X) (gAt X a).2.2.1 (gAt X a).2.2.2 = vlA X a := rfl
  obtain ⟨g, hg⟩ : ∃ g, g = (gAt X a).2.2.1 := ⟨_, rfl⟩
  obtain ⟨b, hb⟩ : ∃ b, b = (gAt X a).2.2.2 := ⟨_, rfl⟩
  rw [← hg, ← hb] at hvl k2 e95 vl
  rw [← hg] at e94 k1
  rw [← hb] at k3
  have idv : idV (vlA X a) = if (b - g).toNat = 0 ∨ 4 < (b - g).toNat ∨ (vlA X a).headD 0 = 48 then 0 else (nvL (vlA X a) 0).getD 0 := by
    unfold idV
    rw [show (vlA X a).length = (b - g).toNat by omega]
  have bad : idV (vlA X a) = 0 → K 0 S := fun q => hK0 (Or.inl q) S (Or.inl rfl)
  have t82 : ∀ v, (1 ≤ b - g → b - g ≤ 4 → ¬ (vlA X a).headD 0 = 48 ∧ nvL (vlA X a) 0 = some v) → wX11_isId_82 x (b - g) v S K := fun v hv => by
    unfold wX11_isId_82
    refine ⟨⟨by omega, by omega⟩, n_in (fun r hr => ?_)⟩
    rcases hr with ⟨rfl, hr⟩ | ⟨rfl, hr⟩
    · obtain ⟨v1, v2⟩ := hv hr.1 hr.2
      have e1 : idV (vlA X a) = v := by
        rw [idv, if_neg (by omega), v2]
        rfl
      obtain ⟨q1, q2⟩ := nvL_bd _ 0 v (by decide) v2
      have q3 : (10 : Int) ^ (vlA X a).length ≤ 10 ^ 4 := by
        have := Nat.pow_le_pow_right (show 0 < 10 by decide) (show (vlA X a).length ≤ 4 by omega)
        exact_mod_cast this
      have q4 : ((10 : Int) ^ 4) = 10000 := by decide
      -- the first figure isn't 0, so the number isn't
      have v0 : ¬ v = 0 := fun q0 => by
        have hc := sbT_cons (T := sgV X) (show g < b by omega)
        rw [hvl] at hc
        rw [hc] at v1 v2
        have v1 : ¬ sgV X g = 48 := v1
        have v2 : (if isDg (sgV X g) then nvL (sbT (sgV X) (g + 1) b) (0 * 10 + sgV X g - 48) else none) = some v := v2
        by_cases hd : isDg (sgV X g)
        · rw [if_pos hd] at v2
          have mono : ∀ (D : List Int) (s t : Int), 0 ≤ s → nvL D s = some t → s ≤ t := fun D => by
            induction D with
            | nil => intro s t _ q; injection q with q; omega
            | cons u l ih =>
              intro s t s0 q
              unfold nvL at q
              by_cases hu : isDg u
              · rw [if_pos hu] at q
                have hu1 : 48 ≤ u := hu.1
                have := ih _ t (by omega) q
                omega
              · rw [if_neg hu] at q
                cases q
          have hd1 : 48 ≤ sgV X g := hd.1
          have := mono _ _ v (by omega) v2
          omega
        · rw [if_neg hd] at v2
          cases v2
      rw [e1] at hK0 hK
      have wid : (wId M X.1.length v = -1 ↔ ∀ y, 0 ≤ y → y < x → ¬ S.2 102 y = v) := by
        unfold wId
        rw [if_neg v0]
        rcases fnd_or (P := fun k => decide (M.2 4 k = v)) X.1.length 0 with ⟨w1, w2⟩ | ⟨w1, w2, w3, -⟩
        · refine ⟨fun _ y y0 y1 q => ?_, fun _ => w1⟩
          have := w2 y y0 (by omega)
          rw [decide_eq_false_iff_not] at this
          exact this ((hid y y0 y1).symm.trans q)
        · refine ⟨fun q => absurd q (by omega), fun q => ?_⟩
          rw [decide_eq_true_eq] at w3
          by_cases w4 : fnd (fun k => decide (M.2 4 k = v)) X.1.length 0 < x
          · exact absurd ((hid _ w1 w4).trans w3) (q _ w1 w4)
          · rw [hz _ (by omega)] at w3
            exact absurd w3.symm v0
      refine ⟨⟨by decide, by decide⟩, fun _ => ⟨x0, by omega, ⟨by omega, by omega⟩, fun S7 e7 => ?_⟩, fun w => absurd (by decide) w⟩
      refine ⟨fun l1 l4 l5 l6 S' => l1 = x ∧ l4 = v ∧ S' = S7 ∧ 0 ≤ l6 ∧ l6 ≤ x ∧ ((l5 = 0 ∧ ∀ y, 0 ≤ y → y < l6 → ¬ S.2 102 y = v) ∨ (l5 = 1 ∧ ∃ y, 0 ≤ y ∧ y < x ∧ S.2 102 y = v)), fun l1 l4 l5 l6 S' => (x - l6).toNat, ⟨rfl, rfl, rfl, by decide, x0, Or.inl ⟨rfl, fun y y0 y1 => by omega⟩⟩, ?_⟩
      rintro l1 l4 l5 l6 S' ⟨rfl, rfl, rfl, h0, h1, h2⟩
      have r5 : rng l5 := by
        rcases h2 with ⟨w, -⟩ | ⟨w, -⟩
        · rw [w]
          exact ⟨by decide, by decide⟩
        · rw [w]
          exact ⟨by decide, by decide⟩
      have t130 : (∃ y, 0 ≤ y ∧ y < l1 ∧ S.2 102 y = l4) → l6 < l1 → wX11_isId_130 l1 l4 l6 S' K (fun ml1 ml4 ml5 ml6 T' => (ml1 = l1 ∧ ml4 = l4 ∧ T' = S' ∧ 0 ≤ ml6 ∧ ml6 ≤ l1 ∧ ((ml5 = 0 ∧ ∀ y, 0 ≤ y → y < ml6 → ¬ S.2 102 y = l4) ∨ (ml5 = 1 ∧ ∃ y, 0 ≤ y ∧ y < l1 ∧ S.2 102 y = l4))) ∧ (l1 - ml6).toNat < (l1 - l6).toNat) := fun q1 q2 => by
        unfold wX11_isId_130 wX11_isId_135
        exact ⟨⟨rfl, rfl, rfl, by omega, by omega, Or.inr ⟨rfl, q1⟩⟩, by omega⟩
      refine ⟨⟨by omega, by omega⟩, ⟨by omega, by omega⟩, fun q => ⟨r5, fun q5 => ?_, fun q5 => ?_⟩, fun q => ⟨r5, fun q5 => ?_, fun q5 => ⟨h0, by omega, fun _ => ?_⟩⟩⟩
      · rcases h2 with ⟨w, -⟩ | ⟨-, y, y0, y1, y2⟩
        · exact absurd w q5
        · exact hK0 (Or.inr (fun w => wid.mp w y y0 y1 y2)) S' (Or.inr e7)
      · rcases h2 with ⟨-, w⟩ | ⟨w, -⟩
        · have k := hK (fun w2 => w2.elim v0 (fun w2 => w2 (wid.mpr (fun y y0 y1 => w y y0 (by omega)))))
          rw [e7]
          exact k
        · omega
      · rcases h2 with ⟨w, -⟩ | ⟨-, w⟩
        · exact absurd w q5
        · exact t130 w (by omega)
      · have h2 := (h2.resolve_right (fun w => by have := w.1; omega)).2
        have e102 : S'.2 102 l6 = S.2 102 l6 := by
          rw [e7, pA_if, if_neg (by omega)]
        rw [e102]
        refine ⟨⟨by omega, by omega⟩, fun w => ?_, fun w => t130 ⟨l6, h0, by omega, Classical.not_not.mp w⟩ (by omega)⟩
        unfold wX11_isId_135
        refine ⟨⟨rfl, rfl, rfl, by omega, by omega, Or.inl ⟨rfl, fun y y0 y1 => ?_⟩⟩, ?_⟩
        · by_cases qy : y = l6
          · rw [qy]
            exact w
          · exact h2 y y0 (by omega)
        · show (l1 - (l6 + 1)).toNat < (l1 - l6).toNat
          omega
    · refine ⟨⟨by decide, by decide⟩, fun w => absurd rfl w, fun _ => bad ?_⟩
      rw [idv, if_pos (by omega)]
  unfold wX11_isId
  refine fun _ _ => ⟨a0, by omega, fun _ x3 e3 => ?_⟩
  rw [e95] at e3
  rw [e3]
  refine ⟨fun l1 l2 l3 l4 l5 S' => l1 = x ∧ l2 = a ∧ l3 = b - g ∧ S' = S ∧ 0 ≤ l5 ∧ l5 ≤ b - g ∧ l5 ≤ 5 ∧ nvL (sbT (sgV X) (g + l5) b) l4 = nvL (vlA X a) 0 ∧ (0 < l5 → ¬ (vlA X a).headD 0 = 48), fun l1 l2 l3 l4 l5 S' => (b - g - l5).toNat, ⟨rfl, rfl, rfl, rfl, by decide, by omega, by decide, by rw [← hvl, show g + 0 = g by omega], fun q => absurd q (by decide)⟩, ?_⟩
  rintro l1 l2 l3 l4 l5 S' ⟨rfl, rfl, rfl, rfl, h0, h1, h5, h2, h3⟩
  refine ⟨⟨by omega, by omega⟩, ⟨by omega, by omega⟩, fun q => t82 l4 (fun w1 w2 => ⟨h3 (by omega), ?_⟩), fun q => ⟨fun q2 => t82 l4 (fun w1 w2 => by omega), fun q2 => ⟨a0, by omega, fun _ => ?_⟩⟩⟩
  · rw [sbT_nil (by omega)] at h2
    exact h2.symm
  · rw [e94]
    obtain ⟨e96, -, hsn⟩ := cn_v hC (show 0 ≤ g + l5 by omega) (by omega)
    refine ⟨by omega, by omega, fun _ x9 e9 => ?_⟩
    rw [e96] at e9
    rw [e9]
    rw [sbT_cons (show g + l5 < b by omega)] at h2
    have hhd : l5 = 0 → (vlA X l2).headD 0 = sgV X g := fun w => by
      rw [← hvl, sbT_cons (by omega)]
      rfl
    refine n_isDg (fun r hr => ?_)
    rcases hr with ⟨rfl, hd⟩ | ⟨rfl, hd⟩
    · have go : (l5 = 0 → ¬ sgV X g = 48) → wX11_isId_63 l1 l2 (b - g) l4 l5 (sgV X (g + l5)) S' K (fun ml1 ml2 ml3 ml4 ml5 T' => (ml1 = l1 ∧ ml2 = l2 ∧ ml3 = b - g ∧ T' = S' ∧ 0 ≤ ml5 ∧ ml5 ≤ b - g ∧ ml5 ≤ 5 ∧ nvL (sbT (sgV X) (g + ml5) b) ml4 = nvL (vlA X l2) 0 ∧ (0 < ml5 → ¬ (vlA X l2).headD 0 = 48)) ∧ (b - g - ml5).toNat < (b - g - l5).toNat) := fun h48 => by
        unfold wX11_isId_63
        intro y1 ey
        refine ⟨⟨rfl, rfl, rfl, rfl, by omega, by omega, by omega, ?_, fun _ => ?_⟩, by omega⟩
        · rw [ey, show g + (l5 + 1) = g + l5 + 1 by omega]
          exact (if_pos hd).symm.trans h2
        · by_cases w : l5 = 0
          · rw [hhd w]
            exact h48 w
          · exact h3 (by omega)
      refine ⟨⟨by decide, by decide⟩, fun w => absurd w (by decide), fun _ => ⟨fun w => go (fun w2 => absurd w2 w), fun w => ⟨fun w2 => go (fun w3 => by rw [w3, show g + 0 = g by omega] at w2; exact w2), fun w2 => bad ?_⟩⟩⟩
      have w := Classical.not_not.mp w
      have w2 := Classical.not_not.mp w2
      rw [w, show g + 0 = g by omega] at w2
      rw [idv, if_pos (Or.inr (Or.inr ((hhd w).trans w2)))]
    · have h3' : nvL (vlA X l2) 0 = none := ((if_neg hd).symm.trans h2).symm
      refine ⟨⟨by decide, by decide⟩, fun _ => bad ?_, fun w => absurd rfl w⟩
      rw [idv, h3']
      by_cases w : (b - g).toNat = 0 ∨ 4 < (b - g).toNat ∨ (vlA X l2).headD 0 = 48
      · rw [if_pos w]
      · rw [if_neg w]
        rfl
theorem n_clV (hC : CNm T n X S) (hE : mE S e) (hV : EV e) (hX : XE e) (hf : ∀ c, okC e c → S.2 61 c = fb c) (a0 : 0 ≤ a) (a1 : a < X.2.1.length) (hK : K (mNg (clN e fb (vlA X a))) S) : wX11_classOfValue a S K := by
  have h6 := hV.2.1
  have h2 := hE.2.2.2.2.1
  have l := hC.len
  obtain ⟨⟨-, -, e94, e95⟩, -, -, -, k1, k2, k3⟩ := cn_a hC a0 a1
  have hvl : vlA X a = sbT (sgV X) (gAt X a).2.2.1 ((gAt X a).2.2.1 + ((gAt X a).2.2.2 - (gAt X a).2.2.1)) := by
    unfold vlA
    rw [show (gAt X a).2.2.1 + ((gAt X a).2.2.2 - (gAt X a).2.2.1) = (gAt X a).2.2.2 by omega]
  rw [hvl] at hK
  obtain ⟨z, hz⟩ : ∃ z, z = (gAt X a).2.2.2 - (gAt X a).2.2.1 := ⟨_, rfl⟩
  obtain ⟨g, hg⟩ : ∃ g, g = (gAt X a).2.2.1 := ⟨_, rfl⟩
  rw [← hz, ← hg] at hK
  rw [← hz] at e95
  rw [← hg] at e94
  have z0 : 0 ≤ z := by omega
  have g0 : 0 ≤ g := by omega
  have z1 : g + z ≤ X.2.2.length := by omega
  unfold wX11_classOfValue
  refine fun _ => ⟨fun l1 l2 l3 S' => l1 = a ∧ S' = S ∧ 0 ≤ l3 ∧ l3 ≤ eC e ∧ ((l2 = -2 ∧ ∀ c, 0 ≤ c → c < l3 → ¬ (fb c = 0 ∧ eL e c = sbT (sgV X) g (g + z))) ∨ (0 ≤ l2 ∧ l2 < l3 ∧ fb l2 = 0 ∧ eL e l2 = sbT (sgV X) g (g + z))), fun l1 l2 l3 S' => (eC e - l3).toNat, ⟨rfl, rfl, by decide, by omega, Or.inl ⟨rfl, fun c c0 c1 => by omega⟩⟩, ?_⟩
  rintro l1 l2 l3 S' ⟨rfl, rfl, h0, h1, h3⟩
  intro _
  rw [h2]
  refine ⟨⟨by omega, by omega⟩, fun q => ?_, fun q => ⟨h0, by omega, fun _ => ?_⟩⟩
  · rcases h3 with ⟨rfl, w⟩ | ⟨w1, w2, w3, w4⟩
    · rw [clN_non hV (fun c hc hl hz => w c hc.1 (by have := hc.2; omega) ⟨hz, hl⟩)] at hK
      exact hK
    · rw [clN_one hX ⟨w1, by omega⟩ w4 w3] at hK
      unfold mNg at hK
      rw [if_neg (by omega)] at hK
      exact hK
  · have hc : okC e l3 := ⟨h0, by omega⟩
    have hk : okN e l3 := Or.inl hc
    have cmp := cmpL (L := eL e l3) (W := sgV X) (a := g) (z := z) (eL_nz hX hk) (fun i i0 i1 => by have := isSn_b (cn_v hC (show 0 ≤ g + i by omega) (by omega)).2.2; omega) z0
    rw [hf l3 hc]
    have t99 : ∀ l4, ((l4 = 1 ∧ fb l3 = 0 ∧ eL e l3 = sbT (sgV X) g (g + z)) ∨ (l4 = 0 ∧ ¬ (fb l3 = 0 ∧ eL e l3 = sbT (sgV X) g (g + z)))) → wX11_classOfValue_99 l1 l2 l3 l4 S' K (fun ml1 ml2 ml3 T' => (ml1 = l1 ∧ T' = S' ∧ 0 ≤ ml3 ∧ ml3 ≤ eC e ∧ ((ml2 = -2 ∧ ∀ c, 0 ≤ c → c < ml3 → ¬ (fb c = 0 ∧ eL e c = sbT (sgV X) g (g + z))) ∨ (0 ≤ ml2 ∧ ml2 < ml3 ∧ fb ml2 = 0 ∧ eL e ml2 = sbT (sgV X) g (g + z)))) ∧ (eC e - ml3).toNat < (eC e - l3).toNat) := fun l4 hl4 => by
      unfold wX11_classOfValue_99 wX11_classOfValue_109
      rcases hl4 with ⟨rfl, w3, w4⟩ | ⟨rfl, hno⟩
      · exact ⟨⟨by decide, by decide⟩, fun w => absurd w (by decide), fun _ => ⟨⟨rfl, rfl, by omega, by omega, Or.inr ⟨h0, by omega, w3, w4⟩⟩, by omega⟩⟩
      · refine ⟨⟨by decide, by decide⟩, fun _ => ⟨⟨rfl, rfl, by omega, by omega, ?_⟩, by omega⟩, fun w => absurd rfl w⟩
        rcases h3 with ⟨w1, w2⟩ | ⟨w1, w2, w3, w4⟩
        · refine Or.inl ⟨w1, fun c c0 c1 => ?_⟩
          by_cases qc : c = l3
          · rw [qc]
            exact hno
          · exact w2 c c0 (by omega)
        · exact Or.inr ⟨w1, by omega, w3, w4⟩
    have t41 : ∀ s0, ((s0 = 1 ∧ fb l3 = 0 ∧ (eL e l3).getD z.toNat 0 = 0) ∨ (s0 = 0 ∧ ¬ (fb l3 = 0 ∧ (eL e l3).getD z.toNat 0 = 0))) → wX11_classOfValue_41 l1 l2 l3 s0 S' K (fun ml1 ml2 ml3 T' => (ml1 = l1 ∧ T' = S' ∧ 0 ≤ ml3 ∧ ml3 ≤ eC e ∧ ((ml2 = -2 ∧ ∀ c, 0 ≤ c → c < ml3 → ¬ (fb c = 0 ∧ eL e c = sbT (sgV X) g (g + z))) ∨ (0 ≤ ml2 ∧ ml2 < ml3 ∧ fb ml2 = 0 ∧ eL e ml2 = sbT (sgV X) g (g + z)))) ∧ (eC e - ml3).toNat < (eC e - l3).toNat) := fun s0 hs0 => by
      unfold wX11_classOfValue_41
      refine ⟨fun m1 m2 m3 m4 m5 S2 => m1 = l1 ∧ m2 = l2 ∧ m3 = l3 ∧ S2 = S' ∧ 0 ≤ m5 ∧ m5 ≤ z ∧ ((m4 = 1 ∧ fb l3 = 0 ∧ (eL e l3).getD z.toNat 0 = 0 ∧ ∀ i, 0 ≤ i → i < m5 → sgV X (g + i) = (eL e l3).getD i.toNat 0) ∨ (m4 = 0 ∧ ¬ (fb l3 = 0 ∧ eL e l3 = sbT (sgV X) g (g + z)))), fun m1 m2 m3 m4 m5 S2 => (z - m5).toNat, ⟨rfl, rfl, rfl, rfl, by decide, z0, ?_⟩, ?_⟩
      · rcases hs0 with ⟨w1, w2, w3⟩ | ⟨w1, w2⟩
        · exact Or.inl ⟨w1, w2, w3, fun i i0 i1 => by omega⟩
        · exact Or.inr ⟨w1, fun q => w2 ⟨q.1, (cmp.mpr q.2.symm).1⟩⟩
      · rintro m1 m2 m3 m4 m5 S2 ⟨rfl, rfl, rfl, rfl, i0, i1, i2⟩
        have r4 : rng m4 := by
          rcases i2 with ⟨w, -⟩ | ⟨w, -⟩
          · rw [w]
            exact ⟨by decide, by decide⟩
          · rw [w]
            exact ⟨by decide, by decide⟩
        refine ⟨a0, by omega, fun _ => ?_⟩
        rw [e95, e94]
        refine ⟨⟨by omega, by omega⟩, fun q5 => t99 m4 ?_, fun q5 => ⟨r4, fun q6 => t99 m4 ?_, fun q6 => ⟨a0, by omega, fun _ => ⟨by omega, by omega, fun _ => ⟨⟨by omega, by omega⟩, n_wsign hE hV hk i0 ?_⟩⟩⟩⟩⟩
        · rcases i2 with ⟨w1, w2, w3, w4⟩ | w
          · exact Or.inl ⟨w1, w2, (cmp.mp ⟨w3, fun i j0 j1 => w4 i j0 (by omega)⟩).symm⟩
          · exact Or.inr w
        · rcases i2 with ⟨w1, -⟩ | w
          · omega
          · exact Or.inr w
        · rcases i2 with ⟨rfl, w1, w2, w3⟩ | ⟨w, -⟩
          · have hb := eL_rng hX hk (d := m5.toNat)
            obtain ⟨e96, -, -⟩ := cn_v hC (show 0 ≤ g + m5 by omega) (by omega)
            rw [e96]
            unfold wX11_classOfValue_91
            refine ⟨⟨by omega, by omega⟩, fun w4 => ⟨⟨rfl, rfl, rfl, rfl, by omega, by omega, Or.inr ⟨rfl, fun q7 => w4 ((cmp.mpr q7.2.symm).2 m5 i0 (by omega))⟩⟩, ?_⟩, fun w4 => ⟨⟨rfl, rfl, rfl, rfl, by omega, by omega, Or.inl ⟨rfl, w1, w2, fun i j0 j1 => ?_⟩⟩, ?_⟩⟩
            · show (z - (m5 + 1)).toNat < (z - m5).toNat
              omega
            · by_cases q8 : i = m5
              · rw [q8]
                exact Classical.not_not.mp w4
              · exact w3 i j0 (by omega)
            · show (z - (m5 + 1)).toNat < (z - m5).toNat
              omega
          · exact absurd w q6
    unfold wX11_classOfValue_40
    refine ⟨fun w => t41 0 (Or.inr ⟨rfl, fun q2 => w q2.1⟩), fun w => ⟨a0, by omega, fun _ => ?_⟩⟩
    rw [e95]
    have hb := eL_rng hX hk (d := z.toNat)
    exact n_wsign hE hV hk z0 ⟨⟨by omega, by omega⟩, fun w2 => t41 0 (Or.inr ⟨rfl, fun q2 => w2 q2.2⟩), fun w2 => t41 1 (Or.inl ⟨rfl, Classical.not_not.mp w, Classical.not_not.mp w2⟩)⟩
end NI

