/-! THE MODEL READS CLASSES: a field -/
section MF
variable {S S' S0 : St} {K : Int → St → Prop} {T : Int → Int} {n p q x : Int} {e : Env} {nm : List Int} {kd mk : Int}
/-- the mark is written -/
theorem m_295 {m : Int} (hx : iv 0 23 x) (hm : iv 0 1 m) (hp : S.1 54 22 = q) (h0 : iv 0 2999 q) (hK : ∀ S', Gx S S' x → S'.1 54 22 = q + m → S'.1 54 23 = S.1 54 23 → S'.1 54 24 = S.1 54 24 → S'.2 66 x = m → S'.2 65 x = S.2 65 x → nN S' (6 + x) = nN S (6 + x) → S'.2 63 (6 + x) = S.2 63 (6 + x) → K 0 S') : wX11_field_295 x m x S K := by
  refine ⟨by omega, by omega, hm, fun S2 e2 => ⟨by omega, by omega, fun _ => ?_⟩⟩
  have e66 : S2.2 66 x = m := by rw [e2, pA_if, if_pos rfl]
  have e22 : S2.1 54 22 = q := by rw [e2]; exact hp
  have g2 : Gx S S2 x := by rw [e2]; exact Gx.p66
  have k65 : S2.2 65 x = S.2 65 x := by rw [e2, (pA_ne 65 (by decide)).2]
  have k63 : S2.2 63 = S.2 63 := by rw [e2]; exact (pA_ne 63 (by decide)).2
  have k64 : S2.2 64 = S.2 64 := by rw [e2]; exact (pA_ne 64 (by decide)).2
  have fin : ∀ S3, S3 = pI S2 54 22 (q + m) → K 0 S3 := fun S3 e3 => by
    have t : S3.2 = S2.2 := by rw [e3]; rfl
    refine hK S3 (g2.tr (Gx.ml (by rw [e3]; exact Ml.p22) t)) (by rw [e3]; rfl) (by rw [e3, e2]; rfl) (by rw [e3, e2]; rfl) (by rw [t]; exact e66) (by rw [t]; exact k65) ?_ (by rw [t, k63])
    unfold nN
    rw [t, k63, k64]
  rw [e66, e22]
  refine ⟨fun h _ S3 e3 => fin S3 ?_, fun h _ => ⟨⟨by omega, by omega⟩, fun S3 e3 => fin S3 ?_⟩⟩
  · rw [e3, h]
    congr 1
    omega
  · rw [e3, show m = 1 by omega]
theorem m_268 {l5 : Int} (hx : iv 0 23 x) (hl5 : iv 0 1 l5) (hi : l5 = 1 ↔ ¬ eI e (nC e) = -1) (hX : TX T n) (hq0 : 0 ≤ q) (hp : S.1 54 22 = q + 2) (h0 : iv 0 2999 (q + 2)) (h65 : S.2 65 x = qK (T (q + 1))) (hN : ¬ (T (q + 2) = 64 ∧ qK (T (q + 1)) ≤ 1)) (hK : ∀ S', Gx S S' x → S'.1 54 22 = q + 2 + qM T e q → S'.1 54 23 = S.1 54 23 → S'.1 54 24 = S.1 54 24 → S'.2 66 x = qM T e q → S'.2 65 x = S.2 65 x → nN S' (6 + x) = nN S (6 + x) → S'.2 63 (6 + x) = S.2 63 (6 + x) → K 0 S') : wX11_field_268 x (mU T (q + 2)) l5 x S K := by
  have hb := mU_iv hX (p := q + 2) (by omega)
  have m0 : qM T e q = 0 → wX11_field_294 x x S K := fun h => m_295 hx ⟨by decide, by decide⟩ hp h0 (by rw [h] at hK; exact hK)
  refine ⟨⟨by omega, by omega⟩, fun h => m0 ?_, fun h => ⟨by omega, by omega, fun _ => ?_⟩⟩
  · have : ¬ T (q + 2) = 42 := fun y => h ((mU_eq (by decide)).mpr y)
    unfold qM
    rw [if_neg (by omega)]
  · have h42 : T (q + 2) = 42 := (mU_eq (by decide)).mp (Decidable.not_not.mp h)
    rw [h65]
    refine ⟨fun h2 => m0 ?_, fun h2 => ⟨⟨by omega, by omega⟩, fun h3 => m0 ?_, fun h3 => ?_⟩⟩
    · unfold qM
      rw [if_neg (by omega)]
    · have : ¬ eI e (nC e) = -1 := hi.mp (by omega)
      unfold qM
      rw [if_neg (by omega)]
    · have h4 : eI e (nC e) = -1 := by
        by_cases y : eI e (nC e) = -1
        · exact y
        · have := hi.mpr y
          omega
      have h5 : qM T e q = 1 := by
        unfold qM
        rw [if_pos (Or.inr ⟨h42, Decidable.not_not.mp h2, h4⟩)]
      exact m_295 hx ⟨by decide, by decide⟩ hp h0 (by rw [h5] at hK; exact hK)
/-- is there an implicit list? then the mark -/
theorem m_201 (hP : mP S0 e) (hG : Gx S0 S (4 * nC e + nF e)) (hV : PV e) (hc : 1 ≤ eC e) (hf : nF e < 4) (hX : TX T n) (hq0 : 0 ≤ q) (hp : S.1 54 22 = q + 2) (h0 : iv 0 2998 (q + 2) ∨ q + 2 ≤ n) (h65 : S.2 65 (4 * nC e + nF e) = qK (T (q + 1))) (hkd : ¬ qK (T (q + 1)) = -1) (hK : ∀ S', Gx S S' (4 * nC e + nF e) → S'.1 54 22 = q + 2 + qM T e q → S'.1 54 23 = S.1 54 23 → S'.1 54 24 = S.1 54 24 → S'.2 66 (4 * nC e + nF e) = qM T e q → S'.2 65 (4 * nC e + nF e) = S.2 65 (4 * nC e + nF e) → nN S' (6 + (4 * nC e + nF e)) = nN S (6 + (4 * nC e + nF e)) → S'.2 63 (6 + (4 * nC e + nF e)) = S.2 63 (6 + (4 * nC e + nF e)) → K 0 S') : wX11_field_201 (4 * nC e + nF e) (mU T (q + 2)) 0 (4 * nC e) S K := by
  have v1 := hV.1
  have hn := hX.1
  have okn : okC e (nC e) := ⟨by unfold nC; omega, by unfold nC; omega⟩
  have v2 := hV.2.1 (nC e) okn
  have hnF : iv 0 4 (nF e) := v2.1
  have hC : iv 0 5 (nC e) := by
    unfold nC
    exact ⟨by omega, by omega⟩
  have old : ∀ g, 0 ≤ g → g < nF e → S.2 65 (4 * nC e + g) = eD e (nC e) g ∧ S.2 66 (4 * nC e + g) = eM e (nC e) g := fun g g0 g1 => by
    rw [hG.2.2.2.2.1 _ (by omega), hG.2.2.2.2.2 _ (by omega)]
    exact hP.2.1 (nC e) g ⟨okn, g0, g1⟩
  refine ⟨fun l3 l4 l5 l6 S' => l3 = 4 * nC e + nF e ∧ l4 = mU T (q + 2) ∧ S' = S ∧ 4 * nC e ≤ l6 ∧ l6 ≤ 4 * nC e + nF e ∧ iv 0 1 l5 ∧ (l5 = 1 ↔ ∃ g, 0 ≤ g ∧ 4 * nC e + g < l6 ∧ g < nF e ∧ eI e (nC e) = g), fun l3 l4 l5 l6 S' => (24 - l6).toNat, ⟨rfl, rfl, rfl, by omega, by omega, ⟨by decide, by decide⟩, ⟨fun h => absurd h (by decide), fun ⟨g, g0, g1, _⟩ => by omega⟩⟩, fun l3 l4 l5 l6 S' hI => ?_⟩
  obtain ⟨i1, i2, i3, i4, i5, i6, i7⟩ := hI
  rw [i1, i2, i3]
  have hb := mU_iv hX (p := q + 2) (by omega)
  have go : ∀ x, iv 0 1 x → (x = 1 ↔ ∃ g, 0 ≤ g ∧ 4 * nC e + g < l6 + 1 ∧ g < nF e ∧ eI e (nC e) = g) → l6 < 4 * nC e + nF e → ((4 * nC e + nF e = 4 * nC e + nF e ∧ mU T (q + 2) = mU T (q + 2) ∧ S = S ∧ 4 * nC e ≤ l6 + 1 ∧ l6 + 1 ≤ 4 * nC e + nF e ∧ iv 0 1 x ∧ (x = 1 ↔ ∃ g, 0 ≤ g ∧ 4 * nC e + g < l6 + 1 ∧ g < nF e ∧ eI e (nC e) = g)) ∧ (24 - (l6 + 1)).toNat < (24 - l6).toNat) := fun x x1 x2 x3 => ⟨⟨rfl, rfl, rfl, by omega, by omega, x1, x2⟩, by omega⟩
  have iG : ∀ g, 0 ≤ g → g < nF e → (eI e (nC e) = g ↔ (eD e (nC e) g = 3 ∧ eM e (nC e) g = 1)) := v2.2.2.2
  have q2 : q + 2 ≤ 3000 := by omega
  refine ⟨⟨by omega, by omega⟩, ⟨by omega, by omega⟩, fun h => ?_, fun h => ⟨⟨by omega, by omega⟩, fun h2 => go 1 ⟨by decide, by decide⟩ ⟨fun _ => ?_, fun _ => rfl⟩ (by omega), fun h2 => ⟨by omega, by omega, fun _ => ⟨fun h3 => go 0 ⟨by decide, by decide⟩ ⟨fun y => absurd y (by decide), fun y => ?_⟩ (by omega), fun h3 => ⟨by omega, by omega, fun _ => ⟨fun h4 => go 0 ⟨by decide, by decide⟩ ⟨fun y => absurd y (by decide), fun y => ?_⟩ (by omega), fun h4 => go 1 ⟨by decide, by decide⟩ ⟨fun _ => ?_, fun _ => rfl⟩ (by omega)⟩⟩⟩⟩⟩⟩
  · have hi : l5 = 1 ↔ ¬ eI e (nC e) = -1 := by
      rw [i7]
      have w2 := v2.2.1
      have w3 : eI e (nC e) < nF e := v2.2.2.1
      exact ⟨fun ⟨g, g0, _, _, g3⟩ => by omega, fun y => ⟨eI e (nC e), by omega, by omega, w3, rfl⟩⟩
    have hx : iv 0 23 (4 * nC e + nF e) := ⟨by omega, by omega⟩
    by_cases hz : qM T e q = 1
    · have hin : q + 2 < n := hX.in (qM_n hz)
      have h0' : iv 0 2999 (q + 2) := ⟨by omega, by omega⟩
      have main : ¬ (T (q + 2) = 64 ∧ qK (T (q + 1)) ≤ 1) → wX11_field_268 (4 * nC e + nF e) (mU T (q + 2)) l5 (4 * nC e + nF e) S K := fun y => m_268 hx i6 hi hX hq0 hp h0' h65 y hK
      refine ⟨⟨by omega, by omega⟩, fun h2 => main (fun y => h2 ((mU_eq (by decide)).mpr y.1)), fun h2 => ⟨by omega, by omega, fun _ => ?_⟩⟩
      have h64 : T (q + 2) = 64 := (mU_eq (by decide)).mp (Decidable.not_not.mp h2)
      rw [h65]
      refine ⟨fun h3 => ?_, fun h3 => main (fun y => h3 y.2)⟩
      refine m_295 hx ⟨by decide, by decide⟩ hp h0' ?_
      rw [hz] at hK
      exact hK
    · have hz0 : qM T e q = 0 := by
        have := qM_iv T e q
        omega
      have m0 : wX11_field_294 (4 * nC e + nF e) (4 * nC e + nF e) S K := by
        refine ⟨by omega, by omega, ⟨by decide, by decide⟩, fun S2 e2 => ⟨by omega, by omega, fun _ => ?_⟩⟩
        have e66 : S2.2 66 (4 * nC e + nF e) = 0 := by rw [e2, pA_if, if_pos rfl]
        have e22 : S2.1 54 22 = q + 2 := by rw [e2]; exact hp
        rw [e66, e22]
        refine ⟨fun h _ S3 e3 => ?_, fun h => absurd rfl h⟩
        have t : S3.2 = S2.2 := by rw [e3]; rfl
        have g2 : Gx S S2 (4 * nC e + nF e) := by rw [e2]; exact Gx.p66
        refine hK S3 (g2.tr (Gx.ml (by rw [e3]; exact Ml.p22) t)) (by rw [e3, hz0]; show q + 2 = q + 2 + 0; omega) (by rw [e3, e2]; rfl) (by rw [e3, e2]; rfl) (by rw [t, hz0]; exact e66) (by rw [t, e2, (pA_ne 65 (by decide)).2]) ?_ (by rw [t, e2, (pA_ne 63 (by decide)).2])
        unfold nN
        rw [t, e2, (pA_ne 63 (by decide)).2, (pA_ne 64 (by decide)).2]
      have n64 : ¬ (T (q + 2) = 64 ∧ qK (T (q + 1)) ≤ 1) := fun y => by
        unfold qM at hz
        rw [if_pos (Or.inl y)] at hz
        exact hz rfl
      have n42 : ¬ (T (q + 2) = 42 ∧ qK (T (q + 1)) = 3 ∧ eI e (nC e) = -1) := fun y => by
        unfold qM at hz
        rw [if_pos (Or.inr y)] at hz
        exact hz rfl
      have main : wX11_field_268 (4 * nC e + nF e) (mU T (q + 2)) l5 (4 * nC e + nF e) S K := by
        refine ⟨⟨by omega, by omega⟩, fun _ => m0, fun h => ⟨by omega, by omega, fun _ => ⟨fun _ => m0, fun h2 => ⟨⟨by omega, by omega⟩, fun _ => m0, fun h3 => ?_⟩⟩⟩⟩
        have h42 : T (q + 2) = 42 := (mU_eq (by decide)).mp (Decidable.not_not.mp h)
        rw [h65] at h2
        refine absurd ⟨h42, Decidable.not_not.mp h2, ?_⟩ n42
        by_cases y : eI e (nC e) = -1
        · exact y
        · have := hi.mpr y
          omega
      refine ⟨⟨by omega, by omega⟩, fun h2 => main, fun h2 => ⟨by omega, by omega, fun _ => ?_⟩⟩
      have h64 : T (q + 2) = 64 := (mU_eq (by decide)).mp (Decidable.not_not.mp h2)
      rw [h65]
      exact ⟨fun h3 => absurd ⟨h64, h3⟩ n64, fun h3 => main⟩
  · obtain ⟨g, g0, g1, g2, g3⟩ := i7.mp (by omega)
    exact ⟨g, g0, by omega, g2, g3⟩
  · obtain ⟨g, g0, g1, g2, g3⟩ := y
    by_cases z : l6 = 4 * nC e + g
    · rw [z, (old g g0 g2).1] at h3
      exact absurd ((iG g g0 g2).mp g3).1 h3
    · have := i7.mpr ⟨g, g0, by omega, g2, g3⟩
      omega
  · obtain ⟨g, g0, g1, g2, g3⟩ := y
    by_cases z : l6 = 4 * nC e + g
    · rw [z, (old g g0 g2).2, ((iG g g0 g2).mp g3).2] at h4
      exact absurd h4 (by decide)
    · have := i7.mpr ⟨g, g0, by omega, g2, g3⟩
      omega
  · have o := old (l6 - 4 * nC e) (by omega) (by omega)
    rw [show 4 * nC e + (l6 - 4 * nC e) = l6 by omega] at o
    have m1 := (hV.2.2.1 (nC e) (l6 - 4 * nC e) ⟨okn, by omega, by show l6 - 4 * nC e < nF e; omega⟩).2
    refine ⟨l6 - 4 * nC e, by omega, by omega, by omega, (iG _ (by omega) (by omega)).mpr ⟨?_, ?_⟩⟩
    · rw [← o.1]
      exact Decidable.not_not.mp h3
    · rw [o.2] at h4
      omega
end MF

