/-! THE MODEL READS CLASSES: what is mixed -/
section MX
variable {S : St} {K : Int → St → Prop} {e : Env} {c f : Int}
/-- a class's names against a field's -/
theorem m_95 {B4 : Int → Int → Int → St → Prop} {B76 : Int → Int → Int → Int → Int → St → Prop} {l2 l4 : Int} {P0 : Prop} (hP : mP S e) (hV : PV e) (hf : okF e c f) (h2 : iv 0 1 l2) (h2p : l2 = 1 ↔ P0) (hB : ∀ x, iv 0 1 x → (x = 1 ↔ (P0 ∨ ∃ k, okC e k ∧ eR e k = eR e (6 + c * 4 + f))) → B76 (eC e) x c l4 (f + 1) S) : wX11_isMixed_95 (eC e) l2 c l4 f 0 S K B4 B76 := by
  have v1 := hV.1
  have v2 := (hV.2.1 c hf.1).1
  obtain ⟨⟨c0, c1⟩, f0, f1⟩ := id hf
  have hk : okN e (6 + c * 4 + f) := Or.inr ⟨c, f, hf, rfl⟩
  have l8 : ∀ k, okN e k → iv 0 8 (S.2 63 k) := fun k o => by
    rw [(hP.2.2.1 k o).1]
    have := (hV.2.2.2 k o).2
    exact ⟨by omega, by omega⟩
  refine ⟨fun m1 m2 m3 m4 m5 m6 S' => m1 = eC e ∧ m3 = c ∧ m4 = l4 ∧ m5 = f ∧ S' = S ∧ 0 ≤ m6 ∧ m6 ≤ eC e ∧ iv 0 1 m2 ∧ (m2 = 1 ↔ (P0 ∨ ∃ k, 0 ≤ k ∧ k < m6 ∧ eR e k = eR e (6 + c * 4 + f))), fun m1 m2 m3 m4 m5 m6 S' => (6 - m6).toNat, ⟨rfl, rfl, rfl, rfl, rfl, by omega, v1.1, h2, ?_⟩, fun m1 m2 m3 m4 m5 m6 S' hI => ?_⟩
  · rw [h2p]
    exact ⟨fun y => Or.inl y, fun y => y.resolve_right (fun ⟨k, k1, k2, _⟩ => by omega)⟩
  obtain ⟨i1, i3, i4, i5, i6, i7, i8, i9, i10⟩ := hI
  rw [i1, i3, i4, i5, i6]
  have go : ∀ x, iv 0 1 x → (x = 1 ↔ (P0 ∨ ∃ k, 0 ≤ k ∧ k < m6 + 1 ∧ eR e k = eR e (6 + c * 4 + f))) → m6 < eC e → ((eC e = eC e ∧ c = c ∧ l4 = l4 ∧ f = f ∧ S = S ∧ 0 ≤ m6 + 1 ∧ m6 + 1 ≤ eC e ∧ iv 0 1 x ∧ (x = 1 ↔ (P0 ∨ ∃ k, 0 ≤ k ∧ k < m6 + 1 ∧ eR e k = eR e (6 + c * 4 + f)))) ∧ (6 - (m6 + 1)).toNat < (6 - m6).toNat) := fun x x1 x2 x3 => ⟨⟨rfl, rfl, rfl, rfl, rfl, by omega, by omega, x1, x2⟩, by omega⟩
  refine ⟨⟨by omega, by omega⟩, ⟨by omega, by omega⟩, fun h => hB m2 i9 ?_, fun h => ⟨⟨by omega, by omega⟩, fun h3 => go 1 ⟨by decide, by decide⟩ ⟨fun _ => ?_, fun _ => rfl⟩ (by omega), fun h3 => ⟨⟨by omega, by omega⟩, ?_⟩⟩⟩
  · rw [i10]
    constructor
    · rintro (y | ⟨k, k1, k2, k3⟩)
      · exact Or.inl y
      · exact Or.inr ⟨k, ⟨k1, by omega⟩, k3⟩
    · rintro (y | ⟨k, k1, k3⟩)
      · exact Or.inl y
      · have := k1.2
        exact Or.inr ⟨k, k1.1, by omega, k3⟩
  · rcases i10.mp (by omega) with y | ⟨k, k1, k2, k3⟩
    · exact Or.inl y
    · exact Or.inr ⟨k, k1, by omega, k3⟩
  · have ek : 6 + 4 * c + f = 6 + c * 4 + f := by omega
    have o6 : okN e m6 := Or.inl ⟨i7, by omega⟩
    rw [ek]
    refine m_alike ⟨by omega, by omega⟩ ⟨by omega, by omega⟩ (l8 m6 o6) (l8 _ hk) (fun q => ⟨⟨by decide, by decide⟩, fun y => absurd y (by decide), fun _ => go 1 ⟨by decide, by decide⟩ ⟨fun _ => Or.inr ⟨m6, i7, by omega, ?_⟩, fun _ => rfl⟩ (by omega)⟩) (fun q => ⟨⟨by decide, by decide⟩, fun _ => go 0 ⟨by decide, by decide⟩ ⟨fun y => absurd y (by decide), fun y => ?_⟩ (by omega), fun y => absurd rfl y⟩)
    · rw [(hP.2.2.1 m6 o6).2, (hP.2.2.1 _ hk).2] at q
      exact q
    · rw [(hP.2.2.1 m6 o6).2, (hP.2.2.1 _ hk).2] at q
      have n0 : ¬ m2 = 1 := by omega
      rcases y with y | ⟨k, k1, k2, k3⟩
      · exact absurd (i10.mpr (Or.inl y)) n0
      · by_cases z : k = m6
        · rw [z] at k3
          exact absurd k3 q
        · exact absurd (i10.mpr (Or.inr ⟨k, k1, by omega, k3⟩)) n0
theorem m_76 {B4 : Int → Int → Int → St → Prop} {l2 l4 : Int} {P0 : Prop} (hP : mP S e) (hV : PV e) (hc : okC e c) (h4 : iv 0 1 l4) (h4i : l4 = 1 ↔ ¬ eI e c = -1) (h2 : iv 0 1 l2) (h2p : l2 = 1 ↔ P0) (hB : ∀ x, iv 0 1 x → (x = 1 ↔ (P0 ∨ ∃ f, okF e c f ∧ MB e c f)) → B4 (eC e) x (c + 1) S) : wX11_isMixed_76 (eC e) l2 c l4 0 S K B4 := by
  have v1 := hV.1
  have v2 := (hV.2.1 c hc).1
  have c0 := hc.1
  have c1 := hc.2
  have e62 := hP.1 c hc
  refine ⟨fun m1 m2 m3 m4 m5 S' => m1 = eC e ∧ m3 = c ∧ m4 = l4 ∧ S' = S ∧ 0 ≤ m5 ∧ m5 ≤ eF e c ∧ iv 0 1 m2 ∧ (m2 = 1 ↔ (P0 ∨ ∃ f, 0 ≤ f ∧ f < m5 ∧ MB e c f)), fun m1 m2 m3 m4 m5 S' => (4 - m5).toNat, ⟨rfl, rfl, rfl, rfl, by omega, v2.1, h2, ?_⟩, fun m1 m2 m3 m4 m5 S' hI => ?_⟩
  · rw [h2p]
    exact ⟨fun y => Or.inl y, fun y => y.resolve_right (fun ⟨k, k1, k2, _⟩ => by omega)⟩
  obtain ⟨i1, i3, i4, i6, i7, i8, i9, i10⟩ := hI
  rw [i1, i3, i4, i6]
  refine ⟨c0, by omega, fun _ => ?_⟩
  rw [e62]
  refine ⟨⟨by omega, by omega⟩, fun h => hB m2 i9 ?_, fun h => ⟨⟨by omega, by omega⟩, fun h3 => hB m2 i9 ?_, fun h3 => m_95 hP hV ⟨hc, i7, by omega⟩ i9 i10 (fun x x1 x2 => ⟨⟨rfl, rfl, rfl, rfl, by omega, by omega, x1, ?_⟩, by dsimp only; omega⟩)⟩⟩
  · rw [i10]
    constructor
    · rintro (y | ⟨k, k1, k2, k3⟩)
      · exact Or.inl y
      · exact Or.inr ⟨k, ⟨hc, k1, by omega⟩, k3⟩
    · rintro (y | ⟨k, k1, k3⟩)
      · exact Or.inl y
      · have := k1.2.2
        exact Or.inr ⟨k, k1.2.1, by omega, k3⟩
  · rw [i10]
    have nI : eI e c = -1 := by
      by_cases y : eI e c = -1
      · exact y
      · have := h4i.mpr y
        omega
    constructor
    · rintro (y | ⟨k, k1, k2, k3⟩)
      · exact Or.inl y
      · exact absurd nI k3.1
    · rintro (y | ⟨k, k1, k3⟩)
      · exact Or.inl y
      · exact absurd nI k3.1
  · rw [x2]
    have yI : ¬ eI e c = -1 := h4i.mp (by omega)
    constructor
    · rintro ((y | ⟨k, k1, k2, k3⟩) | y)
      · exact Or.inl y
      · exact Or.inr ⟨k, k1, by omega, k3⟩
      · exact Or.inr ⟨m5, i7, by omega, yI, y⟩
    · rintro (y | ⟨k, k1, k2, k3⟩)
      · exact Or.inl (Or.inl y)
      · by_cases z : k = m5
        · rw [z] at k3
          exact Or.inr k3.2
        · exact Or.inl (Or.inr ⟨k, k1, by omega, k3⟩)
theorem m_mixed (hP : mP S e) (hV : PV e) (hK1 : Mix e → K 1 S) (hK0 : ¬ Mix e → K 0 S) : wX11_isMixed (eC e) S K := by
  have v1 := hV.1
  unfold wX11_isMixed
  intro _
  refine ⟨fun m1 m2 m3 S' => m1 = eC e ∧ S' = S ∧ 0 ≤ m3 ∧ m3 ≤ eC e ∧ iv 0 1 m2 ∧ (m2 = 1 ↔ ∃ c f, c < m3 ∧ okF e c f ∧ MB e c f), fun m1 m2 m3 S' => (6 - m3).toNat, ⟨rfl, rfl, by omega, v1.1, ⟨by decide, by decide⟩, ⟨fun h => absurd h (by decide), fun ⟨c, f, c1, c2, _⟩ => by have := c2.1.1; omega⟩⟩, fun m1 m2 m3 S' hI => ?_⟩
  obtain ⟨i1, i3, i4, i5, i6, i7⟩ := hI
  rw [i1, i3]
  refine ⟨⟨by omega, by omega⟩, ⟨by omega, by omega⟩, fun h => ⟨i6, ?_⟩, fun h => ?_⟩
  · by_cases z : m2 = 1
    · rw [z]
      obtain ⟨c, f, -, c2, c3⟩ := i7.mp z
      exact hK1 ⟨c, f, c2, c3⟩
    · rw [show m2 = 0 by omega]
      refine hK0 (fun ⟨c, f, c2, c3⟩ => z (i7.mpr ⟨c, f, ?_, c2, c3⟩))
      have := c2.1.2
      omega
  have okc : okC e m3 := ⟨i4, by omega⟩
  have v2 := hV.2.1 m3 okc
  have e62 := hP.1 m3 okc
  refine ⟨fun n1 n2 n3 n4 n5 S' => n1 = eC e ∧ n2 = m2 ∧ n3 = m3 ∧ S' = S ∧ 0 ≤ n5 ∧ n5 ≤ eF e m3 ∧ iv 0 1 n4 ∧ (n4 = 1 ↔ ∃ f, 0 ≤ f ∧ f < n5 ∧ eI e m3 = f), fun n1 n2 n3 n4 n5 S' => (4 - n5).toNat, ⟨rfl, rfl, rfl, rfl, by omega, by omega, ⟨by decide, by decide⟩, ⟨fun h => absurd h (by decide), fun ⟨f, f1, f2, _⟩ => by omega⟩⟩, fun n1 n2 n3 n4 n5 S' hI => ?_⟩
  obtain ⟨j1, j2, j3, j4, j5, j6, j7, j8⟩ := hI
  rw [j1, j2, j3, j4]
  refine ⟨i4, by omega, fun _ => ?_⟩
  rw [e62]
  have go : ∀ x, iv 0 1 x → (x = 1 ↔ ∃ f, 0 ≤ f ∧ f < n5 + 1 ∧ eI e m3 = f) → n5 < eF e m3 → ((eC e = eC e ∧ m2 = m2 ∧ m3 = m3 ∧ S = S ∧ 0 ≤ n5 + 1 ∧ n5 + 1 ≤ eF e m3 ∧ iv 0 1 x ∧ (x = 1 ↔ ∃ f, 0 ≤ f ∧ f < n5 + 1 ∧ eI e m3 = f)) ∧ (4 - (n5 + 1)).toNat < (4 - n5).toNat) := fun x x1 x2 x3 => ⟨⟨rfl, rfl, rfl, rfl, by omega, by omega, x1, x2⟩, by omega⟩
  refine ⟨⟨by omega, by omega⟩, fun h2 => ?_, fun h2 => ⟨⟨by omega, by omega⟩, fun h3 => go 1 ⟨by decide, by decide⟩ ⟨fun _ => ?_, fun _ => rfl⟩ (by omega), fun h3 => ⟨by omega, by omega, fun _ => ?_⟩⟩⟩
  · refine m_76 hP hV okc j7 ?_ i6 i7 (fun x x1 x2 => ⟨⟨rfl, rfl, by omega, by omega, x1, ?_⟩, by dsimp only; omega⟩)
    · rw [j8]
      have w1 := v2.2.1
      have w2 := v2.2.2.1
      exact ⟨fun ⟨f, f1, f2, f3⟩ => by omega, fun y => ⟨eI e m3, by omega, by omega, rfl⟩⟩
    · rw [x2]
      constructor
      · rintro (⟨c, f, c1, c2, c3⟩ | ⟨f, c2, c3⟩)
        · exact ⟨c, f, by omega, c2, c3⟩
        · exact ⟨m3, f, by omega, c2, c3⟩
      · rintro ⟨c, f, c1, c2, c3⟩
        by_cases z : c = m3
        · rw [z] at c2 c3
          exact Or.inr ⟨f, c2, c3⟩
        · exact Or.inl ⟨c, f, by omega, c2, c3⟩
  · obtain ⟨f, f1, f2, f3⟩ := j8.mp (by omega)
    exact ⟨f, f1, by omega, f3⟩
  · have okf : okF e m3 n5 := ⟨okc, j5, by omega⟩
    obtain ⟨d1, d2⟩ := hP.2.1 m3 n5 okf
    have iG := v2.2.2.2 n5 j5 (by omega)
    have m1' := (hV.2.2.1 m3 n5 okf).2
    have no : ¬ eI e m3 = n5 → ∀ x : Int, x = 0 → (x = 1 ↔ ∃ f, 0 ≤ f ∧ f < n5 + 1 ∧ eI e m3 = f) := fun z x hx => by
      rw [hx]
      refine ⟨fun y => absurd y (by decide), fun ⟨f, f1, f2, f3⟩ => ?_⟩
      by_cases w : f = n5
      · rw [w] at f3
        exact absurd f3 z
      · have := j8.mpr ⟨f, f1, by omega, f3⟩
        omega
    rw [d1]
    refine ⟨fun h4 => go 0 ⟨by decide, by decide⟩ (no (fun y => h4 (iG.mp y).1) 0 rfl) (by omega), fun h4 => ⟨by omega, by omega, fun _ => ?_⟩⟩
    rw [d2]
    refine ⟨fun h5 => go 0 ⟨by decide, by decide⟩ (no (fun y => ?_) 0 rfl) (by omega), fun h5 => go 1 ⟨by decide, by decide⟩ ⟨fun _ => ⟨n5, j5, by omega, iG.mpr ⟨Decidable.not_not.mp h4, by omega⟩⟩, fun _ => rfl⟩ (by omega)⟩
    have := (iG.mp y).2
    omega
end MX

