/-! THE CLASS READS CLASSES: the rules of names -/
def wdC : List Int := [99, 108, 97, 115, 115]
def wdI : List Int := [105, 100]
def CB (e : Env) (c : Int) : Prop := ∃ d, 0 ≤ d ∧ d < c ∧ eR e d = eR e c
def FB (e : Env) (c f : Int) : Prop := eR e (6 + c * 4 + f) = wdC ∨ eR e (6 + c * 4 + f) = wdI ∨ ∃ g, 0 ≤ g ∧ g < f ∧ eR e (6 + c * 4 + g) = eR e (6 + c * 4 + f)
def MB (e : Env) (c f : Int) : Prop := ¬ eI e c = -1 ∧ ∃ k, okC e k ∧ eR e k = eR e (6 + c * 4 + f)
def Brk (e : Env) : Prop := (∃ c, okC e c ∧ CB e c) ∨ ∃ c f, okF e c f ∧ FB e c f
def Mix (e : Env) : Prop := ∃ c f, okF e c f ∧ MB e c f
def BadN (e : Env) : Prop := Brk e ∨ Mix e
theorem wdC_cat : catF (fun j => [sch 0 j]) 5 0 = wdC := by decide +kernel
theorem wdI_cat : catF (fun j => [sch 1 j]) 2 0 = wdI := by decide +kernel
theorem wdC_xl : xl wdC = wdC := by decide +kernel
theorem wdI_xl : xl wdI = wdI := by decide +kernel
section NR
variable {S : St} {K : Int → St → Prop} {T : Int → Int} {n p a b c f : Int} {e : Env}
theorem row_eq {g h : Int → Int} {m k : Int} (hm : 0 ≤ m) (hk : 0 ≤ k) : catF (fun i => [g i]) m.toNat 0 = catF (fun i => [h i]) k.toNat 0 ↔ (m = k ∧ ∀ j, 0 ≤ j → j < m → g j = h j) := by
  refine ⟨fun q => ?_, fun q => ?_⟩
  · have hl : m = k := by
      have := congrArg List.length q
      rw [catF_sl, catF_sl] at this
      omega
    rw [← hl] at q
    exact ⟨hl, fun j j1 j2 => catF_inj _ _ q j j1 (by omega)⟩
  · rw [← q.1]
    exact catF_eq _ _ (fun j j1 j2 => by rw [q.2 j j1 (by omega)])
theorem r_isTwin (ha : iv 0 29 a) (hb : iv 0 29 b) (a16 : iv 0 16 (S.2 35 a)) (b16 : iv 0 16 (S.2 35 b)) (hK1 : cRow S a = cRow S b → K 1 S) (hK0 : ¬ cRow S a = cRow S b → K 0 S) : wX4_isTwin a b S K := by
  have re : cRow S a = cRow S b ↔ _ := row_eq (g := fun i => S.2 34 (a * 16 + i)) (h := fun i => S.2 34 (b * 16 + i)) a16.1 b16.1
  unfold wX4_isTwin
  intro _ _
  refine ⟨fun h => absurd h (by omega), fun _ => ⟨fun h => absurd h (by omega), fun _ => ⟨fun h => absurd h (by omega), fun _ => ⟨fun h => absurd h (by omega), fun _ => ⟨by omega, by omega, fun _ => ⟨by omega, by omega, fun _ => ⟨fun hl => ?_, fun hl => hK0 (fun q => hl (re.mp q).1)⟩⟩⟩⟩⟩⟩⟩
  refine ⟨fun l1 l2 l3 S' => l1 = a ∧ l2 = b ∧ S' = S ∧ 0 ≤ l3 ∧ l3 ≤ S.2 35 a ∧ ∀ j, 0 ≤ j → j < l3 → S.2 34 (a * 16 + j) = S.2 34 (b * 16 + j), fun l1 l2 l3 S' => (16 - l3).toNat, ⟨rfl, rfl, rfl, by omega, by omega, fun j j1 j2 => absurd j2 (by omega)⟩, fun l1 l2 l3 S' hI => ?_⟩
  obtain ⟨i1, i2, i3, i4, i5, i6⟩ := hI
  rw [i1, i2, i3]
  refine ⟨by omega, by omega, fun _ => ⟨⟨by omega, by omega⟩, fun h => hK1 (re.mpr ⟨hl, fun j j1 j2 => i6 j j1 (by omega)⟩), fun h => ⟨by omega, by omega, fun _ => ⟨by omega, by omega, fun _ => ⟨fun h2 => ⟨⟨rfl, rfl, rfl, by omega, by omega, fun j j1 j2 => ?_⟩, by dsimp only; omega⟩, fun h2 => hK0 (fun q => h2 ((re.mp q).2 l3 i4 (by omega)))⟩⟩⟩⟩⟩
  by_cases z : j = l3
  · rw [z]
    exact h2
  · exact i6 j j1 (by omega)
theorem r_isW (ha : iv 0 29 a) (a16 : iv 0 16 (S.2 35 a)) (hK1 : cRow S a = wdC → K 1 S) (hK0 : ¬ cRow S a = wdC → K 0 S) : wX4_isWord a S K := by
  have re : cRow S a = wdC ↔ (S.2 35 a = 5 ∧ ∀ j, 0 ≤ j → j < S.2 35 a → S.2 34 (a * 16 + j) = sch 0 j) := by
    rw [← wdC_cat]
    exact row_eq (g := fun i => S.2 34 (a * 16 + i)) (h := fun j => sch 0 j) (k := 5) a16.1 (by decide)
  unfold wX4_isWord
  intro _
  refine ⟨fun h => absurd h (by omega), fun _ => ⟨fun h => absurd h (by omega), fun _ => ⟨by omega, by omega, fun _ => ⟨fun hl => ?_, fun hl => hK0 (fun q => hl (re.mp q).1)⟩⟩⟩⟩
  refine ⟨fun l1 l3 S' => l1 = a ∧ S' = S ∧ 0 ≤ l3 ∧ l3 ≤ 5 ∧ ∀ j, 0 ≤ j → j < l3 → S.2 34 (a * 16 + j) = sch 0 j, fun l1 l3 S' => (16 - l3).toNat, ⟨rfl, rfl, by omega, by omega, fun j j1 j2 => absurd j2 (by omega)⟩, fun l1 l3 S' hI => ?_⟩
  obtain ⟨i1, i3, i4, i5, i6⟩ := hI
  rw [i1, i3]
  refine ⟨by omega, by omega, fun _ => ⟨⟨by omega, by omega⟩, fun h => hK1 (re.mpr ⟨hl, fun j j1 j2 => i6 j j1 (by omega)⟩), fun h => ⟨by omega, by omega, fun _ => ⟨by omega, by omega, fun h2 => ⟨⟨rfl, rfl, by omega, by omega, fun j j1 j2 => ?_⟩, by dsimp only; omega⟩, fun h2 => hK0 (fun q => h2 ((re.mp q).2 l3 i4 (by omega)))⟩⟩⟩⟩
  by_cases z : j = l3
  · rw [z]
    exact h2
  · exact i6 j j1 (by omega)
theorem r_isWb (ha : iv 0 29 a) (a16 : iv 0 16 (S.2 35 a)) (hK1 : cRow S a = wdI → K 1 S) (hK0 : ¬ cRow S a = wdI → K 0 S) : wX4_isWord_b a S K := by
  have re : cRow S a = wdI ↔ (S.2 35 a = 2 ∧ ∀ j, 0 ≤ j → j < S.2 35 a → S.2 34 (a * 16 + j) = sch 1 j) := by
    rw [← wdI_cat]
    exact row_eq (g := fun i => S.2 34 (a * 16 + i)) (h := fun j => sch 1 j) (k := 2) a16.1 (by decide)
  unfold wX4_isWord_b
  intro _
  refine ⟨fun h => absurd h (by omega), fun _ => ⟨fun h => absurd h (by omega), fun _ => ⟨by omega, by omega, fun _ => ⟨fun hl => ?_, fun hl => hK0 (fun q => hl (re.mp q).1)⟩⟩⟩⟩
  refine ⟨fun l1 l3 S' => l1 = a ∧ S' = S ∧ 0 ≤ l3 ∧ l3 ≤ 2 ∧ ∀ j, 0 ≤ j → j < l3 → S.2 34 (a * 16 + j) = sch 1 j, fun l1 l3 S' => (16 - l3).toNat, ⟨rfl, rfl, by omega, by omega, fun j j1 j2 => absurd j2 (by omega)⟩, fun l1 l3 S' hI => ?_⟩
  obtain ⟨i1, i3, i4, i5, i6⟩ := hI
  rw [i1, i3]
  refine ⟨by omega, by omega, fun _ => ⟨⟨by omega, by omega⟩, fun h => hK1 (re.mpr ⟨hl, fun j j1 j2 => i6 j j1 (by omega)⟩), fun h => ⟨by omega, by omega, fun _ => ⟨by omega, by omega, fun h2 => ⟨⟨rfl, rfl, by omega, by omega, fun j j1 j2 => ?_⟩, by dsimp only; omega⟩, fun h2 => hK0 (fun q => h2 ((re.mp q).2 l3 i4 (by omega)))⟩⟩⟩⟩
  by_cases z : j = l3
  · rw [z]
    exact h2
  · exact i6 j j1 (by omega)
theorem r_hasTwin (ha : iv 0 29 a) (h16 : ∀ j, j = a ∨ (b ≤ j ∧ j < c) → iv 0 16 (S.2 35 j)) (hb : 0 ≤ b) (hc : c ≤ 30) (hbc : b ≤ c) (hK1 : (∃ j, b ≤ j ∧ j < c ∧ cRow S j = cRow S a) → K 1 S) (hK0 : (∀ j, b ≤ j → j < c → ¬ cRow S j = cRow S a) → K 0 S) : wX4_hasTwin a b c S K := by
  unfold wX4_hasTwin
  intro _ _ _
  refine ⟨fun l1 l3 l4 S' => l1 = a ∧ l3 = c ∧ S' = S ∧ b ≤ l4 ∧ l4 ≤ c ∧ ∀ j, b ≤ j → j < l4 → ¬ cRow S j = cRow S a, fun l1 l3 l4 S' => (30 - l4).toNat, ⟨rfl, rfl, rfl, by omega, by omega, fun j j1 j2 => absurd j2 (by omega)⟩, fun l1 l3 l4 S' hI => ?_⟩
  obtain ⟨i1, i2, i3, i4, i5, i6⟩ := hI
  rw [i1, i2, i3]
  refine ⟨⟨by omega, by omega⟩, ⟨by omega, by omega⟩, fun h => hK0 (fun j j1 j2 => i6 j j1 (by omega)), fun h => ⟨⟨by omega, by omega⟩, r_isTwin ha ⟨by omega, by omega⟩ (h16 a (Or.inl rfl)) (h16 l4 (Or.inr ⟨i4, by omega⟩)) (fun q => ⟨⟨by decide, by decide⟩, fun h => absurd h (by decide), fun _ => hK1 ⟨l4, i4, by omega, q.symm⟩⟩) (fun q => ⟨⟨by decide, by decide⟩, fun _ => ⟨⟨rfl, rfl, rfl, by omega, by omega, fun j j1 j2 => ?_⟩, by dsimp only; omega⟩, fun h => absurd rfl h⟩)⟩⟩
  by_cases z : j = l4
  · rw [z]
    exact fun y => q y.symm
  · exact i6 j j1 (by omega)
theorem row_R (hP : cP S e) (hV : PV e) (ha : okN e a) (hb : okN e b) : cRow S a = cRow S b ↔ eR e a = eR e b := by
  rw [(hP.2.2.2 a ha).2, (hP.2.2.2 b hb).2, (hV.2.2.2 a ha).1, (hV.2.2.2 b hb).1]
  exact ⟨fun q => xl_inj _ _ q, fun q => by rw [q]⟩
theorem row_w {w : List Int} (hP : cP S e) (hV : PV e) (ha : okN e a) (hw : xl w = w) : cRow S a = w ↔ eR e a = w := by
  rw [(hP.2.2.2 a ha).2, (hV.2.2.2 a ha).1]
  refine ⟨fun q => xl_inj _ _ (q.trans hw.symm), fun q => by rw [q, hw]⟩
theorem c_free (hP : cP S e) (hV : PV e) (hf : okF e c f) (hK1 : ¬ FB e c f → ¬ MB e c f → K 1 S) (hK0 : FB e c f ∨ MB e c f → K 0 S) : wX4_isFieldNameFree c f S K := by
  have v1 := hV.1
  have v2 := (hV.2.1 c hf.1)
  obtain ⟨⟨c0, c1⟩, f0, f1⟩ := id hf
  have hk : okN e (6 + c * 4 + f) := Or.inr ⟨c, f, hf, rfl⟩
  have w16 := (hP.2.2.2 _ hk).1
  have i39 : S.2 39 c = eI e c := (hP.2.1 c hf.1).2.1
  have tw : ∀ g, 0 ≤ g → g < f → okN e (6 + c * 4 + g) := fun g g0 g1 => Or.inr ⟨c, g, ⟨hf.1, g0, by omega⟩, rfl⟩
  unfold wX4_isFieldNameFree wX4_fieldName
  intro _ _ _ _
  refine ⟨⟨by omega, by omega⟩, r_isW ⟨by omega, by omega⟩ w16 (fun q => ⟨⟨by decide, by decide⟩, fun _ => hK0 (Or.inl (Or.inl ((row_w hP hV hk wdC_xl).mp q))), fun h => absurd (by decide) h⟩) (fun q1 => ⟨⟨by decide, by decide⟩, fun h => absurd rfl h, fun _ => r_isWb ⟨by omega, by omega⟩ w16 (fun q => ⟨⟨by decide, by decide⟩, fun h => absurd h (by decide), fun _ => hK0 (Or.inl (Or.inr (Or.inl ((row_w hP hV hk wdI_xl).mp q))))⟩) (fun q2 => ⟨⟨by decide, by decide⟩, fun _ => ?_, fun h => absurd rfl h⟩)⟩)⟩
  intro _ _
  refine ⟨⟨by omega, by omega⟩, r_hasTwin ⟨by omega, by omega⟩ (fun j hj => ?_) (by omega) (by omega) (by omega) (fun q => ⟨⟨by decide, by decide⟩, fun h => absurd h (by decide), fun _ => ?_⟩) (fun q3 => ⟨⟨by decide, by decide⟩, fun _ => ⟨by omega, by omega, fun _ => ?_⟩, fun h => absurd rfl h⟩)⟩
  · rcases hj with h | ⟨h1, h2⟩
    · rw [h]
      exact w16
    · have := tw (j - (6 + c * 4)) (by omega) (by omega)
      rw [show 6 + c * 4 + (j - (6 + c * 4)) = j by omega] at this
      exact (hP.2.2.2 j this).1
  · obtain ⟨j, j1, j2, j3⟩ := q
    have t := tw (j - (6 + c * 4)) (by omega) (by omega)
    have ej : 6 + c * 4 + (j - (6 + c * 4)) = j := by omega
    rw [ej] at t
    refine hK0 (Or.inl (Or.inr (Or.inr ⟨j - (6 + c * 4), by omega, by omega, ?_⟩)))
    rw [ej]
    exact (row_R hP hV t hk).mp j3
  · have nF' : ¬ FB e c f := by
      rintro (q | q | ⟨g, g0, g1, q⟩)
      · exact q1 ((row_w hP hV hk wdC_xl).mpr q)
      · exact q2 ((row_w hP hV hk wdI_xl).mpr q)
      · exact q3 (6 + c * 4 + g) (by omega) (by omega) ((row_R hP hV (tw g g0 g1) hk).mpr q)
    rw [i39, hP.1]
    refine ⟨fun h => hK1 nF' (fun y => y.1 h), fun h _ => ?_⟩
    refine r_hasTwin ⟨by omega, by omega⟩ (fun j hj => ?_) (by omega) (by omega) (by omega) (fun q => ⟨⟨by decide, by decide⟩, fun _ => hK0 (Or.inr ⟨h, ?_⟩), fun h => absurd (by decide) h⟩) (fun q => ⟨⟨by decide, by decide⟩, fun h => absurd rfl h, fun _ => hK1 nF' (fun y => ?_)⟩)
    · rcases hj with h | ⟨h1, h2⟩
      · rw [h]
        exact w16
      · exact (hP.2.2.2 j (Or.inl ⟨h1, h2⟩)).1
    · obtain ⟨j, j1, j2, j3⟩ := q
      exact ⟨j, ⟨j1, j2⟩, (row_R hP hV (Or.inl ⟨j1, j2⟩) hk).mp j3⟩
    · obtain ⟨-, k, hk2, k3⟩ := y
      exact q k hk2.1 hk2.2 ((row_R hP hV (Or.inl hk2) hk).mpr k3)
theorem c_obeys (hP : cP S e) (hV : PV e) (hK1 : ¬ BadN e → K 1 S) (hK0 : BadN e → K 0 S) : wX4_obeysNameRules S K := by
  have v1 := hV.1
  refine ⟨fun l1 S' => S' = S ∧ 0 ≤ l1 ∧ l1 ≤ eC e ∧ ∀ c, 0 ≤ c → c < l1 → ¬ CB e c ∧ ∀ f, okF e c f → ¬ FB e c f ∧ ¬ MB e c f, fun l1 S' => (6 - l1).toNat, ⟨rfl, by omega, by omega, fun c c1 c2 => absurd c2 (by omega)⟩, fun l1 S' hI => ?_⟩
  obtain ⟨i1, i2, i3, i4⟩ := hI
  rw [i1]
  unfold wX4_obeysNameRules_2'
  intro _
  rw [hP.1]
  refine ⟨⟨by omega, by omega⟩, fun h => hK1 ?_, fun h => ?_⟩
  · rintro ((⟨c, hc, q⟩ | ⟨c, f, hf, q⟩) | ⟨c, f, hf, q⟩)
    · have := hc.2
      exact (i4 c hc.1 (by omega)).1 q
    · have := hf.1.2
      exact ((i4 c hf.1.1 (by omega)).2 f hf).1 q
    · have := hf.1.2
      exact ((i4 c hf.1.1 (by omega)).2 f hf).2 q
  have okl : okC e l1 := ⟨i2, by omega⟩
  have v2 := (hV.2.1 l1 okl).1
  have e38 : S.2 38 l1 = eF e l1 := (hP.2.1 l1 okl).1
  refine r_hasTwin ⟨by omega, by omega⟩ (fun j hj => ?_) (by omega) (by omega) (by omega) (fun q => ⟨⟨by decide, by decide⟩, fun h => absurd h (by decide), fun _ => hK0 (Or.inl (Or.inl ⟨l1, okl, ?_⟩))⟩) (fun q3 => ⟨⟨by decide, by decide⟩, fun _ => ?_, fun h => absurd rfl h⟩)
  · refine (hP.2.2.2 j (Or.inl ⟨?_, ?_⟩)).1 <;> omega
  · obtain ⟨j, j1, j2, j3⟩ := q
    exact ⟨j, j1, j2, (row_R hP hV (Or.inl ⟨j1, by omega⟩) (Or.inl okl)).mp j3⟩
  have nC' : ¬ CB e l1 := fun ⟨d, d0, d1, d2⟩ => q3 d d0 d1 ((row_R hP hV (Or.inl ⟨d0, by omega⟩) (Or.inl okl)).mpr d2)
  refine ⟨fun m1 l2 S' => m1 = l1 ∧ S' = S ∧ 0 ≤ l2 ∧ l2 ≤ eF e l1 ∧ ∀ f, 0 ≤ f → f < l2 → ¬ FB e l1 f ∧ ¬ MB e l1 f, fun m1 l2 S' => (4 - l2).toNat, ⟨rfl, rfl, by omega, by omega, fun f f1 f2 => absurd f2 (by omega)⟩, fun m1 l2 S' hI => ?_⟩
  obtain ⟨j1, j2, j3, j4, j5⟩ := hI
  rw [j1, j2]
  refine ⟨by omega, by omega, fun _ => ?_⟩
  rw [e38]
  refine ⟨⟨by omega, by omega⟩, fun h => ⟨⟨rfl, by omega, by omega, fun c c1 c2 => ?_⟩, by dsimp only; omega⟩, fun h => ⟨⟨by omega, by omega⟩, c_free hP hV ⟨okl, j3, by omega⟩ (fun q1 q2 => ⟨⟨by decide, by decide⟩, fun _ => ⟨⟨rfl, rfl, by omega, by omega, fun f f1 f2 => ?_⟩, by dsimp only; omega⟩, fun h => absurd (by decide) h⟩) (fun q => ⟨⟨by decide, by decide⟩, fun h => absurd rfl h, fun _ => hK0 ?_⟩)⟩⟩
  · by_cases z : c = l1
    · rw [z]
      refine ⟨nC', fun f hf => j5 f hf.2.1 ?_⟩
      have := hf.2.2
      omega
    · exact i4 c c1 (by omega)
  · by_cases z : f = l2
    · rw [z]
      exact ⟨q1, q2⟩
    · exact j5 f f1 (by omega)
  · rcases q with q | q
    · exact Or.inl (Or.inr ⟨l1, l2, ⟨okl, j3, by omega⟩, q⟩)
    · exact Or.inr ⟨l1, l2, ⟨okl, j3, by omega⟩, q⟩
end NR

