/-! THE MODEL READS CLASSES: names are compared -/
def mLo (w i : Int) : Int := if w = 0 then (if i = 0 then 99 else if i = 1 then 108 else if i = 2 then 97 else 115) else (if i = 0 then 105 else 100)
theorem mLoC : catF (fun j => [mLo 0 j]) 5 0 = wdC := by decide +kernel
theorem mLoI : catF (fun j => [mLo 1 j]) 2 0 = wdI := by decide +kernel
section MA
variable {S : St} {K : Int → St → Prop} {T : Int → Int} {n p k u a b : Int}
theorem m_alike (ha : iv 0 29 a) (hb : iv 0 29 b) (a8 : iv 0 8 (S.2 63 a)) (b8 : iv 0 8 (S.2 63 b)) (hK1 : nN S a = nN S b → K 1 S) (hK0 : ¬ nN S a = nN S b → K 0 S) : wX11_areAlike a b S K := by
  have re : nN S a = nN S b ↔ _ := row_eq (g := fun i => S.2 64 (8 * a + i)) (h := fun i => S.2 64 (8 * b + i)) a8.1 b8.1
  have lp : ∀ x, ((x = 1 ∧ S.2 63 a = S.2 63 b) ∨ (x = 0 ∧ ¬ nN S a = nN S b)) → wX11_areAlike_24 a b x 0 S K := fun x hx => by
    refine ⟨fun l1 l2 l3 l4 S' => l1 = a ∧ l2 = b ∧ S' = S ∧ 0 ≤ l4 ∧ l4 ≤ 9 ∧ ((l3 = 1 ∧ S.2 63 a = S.2 63 b ∧ l4 ≤ S.2 63 a ∧ ∀ j, 0 ≤ j → j < l4 → S.2 64 (8 * a + j) = S.2 64 (8 * b + j)) ∨ (l3 = 0 ∧ ¬ nN S a = nN S b)), fun l1 l2 l3 l4 S' => (9 - l4).toNat, ⟨rfl, rfl, rfl, by omega, by omega, ?_⟩, fun l1 l2 l3 l4 S' hI => ?_⟩
    · rcases hx with ⟨x1, x2⟩ | x
      · exact Or.inl ⟨x1, x2, a8.1, fun j j1 j2 => absurd j2 (by omega)⟩
      · exact Or.inr x
    obtain ⟨i1, i2, i3, i4, i5, i6⟩ := hI
    rw [i1, i2, i3]
    have b3 : iv 0 1 l3 := by
      rcases i6 with ⟨z, -⟩ | ⟨z, -⟩ <;> exact ⟨by omega, by omega⟩
    have kz : l3 = 0 → K l3 S := fun z => by
      rw [z]
      rcases i6 with ⟨y, -⟩ | ⟨-, y⟩
      · omega
      · exact hK0 y
    refine ⟨by omega, by omega, fun _ => ⟨⟨by omega, by omega⟩, fun h => ⟨b3, ?_⟩, fun h => ⟨⟨by omega, by omega⟩, fun h2 => ⟨b3, kz h2⟩, fun h2 => ⟨by omega, by omega, fun _ => ⟨by omega, by omega, fun _ => ⟨fun h3 => ⟨⟨rfl, rfl, rfl, by omega, by omega, Or.inr ⟨rfl, fun q => h3 ((re.mp q).2 l4 i4 (by omega))⟩⟩, by dsimp only; omega⟩, fun h3 => ⟨⟨rfl, rfl, rfl, by omega, by omega, ?_⟩, by dsimp only; omega⟩⟩⟩⟩⟩⟩⟩
    · rcases i6 with ⟨y, y2, y3, y4⟩ | ⟨y, -⟩
      · rw [y]
        exact hK1 (re.mpr ⟨y2, fun j j1 j2 => y4 j j1 (by omega)⟩)
      · exact kz y
    · rcases i6 with ⟨y, y2, y3, y4⟩ | ⟨y, -⟩
      · refine Or.inl ⟨rfl, y2, by omega, fun j j1 j2 => ?_⟩
        by_cases z : j = l4
        · rw [z]
          exact Decidable.not_not.mp h3
        · exact y4 j j1 (by omega)
      · exact absurd y h2
  unfold wX11_areAlike
  intro _ _
  refine ⟨by omega, by omega, fun _ => ⟨by omega, by omega, fun _ => ⟨fun h => lp 0 (Or.inr ⟨rfl, fun q => h (re.mp q).1⟩), fun h => lp 1 (Or.inl ⟨rfl, Decidable.not_not.mp h⟩)⟩⟩⟩
theorem m_letter {w i : Int} (hK : K (mLo w i) S) : wX11_letterOf w i S K := by
  unfold wX11_letterOf
  intro _ _
  unfold mLo at hK
  by_cases h : w = 0
  · rw [if_pos h] at hK
    refine ⟨fun q => absurd h q, fun _ => ?_⟩
    by_cases h1 : i = 0
    · rw [if_pos h1] at hK
      exact ⟨fun q => absurd h1 q, fun _ => hK⟩
    · rw [if_neg h1] at hK
      refine ⟨fun _ => ?_, fun q => absurd h1 q⟩
      by_cases h2 : i = 1
      · rw [if_pos h2] at hK
        exact ⟨fun q => absurd h2 q, fun _ => hK⟩
      · rw [if_neg h2] at hK
        refine ⟨fun _ => ?_, fun q => absurd h2 q⟩
        by_cases h3 : i = 2
        · rw [if_pos h3] at hK
          exact ⟨fun q => absurd h3 q, fun _ => hK⟩
        · rw [if_neg h3] at hK
          exact ⟨fun _ => hK, fun q => absurd h3 q⟩
  · rw [if_neg h] at hK
    refine ⟨fun _ => ?_, fun q => absurd h q⟩
    by_cases h1 : i = 0
    · rw [if_pos h1] at hK
      exact ⟨fun q => absurd h1 q, fun _ => hK⟩
    · rw [if_neg h1] at hK
      exact ⟨fun _ => hK, fun q => absurd h1 q⟩
theorem mLo_iv (w i : Int) : rng (mLo w i) := by
  unfold mLo
  split
  · split
    · exact ⟨by decide, by decide⟩
    · split
      · exact ⟨by decide, by decide⟩
      · split <;> exact ⟨by decide, by decide⟩
  · split <;> exact ⟨by decide, by decide⟩
theorem m_word {w m : Int} {wd : List Int} (ha : iv 0 29 a) (a8 : iv 0 8 (S.2 63 a)) (hw : (w = 0 ∧ m = 5) ∨ (w = 1 ∧ m = 2)) (hwd : catF (fun j => [mLo w j]) m.toNat 0 = wd) (hK1 : nN S a = wd → K 1 S) (hK0 : ¬ nN S a = wd → K 0 S) : wX11_isWord a w S K := by
  have re : nN S a = wd ↔ (S.2 63 a = m ∧ ∀ j, 0 ≤ j → j < S.2 63 a → S.2 64 (8 * a + j) = mLo w j) := by
    rw [← hwd]
    exact row_eq (g := fun i => S.2 64 (8 * a + i)) (h := fun j => mLo w j) a8.1 (by omega)
  have lp : ∀ x, ((x = 1 ∧ S.2 63 a = m) ∨ (x = 0 ∧ ¬ nN S a = wd)) → wX11_isWord_30 a w m x 0 S K := fun x hx => by
    refine ⟨fun l1 l2 l3 l4 l5 S' => l1 = a ∧ l2 = w ∧ l3 = m ∧ S' = S ∧ 0 ≤ l5 ∧ l5 ≤ 9 ∧ ((l4 = 1 ∧ S.2 63 a = m ∧ l5 ≤ m ∧ ∀ j, 0 ≤ j → j < l5 → S.2 64 (8 * a + j) = mLo w j) ∨ (l4 = 0 ∧ ¬ nN S a = wd)), fun l1 l2 l3 l4 l5 S' => (9 - l5).toNat, ⟨rfl, rfl, rfl, rfl, by omega, by omega, ?_⟩, fun l1 l2 l3 l4 l5 S' hI => ?_⟩
    · rcases hx with ⟨x1, x2⟩ | x
      · exact Or.inl ⟨x1, x2, by omega, fun j j1 j2 => absurd j2 (by omega)⟩
      · exact Or.inr x
    obtain ⟨i1, i2, i2', i3, i4, i5, i6⟩ := hI
    rw [i1, i2, i2', i3]
    have b3 : iv 0 1 l4 := by
      rcases i6 with ⟨z, -⟩ | ⟨z, -⟩ <;> exact ⟨by omega, by omega⟩
    have kz : l4 = 0 → K l4 S := fun z => by
      rw [z]
      rcases i6 with ⟨y, -⟩ | ⟨-, y⟩
      · omega
      · exact hK0 y
    refine ⟨⟨by omega, by omega⟩, ⟨by omega, by omega⟩, fun h => ⟨b3, ?_⟩, fun h => ⟨⟨by omega, by omega⟩, fun h2 => ⟨b3, kz h2⟩, fun h2 => ⟨by omega, by omega, fun _ => ⟨⟨by omega, by omega⟩, m_letter ⟨mLo_iv w l5, fun h3 => ⟨⟨rfl, rfl, rfl, rfl, by omega, by omega, Or.inr ⟨rfl, fun q => ?_⟩⟩, by dsimp only; omega⟩, fun h3 => ⟨⟨rfl, rfl, rfl, rfl, by omega, by omega, ?_⟩, by dsimp only; omega⟩⟩⟩⟩⟩⟩
    · rcases i6 with ⟨y, y2, y3, y4⟩ | ⟨y, -⟩
      · rw [y]
        exact hK1 (re.mpr ⟨y2, fun j j1 j2 => y4 j j1 (by omega)⟩)
      · exact kz y
    · have r := re.mp q
      exact h3 (r.2 l5 i4 (by omega))
    · rcases i6 with ⟨y, y2, y3, y4⟩ | ⟨y, -⟩
      · refine Or.inl ⟨rfl, y2, by omega, fun j j1 j2 => ?_⟩
        by_cases z : j = l5
        · rw [z]
          exact Decidable.not_not.mp h3
        · exact y4 j j1 (by omega)
      · exact absurd y h2
  have l9 : wX11_isWord_9 a w m S K := ⟨by omega, by omega, fun _ => ⟨⟨by omega, by omega⟩, fun h => lp 0 (Or.inr ⟨rfl, fun q => h (re.mp q).1⟩), fun h => lp 1 (Or.inl ⟨rfl, Decidable.not_not.mp h⟩)⟩⟩
  unfold wX11_isWord
  intro _ _
  rcases hw with ⟨h1, h2⟩ | ⟨h1, h2⟩
  · rw [h2] at l9
    exact ⟨fun h => absurd h1 h, fun _ => l9⟩
  · rw [h2] at l9
    exact ⟨fun _ => l9, fun h => absurd (show ¬ w = 0 by omega) h⟩
/-- a name is read, and compared with those from a on before b -/
theorem m_nameK (hX : TX T n) (hT : mTx S T n) (hp : S.1 54 22 = p) (h0 : 0 ≤ p) (hpn : p ≤ n) (hk : iv 0 29 k) (ha : 0 ≤ a) (hab : a ≤ b) (hb : b ≤ 30) (hkn : ∀ j, a ≤ j → j < b → j ≠ k ∧ iv 0 8 (S.2 63 j)) (h24 : iv 0 1 (S.1 54 24)) (hK0 : (qR T p = [] ∨ qN (T (p + (qR T p).length))) → ∀ S', Ml S S' → Mk S S' k → S'.1 54 22 = p + (qR T p).length → S'.1 54 23 = 1 → K 0 S') (hK1 : ¬ qR T p = [] → ¬ qN (T (p + (qR T p).length)) → ∀ S', Ml S S' → Mk S S' k → S'.1 54 22 = p + (qR T p).length → S'.1 54 23 = S.1 54 23 → nN S' k = qR T p → S'.2 63 k = (qR T p).length → iv 0 1 (S'.1 54 24) → (S'.1 54 24 = 1 ↔ (S.1 54 24 = 1 ∨ ∃ j, a ≤ j ∧ j < b ∧ nN S j = qR T p)) → K 0 S') : wX11_name k a b S K := by
  have hn := hX.1
  have hq := qR_in hX hpn
  have h8 := qR_8 (T := T) (p := p)
  unfold wX11_name
  intro _ _ _ _
  rw [hp]
  refine m_nameAt hX hT h0 hpn hk (fun hr S1 f1 k1 => ?_) (fun hr hr2 hr3 S1 f1 k1 => ?_) (fun hr hr2 S1 f1 k1 r1 z1 => ?_)
  · refine ⟨⟨by decide, by decide⟩, fun h => absurd h (by decide), fun _ _ => ?_⟩
    have e1 : S1.1 54 22 = p := by rw [f1]; exact hp
    rw [e1]
    refine ⟨⟨by omega, by omega⟩, fun S2 e2 S3 e3 => hK0 (Or.inl hr) S3 ?_ ?_ ?_ ?_⟩
    · rw [e3, e2]
      exact (Ml.tr (fun a j _ => by rw [f1]) Ml.p22).tr Ml.p23
    · rw [e3, e2]
      exact k1
    · rw [e3, e2, hr]
      show p + -2 - -2 = p + ((0 : Nat) : Int)
      omega
    · rw [e3]
      rfl
  · refine ⟨⟨by decide, by decide⟩, fun h => absurd h (by decide), fun _ _ => ?_⟩
    have e1 : S1.1 54 22 = p := by rw [f1]; exact hp
    rw [e1]
    refine ⟨⟨by omega, by omega⟩, fun S2 e2 S3 e3 => hK0 (Or.inr hr2) S3 ?_ ?_ ?_ ?_⟩
    · rw [e3, e2]
      exact (Ml.tr (fun a j _ => by rw [f1]) Ml.p22).tr Ml.p23
    · rw [e3, e2]
      exact k1
    · rw [e3, e2, hr3]
      show p + -2 - -10 = p + ((8 : Nat) : Int)
      omega
    · rw [e3]
      rfl
  · have hl : (0 : Int) ≤ (qR T p).length := by omega
    refine ⟨⟨by omega, by omega⟩, fun _ _ => ?_, fun h => absurd hl h⟩
    have e1 : S1.1 54 22 = p := by rw [f1]; exact hp
    rw [e1]
    refine ⟨⟨by omega, by omega⟩, fun S2 e2 => ?_⟩
    have m2 : Ml S S2 := by
      rw [e2]
      exact Ml.tr (fun a j _ => by rw [f1]) Ml.p22
    have t2 : S2.2 = S1.2 := by rw [e2]; rfl
    have k2 : Mk S S2 k := by
      unfold Mk
      rw [t2]
      exact k1
    have a22 : S2.1 54 22 = p + (qR T p).length := by rw [e2]; rfl
    have a23 : S2.1 54 23 = S.1 54 23 := by rw [e2, ← f1]; rfl
    have a24 : S2.1 54 24 = S.1 54 24 := by rw [e2, ← f1]; rfl
    have nk : nN S2 k = qR T p := by
      rw [← r1]
      unfold nN
      rw [t2]
    have z2 : S2.2 63 k = (qR T p).length := by rw [t2]; exact z1
    have nj : ∀ j, a ≤ j → j < b → nN S2 j = nN S j := fun j j1 j2 => k2.row (hkn j j1 j2).1 (hkn j j1 j2).2
    refine ⟨fun l1 l3 l5 l6 S' => l1 = k ∧ l3 = b ∧ S' = S2 ∧ a ≤ l6 ∧ l6 ≤ b ∧ iv 0 1 l5 ∧ (l5 = 1 ↔ ∃ j, a ≤ j ∧ j < l6 ∧ nN S j = qR T p), fun l1 l3 l5 l6 S' => (30 - l6).toNat, ⟨rfl, rfl, rfl, by omega, by omega, ⟨by decide, by decide⟩, ⟨fun h => absurd h (by decide), fun ⟨j, j1, j2, _⟩ => by omega⟩⟩, fun l1 l3 l5 l6 S' hI => ?_⟩
    obtain ⟨i1, i2, i3, i4, i5, i6, i7⟩ := hI
    rw [i1, i2, i3]
    have go : ∀ x, iv 0 1 x → (x = 1 ↔ ∃ j, a ≤ j ∧ j < l6 + 1 ∧ nN S j = qR T p) → l6 < b → ((k = k ∧ b = b ∧ S2 = S2 ∧ a ≤ l6 + 1 ∧ l6 + 1 ≤ b ∧ iv 0 1 x ∧ (x = 1 ↔ ∃ j, a ≤ j ∧ j < l6 + 1 ∧ nN S j = qR T p)) ∧ (30 - (l6 + 1)).toNat < (30 - l6).toNat) := fun x x1 x2 x3 => ⟨⟨rfl, rfl, rfl, by omega, by omega, x1, x2⟩, by omega⟩
    refine ⟨⟨by omega, by omega⟩, ⟨by omega, by omega⟩, fun h => ?_, fun h => ⟨⟨by omega, by omega⟩, fun h2 => go 1 ⟨by decide, by decide⟩ ⟨fun _ => ?_, fun _ => rfl⟩ (by omega), fun h2 => ⟨⟨by omega, by omega⟩, m_alike ⟨by omega, by omega⟩ hk ?_ ?_ (fun q => ⟨⟨by decide, by decide⟩, fun h3 => absurd h3 (by decide), fun _ => go 1 ⟨by decide, by decide⟩ ⟨fun _ => ?_, fun _ => rfl⟩ (by omega)⟩) (fun q => ⟨⟨by decide, by decide⟩, fun _ => go 0 ⟨by decide, by decide⟩ ⟨fun h3 => absurd h3 (by decide), fun ⟨j, j1, j2, j3⟩ => ?_⟩ (by omega), fun h3 => absurd rfl h3⟩)⟩⟩⟩
    · have hlb : l6 = b := by omega
      rw [hlb] at i7
      have fin : ∀ x, iv 0 1 x → (x = 1 ↔ (S.1 54 24 = 1 ∨ l5 = 1)) → ∀ S9, S9 = pI S2 54 24 x → K 0 S9 := fun x x1 x2 S9 e9 => by
        refine hK1 hr hr2 S9 ?_ ?_ ?_ ?_ ?_ ?_ ?_ ?_
        · rw [e9]
          exact m2.tr Ml.p24
        · rw [e9]
          exact k2
        · rw [e9]
          exact a22
        · rw [e9]
          exact a23
        · rw [e9]
          exact nk
        · rw [e9]
          exact z2
        · rw [e9]
          exact x1
        · rw [e9, ← i7]
          exact x2
      rw [a24]
      intro _
      refine ⟨fun h2 => fin 1 ⟨by decide, by decide⟩ ⟨fun _ => Or.inl (by omega), fun _ => rfl⟩, fun h2 => ⟨⟨by omega, by omega⟩, fun h3 => fin 0 ⟨by decide, by decide⟩ ⟨fun y => absurd y (by decide), fun y => by omega⟩, fun h3 => fin 1 ⟨by decide, by decide⟩ ⟨fun _ => Or.inr (by omega), fun _ => rfl⟩⟩⟩
    · obtain ⟨j, j1, j2, j3⟩ := i7.mp (by omega)
      exact ⟨j, j1, by omega, j3⟩
    · rw [k2.2.1 l6 (hkn l6 i4 (by omega)).1]
      exact (hkn l6 i4 (by omega)).2
    · rw [z2]
      exact ⟨by omega, by omega⟩
    · rw [nj l6 i4 (by omega), nk] at q
      exact ⟨l6, i4, by omega, q⟩
    · rw [nj l6 i4 (by omega), nk] at q
      by_cases z : j = l6
      · rw [z] at j3
        exact absurd j3 q
      · have := i7.mpr ⟨j, j1, by omega, j3⟩
        omega
end MA

