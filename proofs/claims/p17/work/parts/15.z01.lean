/-! THE MODEL: elements and ways -/
/-- how many of the elements x, x + 1, .. have this parent and this name -/
def ctE (S : St) (P k : Int) : Nat → Int → Int
  | 0, _ => 0
  | n + 1, x => (if S.2 72 x = P ∧ nL S (S.2 73 x) = nL S k then 1 else 0) + ctE S P k n (x + 1)
/-- from an element up to the root: for each its number and its step -/
abbrev Upl : Type := List (Int × Int × Int × Int)
def UpR (S : St) (κ : Int → Int) : Int → Upl → Prop
  | x, [] => x = -2
  | x, q :: l => q.1 = x ∧ 0 ≤ x ∧ x < S.1 54 25 ∧ S.2 72 x < x ∧ q.2 = (κ x, S.2 73 x, S.2 74 x) ∧ UpR S κ (S.2 72 x) l
section ME
variable {S : St} {A : List Int} {K : Int → St → Prop} {e : Env} {o f c i k : Int} {κ : Int → Int}
theorem n_hasCo (hE : mE S e) (hV : EV e) (ho : okO e o) (hK : K (if hCo e o (eF e (eK e o)).toNat 0 then 1 else 0) S) : wX11_hasContent o (eK e o) S K := by
  have hkc := hV.2.2.1 o ho
  have hb := okC_b hV hkc
  have hbo := okO_b hV ho
  have hF := hV.2.2.2.1 _ hkc
  have e56 := hE.2.2.2.2.2.1 _ hkc
  unfold wX11_hasContent
  intro _ _
  unfold wX11_hasContent_5
  refine ⟨fun l1 l2 l3 l4 T => l1 = o ∧ l2 = eK e o ∧ 0 ≤ l4 ∧ l4 ≤ eF e (eK e o) ∧ T = S ∧ ((l3 = 0 ∧ hCo e o (eF e (eK e o) - l4).toNat l4 = hCo e o (eF e (eK e o)).toNat 0) ∨ (l3 = 1 ∧ hCo e o (eF e (eK e o)).toNat 0 = true)), fun l1 l2 l3 l4 T => (5 - l4).toNat, ⟨rfl, rfl, by decide, hF.1, rfl, Or.inl ⟨rfl, by simp⟩⟩, fun l1 l2 l3 l4 T hI => ?_⟩
  obtain ⟨rfl, rfl, i1, i2, rfl, i3⟩ := hI
  unfold wX11_hasContent_5'
  rw [e56]
  have hl3 : iv 0 1 l3 := by omega
  refine ⟨by omega, by omega, fun _ => ⟨⟨by omega, by omega⟩, fun h => ⟨hl3, ?_⟩, fun h x6 hx6 => ⟨by omega, by omega, fun g69 x9 hx9 => ⟨⟨by omega, by omega⟩, fun h3 => ?_, fun h3 => ?_⟩⟩⟩⟩
  · rcases i3 with ⟨rfl, q⟩ | ⟨rfl, q⟩
    · rw [hCo_end h] at q
      rw [← q] at hK
      exact hK
    · rw [q] at hK
      exact hK
  · unfold wX11_hasContent_106 wX11_hasContent_111
    have q := i3.resolve_left (fun r => h3 r.1)
    exact ⟨⟨rfl, rfl, by omega, by omega, rfl, Or.inr ⟨rfl, q.2⟩⟩, by dsimp only; omega⟩
  · have q := (i3.resolve_right (fun r => by omega)).2
    have hf : okF e (eK e l1) l4 := ⟨hkc, i1, by omega⟩
    have hkd := hV.2.2.2.2.1 _ _ hf
    have e7 := hE.2.2.2.2.2.2.1 _ _ hf
    have e69 := hE.2.2.1 _ _ ho hf
    rw [e69] at hx9
    rw [hCo_succ (by omega)] at q
    have yes : hEl e l1 l4 = true → wX11_hasContent_106 l1 (eK e l1) l4 T K (fun ml1 ml2 ml3 ml4 T_1 => (ml1 = l1 ∧ ml2 = eK e l1 ∧ 0 ≤ ml4 ∧ ml4 ≤ eF e (eK e l1) ∧ T_1 = T ∧ ((ml3 = 0 ∧ hCo e l1 (eF e (eK e l1) - ml4).toNat ml4 = hCo e l1 (eF e (eK e l1)).toNat 0) ∨ (ml3 = 1 ∧ hCo e l1 (eF e (eK e l1)).toNat 0 = true))) ∧ (5 - ml4).toNat < (5 - l4).toNat) := fun r => by
      rw [r, Bool.true_or] at q
      exact ⟨⟨rfl, rfl, by omega, by omega, rfl, Or.inr ⟨rfl, q.symm⟩⟩, by omega⟩
    have no : hEl e l1 l4 = false → wX11_hasContent_110 l1 (eK e l1) l4 T K (fun ml1 ml2 ml3 ml4 T_1 => (ml1 = l1 ∧ ml2 = eK e l1 ∧ 0 ≤ ml4 ∧ ml4 ≤ eF e (eK e l1) ∧ T_1 = T ∧ ((ml3 = 0 ∧ hCo e l1 (eF e (eK e l1) - ml4).toNat ml4 = hCo e l1 (eF e (eK e l1)).toNat 0) ∨ (ml3 = 1 ∧ hCo e l1 (eF e (eK e l1)).toNat 0 = true))) ∧ (5 - ml4).toNat < (5 - l4).toNat) := fun r => by
      rw [r, Bool.false_or] at q
      exact ⟨⟨rfl, rfl, by omega, by omega, rfl, Or.inl ⟨rfl, q⟩⟩, by omega⟩
    have e6 : x6 = 4 * eK e l1 + l4 := hx6
    unfold hEl at yes no
    rw [e6, e7.1, e7.2]
    refine ⟨by omega, by omega, fun _ => ⟨fun h4 => ?_, fun h4 => ⟨by omega, by omega, fun _ => ⟨fun h5 => yes (by rw [if_pos (by omega)]; exact decide_eq_true (show ¬ eM e (eK e l1) l4 = 1 by omega)), fun h5 => ?_⟩⟩⟩⟩
    · unfold wX11_hasContent_62 wX11_hasContent_80
      rw [e7.1, e7.2]
      rw [if_neg (show ¬ eD e (eK e l1) l4 ≤ 1 by omega)] at yes no
      refine ⟨by omega, by omega, fun _ => ⟨fun h5 => ⟨by omega, by omega, fun _ => ⟨fun h6 => absurd h6 (by omega), fun h6 => ⟨by omega, by omega, fun _ => ⟨fun h7 => yes (by rw [if_neg (by omega)]; exact decide_eq_true (Or.inl (show ¬ eM e (eK e l1) l4 = 1 by omega))), fun h7 => ⟨⟨by omega, by omega⟩, fun h8 => no (by rw [if_neg (by omega)]; exact decide_eq_false (fun r => by omega)), fun h8 => yes (by rw [if_neg (by omega)]; exact decide_eq_true (Or.inr (show 0 < eV e l1 l4 by omega)))⟩⟩⟩⟩⟩, fun h5 => ⟨⟨by omega, by omega⟩, fun h6 => yes (by rw [if_pos (by omega)]; exact decide_eq_true (show ¬ eV e l1 l4 = -2 by omega)), fun h6 => ⟨by omega, by omega, fun _ => ⟨fun _ => no (by rw [if_pos (by omega)]; exact decide_eq_false (fun r => by omega)), fun h7 => absurd h7 (by omega)⟩⟩⟩⟩⟩
    · unfold wX11_hasContent_62 wX11_hasContent_80
      rw [e7.1, e7.2]
      rw [if_pos (show eD e (eK e l1) l4 ≤ 1 by omega)] at yes no
      have nn := no (decide_eq_false (fun r => r (by omega)))
      exact ⟨by omega, by omega, fun _ => ⟨fun h6 => ⟨by omega, by omega, fun _ => ⟨fun h7 => nn, fun h7 => absurd h7 (by omega)⟩⟩, fun h6 => absurd h6 (by omega)⟩⟩
theorem catF_eq {g h : Int → List Int} : ∀ (n : Nat) (i : Int), (∀ j, i ≤ j → j < i + n → g j = h j) → catF g n i = catF h n i
  | 0, _, _ => rfl
  | n + 1, i, q => by
    unfold catF
    rw [q i (Int.le_refl _) (by omega), catF_eq n (i + 1) (fun j h1 h2 => q j (by omega) (by omega))]
theorem catF_sl {g : Int → Int} : ∀ (n : Nat) (i : Int), (catF (fun j => [g j]) n i).length = n
  | 0, _ => rfl
  | n + 1, i => by
    unfold catF
    rw [List.length_append, catF_sl n (i + 1)]
    simp
    omega
theorem catF_inj {g h : Int → Int} : ∀ (n : Nat) (i : Int), catF (fun j => [g j]) n i = catF (fun j => [h j]) n i → ∀ j, i ≤ j → j < i + n → g j = h j
  | 0, i, _, j, h1, h2 => absurd h2 (by omega)
  | n + 1, i, q, j, h1, h2 => by
    unfold catF at q
    have q2 : g i = h i ∧ catF (fun j => [g j]) n (i + 1) = catF (fun j => [h j]) n (i + 1) := by simpa using q
    by_cases r : j = i
    · subst r
      exact q2.1
    · exact catF_inj n (i + 1) q2.2 j (by omega) (by omega)
theorem n_same {a b : Int} (ha : iv 0 29 a) (hb : iv 0 29 b) (a8 : iv 0 8 (S.2 57 a)) (b8 : iv 0 8 (S.2 57 b)) (hK : K (if nL S a = nL S b then 1 else 0) S) : wX11_sameName a b S K := by
  unfold wX11_sameName
  intro _ _
  have no : (∃ j, 0 ≤ j ∧ j < S.2 57 a ∧ ¬ S.2 58 (8 * a + j) = S.2 58 (8 * b + j)) ∨ ¬ S.2 57 a = S.2 57 b → K 0 S := fun q => by
    rw [if_neg (fun r => ?_)] at hK
    · exact hK
    · unfold nL at r
      have hl : S.2 57 a = S.2 57 b := by
        have := congrArg List.length r
        rw [catF_sl, catF_sl] at this
        omega
      rcases q with ⟨j, j1, j2, j3⟩ | q
      · rw [← hl] at r
        exact j3 (catF_inj _ _ r j j1 (by omega))
      · exact q hl
  have loop : ∀ l3 : Int, (l3 = 0 ∧ ¬ S.2 57 a = S.2 57 b) ∨ (l3 = 1 ∧ S.2 57 a = S.2 57 b) → wX11_sameName_20 a b l3 S K := fun l3 hl3 => by
    unfold wX11_sameName_20 wX11_sameName_24
    refine ⟨fun m1 m2 m3 m4 T => m1 = a ∧ m2 = b ∧ T = S ∧ 0 ≤ m4 ∧ m4 ≤ S.2 57 a ∧ ((m3 = 0 ∧ ((∃ j, 0 ≤ j ∧ j < S.2 57 a ∧ ¬ S.2 58 (8 * a + j) = S.2 58 (8 * b + j)) ∨ ¬ S.2 57 a = S.2 57 b)) ∨ (m3 = 1 ∧ S.2 57 a = S.2 57 b ∧ ∀ j, 0 ≤ j → j < m4 → S.2 58 (8 * a + j) = S.2 58 (8 * b + j))), fun m1 m2 m3 m4 T => (9 - m4).toNat, ⟨rfl, rfl, rfl, by decide, a8.1, ?_⟩, fun m1 m2 m3 m4 T hI => ?_⟩
    · rcases hl3 with ⟨h1, h2⟩ | ⟨h1, h2⟩
      · exact Or.inl ⟨h1, Or.inr h2⟩
      · exact Or.inr ⟨h1, h2, fun j j1 j2 => absurd j2 (by omega)⟩
    · obtain ⟨rfl, rfl, rfl, i1, i2, i3⟩ := hI
      have yes : m4 = T.2 57 m1 → m3 = 1 → K 1 T := fun q1 q2 => by
        have r := i3.resolve_left (fun r => by omega)
        rw [if_pos] at hK
        · exact hK
        · unfold nL
          rw [← r.2.1]
          exact catF_eq _ _ (fun j j1 j2 => by rw [r.2.2 j j1 (by omega)])
      unfold wX11_sameName_24' wX11_sameName_71
      have hb3 : iv 0 1 m3 := by omega
      refine ⟨by omega, by omega, fun _ => ⟨⟨by omega, by omega⟩, fun h => ⟨hb3, ?_⟩, fun h => ⟨⟨by omega, by omega⟩, fun h2 => ⟨hb3, ?_⟩, fun h2 => ⟨by omega, by omega, fun _ => ⟨by omega, by omega, fun _ => ⟨fun h3 => ?_, fun h3 => ?_⟩⟩⟩⟩⟩⟩
      · rcases i3 with r | r
        · rw [r.1]
          exact no r.2
        · rw [r.1]
          exact yes (by omega) r.1
      · rw [h2]
        exact no ((i3.resolve_right (fun r => by omega)).2)
      · exact ⟨⟨rfl, rfl, rfl, by omega, by omega, Or.inl ⟨rfl, Or.inl ⟨m4, i1, by omega, h3⟩⟩⟩, by dsimp only; omega⟩
      · have r := i3.resolve_left (fun r => h2 r.1)
        refine ⟨⟨rfl, rfl, rfl, by omega, by omega, Or.inr ⟨rfl, r.2.1, fun j j1 j2 => ?_⟩⟩, by dsimp only; omega⟩
        by_cases q : j = m4
        · rw [q]
          exact Classical.not_not.mp h3
        · exact r.2.2 j j1 (by omega)
  refine ⟨by omega, by omega, fun _ => ⟨by omega, by omega, fun _ => ⟨fun h => loop 0 (Or.inl ⟨rfl, h⟩), fun h => loop 1 (Or.inr ⟨rfl, Classical.not_not.mp h⟩)⟩⟩⟩
theorem ctE_succ {P k n j : Int} (h : j < n) : ctE S P k (n - j).toNat j = (if S.2 72 j = P ∧ nL S (S.2 73 j) = nL S k then 1 else 0) + ctE S P k (n - (j + 1)).toNat (j + 1) := by
  rw [show (n - j).toNat = (n - (j + 1)).toNat + 1 by omega]
  rfl
/-- an element more: S' has it behind the others -/
def NewE (S S' : St) (P k : Int) : Prop := (∀ a j, ¬ (a = 54 ∧ j = 25) → S'.1 a j = S.1 a j) ∧ S'.1 54 25 = S.1 54 25 + 1 ∧ (∀ a, a ≠ 72 → a ≠ 73 → a ≠ 74 → S'.2 a = S.2 a) ∧ (∀ x, S'.2 72 x = if x = S.1 54 25 then P else S.2 72 x) ∧ (∀ x, S'.2 73 x = if x = S.1 54 25 then k else S.2 73 x) ∧ ∀ x, S'.2 74 x = if x = S.1 54 25 then 1 + ctE S P k (S.1 54 25).toNat 0 else S.2 74 x
theorem n_element {P : Int} (hP : iv (-2) 899 P) (hk : iv 0 29 k) (hn : S.1 54 25 < 900) (h0 : 0 ≤ S.1 54 25) (hk8 : iv 0 8 (S.2 57 k)) (h73 : ∀ x, 0 ≤ x → x < S.1 54 25 → iv 0 29 (S.2 73 x) ∧ iv 0 8 (S.2 57 (S.2 73 x))) (hK : ∀ S', NewE S S' P k → K (S.1 54 25) S') : wX11_element P k S K := by
  unfold wX11_element
  intro _ _
  unfold wX11_element_5
  refine ⟨fun l1 l2 l3 l4 T => l1 = P ∧ l2 = k ∧ T = S ∧ 0 ≤ l4 ∧ l4 ≤ S.1 54 25 ∧ 1 ≤ l3 ∧ l3 ≤ l4 + 1 ∧ l3 + ctE S P k (S.1 54 25 - l4).toNat l4 = 1 + ctE S P k (S.1 54 25).toNat 0, fun l1 l2 l3 l4 T => (S.1 54 25 - l4).toNat, ⟨rfl, rfl, rfl, by decide, h0, by decide, by decide, by simp⟩, fun l1 l2 l3 l4 T hI => ?_⟩
  obtain ⟨rfl, rfl, rfl, i1, i2, i3, i4, i5⟩ := hI
  unfold wX11_element_5' wX11_element_46 wX11_element_47
  refine fun _ => ⟨⟨by omega, by omega⟩, fun h => ?_, fun h => ?_⟩
  · rw [show (T.1 54 25 - l4).toNat = 0 by omega] at i5
    have i6 : l3 = 1 + ctE T l1 l2 (T.1 54 25).toNat 0 := by
      have : ctE T l1 l2 0 l4 = 0 := rfl
      omega
    refine ⟨by omega, by omega, hP, fun S5 h5 => ?_⟩
    have a5 : S5.1 54 25 = T.1 54 25 := by rw [h5]; rfl
    rw [a5]
    refine fun _ => ⟨by omega, by omega, hk, fun S9 h9 => ?_⟩
    have a9 : S9.1 54 25 = T.1 54 25 := by rw [h9]; exact a5
    rw [a9]
    refine fun _ => ⟨by omega, by omega, ⟨by omega, by omega⟩, fun S13 h13 => ?_⟩
    have a13 : S13.1 54 25 = T.1 54 25 := by rw [h13]; exact a9
    rw [a13]
    refine fun _ => ⟨⟨by omega, by omega⟩, fun S16 h16 => ?_⟩
    have a16 : S16.1 54 25 = T.1 54 25 + 1 := by
      rw [h16]
      show (if 54 = 54 ∧ 25 = 25 then T.1 54 25 + 1 else S13.1 54 25) = _
      rw [if_pos ⟨rfl, rfl⟩]
    rw [a16, show T.1 54 25 + 1 - 1 = T.1 54 25 by omega]
    refine fun _ => hK S16 ⟨fun a j q => ?_, a16, fun a q1 q2 q3 => ?_, fun x => ?_, fun x => ?_, fun x => ?_⟩
    · rw [h16, h13, h9, h5]
      show (if a = 54 ∧ j = 25 then _ else T.1 a j) = _
      rw [if_neg q]
    · rw [h16, h13, h9, h5]
      exact ((pA_ne a q3).2.trans (pA_ne a q2).2).trans (pA_ne a q1).2
    · rw [h16, h13, h9, h5]
      show (if 72 = 72 ∧ x = T.1 54 25 then l1 else T.2 72 x) = _
      by_cases q : x = T.1 54 25
      · rw [if_pos ⟨rfl, q⟩, if_pos q]
      · rw [if_neg (fun r => q r.2), if_neg q]
    · rw [h16, h13, h9, h5]
      show (if 73 = 73 ∧ x = T.1 54 25 then l2 else T.2 73 x) = _
      by_cases q : x = T.1 54 25
      · rw [if_pos ⟨rfl, q⟩, if_pos q]
      · rw [if_neg (fun r => q r.2), if_neg q]
    · rw [h16, h13, h9, h5, ← i6]
      show (if 74 = 74 ∧ x = T.1 54 25 then l3 else T.2 74 x) = _
      by_cases q : x = T.1 54 25
      · rw [if_pos ⟨rfl, q⟩, if_pos q]
      · rw [if_neg (fun r => q r.2), if_neg q]
  · rw [ctE_succ (by omega)] at i5
    refine ⟨by omega, by omega, fun _ => ⟨⟨by omega, by omega⟩, fun h2 => ?_, fun h2 => ⟨by omega, by omega, fun _ => ⟨⟨by omega, by omega⟩, n_same (h73 l4 i1 (by omega)).1 hk (h73 l4 i1 (by omega)).2 hk8 ?_⟩⟩⟩⟩
    · rw [if_neg (fun r => h2 r.1)] at i5
      exact ⟨⟨rfl, rfl, rfl, by omega, by omega, by omega, by omega, by omega⟩, by dsimp only; omega⟩
    · by_cases q : nL T (T.2 73 l4) = nL T l2
      · rw [if_pos q]
        rw [if_pos ⟨Classical.not_not.mp h2, q⟩] at i5
        exact ⟨⟨by decide, by decide⟩, fun r => absurd r (by decide), fun _ => ⟨⟨rfl, rfl, rfl, by omega, by omega, by omega, by omega, by omega⟩, by dsimp only; omega⟩⟩
      · rw [if_neg q]
        rw [if_neg (fun r => q r.2)] at i5
        exact ⟨⟨by decide, by decide⟩, fun _ => ⟨⟨rfl, rfl, rfl, by omega, by omega, by omega, by omega, by omega⟩, by dsimp only; omega⟩, fun r => absurd rfl r⟩
end ME

