/-! THE CLASS READS CLASSES: signs and names -/
def cTx (S : St) (T : Int → Int) (n : Int) : Prop := S.1 1 1 = n ∧ ∀ p, 0 ≤ p → p < n → S.2 1 p = T p
def cRow (S : St) (k : Int) : List Int := catF (fun i => [S.2 34 (k * 16 + i)]) (S.2 35 k).toNat 0
/-- all but the name k is the same -/
def Lt (S S' : St) (k : Int) : Prop := (∀ a, a ≠ 34 → a ≠ 35 → S'.2 a = S.2 a) ∧ (∀ j, j ≠ k → S'.2 35 j = S.2 35 j) ∧ ∀ j, (j < k * 16 ∨ k * 16 + 16 ≤ j) → S'.2 34 j = S.2 34 j
theorem Lt.rf {S : St} {k : Int} : Lt S S k := ⟨fun _ _ _ => rfl, fun _ _ => rfl, fun _ _ => rfl⟩
theorem Lt.tr {S S1 S2 : St} {k : Int} (h : Lt S S1 k) (g : Lt S1 S2 k) : Lt S S2 k := ⟨fun a q1 q2 => (g.1 a q1 q2).trans (h.1 a q1 q2), fun j q => (g.2.1 j q).trans (h.2.1 j q), fun j q => (g.2.2 j q).trans (h.2.2 j q)⟩
theorem Lt.row {S S' : St} {k j : Int} (h : Lt S S' k) (q : j ≠ k) (q2 : iv 0 16 (S.2 35 j)) : cRow S' j = cRow S j := by
  unfold cRow
  rw [h.2.1 j q]
  refine catF_eq _ _ (fun i h1 h2 => ?_)
  rw [h.2.2 (j * 16 + i) (by omega)]
/-- the place alone may be another beside -/
def Pl (S S' : St) : Prop := ∀ a j, ¬ (a = 200 ∧ j = 2) → S'.1 a j = S.1 a j
theorem Pl.rf {S : St} : Pl S S := fun _ _ _ => rfl
theorem Pl.tr {S S1 S2 : St} (h : Pl S S1) (g : Pl S1 S2) : Pl S S2 := fun a j q => (g a j q).trans (h a j q)
theorem pI_pl {S : St} {x : Int} : Pl S (pI S 200 2 x) := fun a j q => if_neg q
theorem cTx.mv {S S' : St} {T : Int → Int} {n : Int} (h : cTx S T n) (h1 : S'.1 1 1 = S.1 1 1) (h2 : S'.2 1 = S.2 1) : cTx S' T n := by
  unfold cTx at h ⊢
  rw [h1, h2]
  exact h
theorem cTx.lt {S S' : St} {T : Int → Int} {n k : Int} (h : cTx S T n) (h1 : Pl S S') (h2 : Lt S S' k) : cTx S' T n := h.mv (h1 1 1 (by decide)) (h2.1 1 (by decide) (by decide))
section CN
variable {S : St} {K : Int → St → Prop} {T : Int → Int} {n p k u : Int}
theorem c_at (hX : TX T n) (hT : cTx S T n) (hp : 0 ≤ p) (hK : K (T p) S) : wX5_at 1 p S K := fun r hr => by
  have h1 := hT.1
  have e : r = T p := by
    rcases hr with ⟨-, h2, h3, -⟩ | ⟨h2, h3⟩
    · rw [h3]
      exact hT.2 p hp (by omega)
    · rw [h3]
      exact (hX.2.2 p (by omega)).symm
  rw [e]
  exact hK
theorem c_sk (hX : TX T n) (hT : cTx S T n) (hp : S.1 200 2 = p) (h0 : 0 ≤ p) (h1 : ¬ u = -1) (hu : T p = u → K 1 (pI S 200 2 (p + 1))) (hn : ¬ T p = u → K 0 S) : wX0_skips u S K := by
  unfold wX0_skips
  intro gu g1
  rw [hp]
  refine c_at hX hT h0 ⟨?_, fun h => ?_, hn⟩
  · have := hX.bd h0
    exact ⟨by omega, by omega⟩
  · have h2 := hX.in (p := p) (by omega)
    have h3 := hX.1
    refine fun _ => ⟨⟨by omega, by omega⟩, fun S7 h7 => ?_⟩
    rw [hp] at h7
    rw [h7]
    exact hu h
theorem c_isD (hK : K (if 48 ≤ u ∧ u ≤ 57 then 1 else 0) S) : wX10_isDigit u S K := by
  unfold wX10_isDigit
  intro _
  by_cases h : 48 ≤ u ∧ u ≤ 57
  · rw [if_pos h] at hK
    exact ⟨fun q => absurd q (by omega), fun _ => ⟨fun q => absurd q (by omega), fun _ => hK⟩⟩
  · rw [if_neg h] at hK
    exact ⟨fun q => hK, fun _ => ⟨fun q => hK, fun _ => absurd h (by omega)⟩⟩
theorem c_isL (hK : K (if (97 ≤ u ∧ u ≤ 122) ∨ (65 ≤ u ∧ u ≤ 90) then 1 else 0) S) : wX10_isLetter u S K := by
  unfold wX10_isLetter
  intro g
  by_cases h : (97 ≤ u ∧ u ≤ 122) ∨ (65 ≤ u ∧ u ≤ 90)
  · rw [if_pos h] at hK
    exact ⟨fun q => ⟨g, fun q2 => absurd q2 (by omega), fun _ => ⟨fun q3 => absurd q3 (by omega), fun _ => hK⟩⟩, fun q => ⟨fun _ => hK, fun q2 => absurd q2 (by omega)⟩⟩
  · rw [if_neg h] at hK
    refine ⟨fun q => ⟨g, fun q2 => hK, fun q2 => ⟨fun q3 => hK, fun q3 => absurd h (by omega)⟩⟩, fun q => ⟨fun q2 => absurd h (by omega), fun q2 => ⟨g, fun q3 => hK, fun q3 => ⟨fun q4 => hK, fun q4 => absurd h (by omega)⟩⟩⟩⟩
theorem r01 {b : Prop} [Decidable b] : rng (if b then 1 else 0) := by
  by_cases h : b
  · rw [if_pos h]
    exact ⟨by decide, by decide⟩
  · rw [if_neg h]
    exact ⟨by decide, by decide⟩
theorem n01 {b : Prop} [Decidable b] : (if b then (1 : Int) else 0) = 0 ↔ ¬ b := by
  by_cases h : b
  · rw [if_pos h]
    exact ⟨fun q => absurd q (by decide), fun q => absurd h q⟩
  · rw [if_neg h]
    exact ⟨fun _ => h, fun _ => rfl⟩
theorem c_isN (hK : K (if qN u then 1 else 0) S) : wX0_isNameSign u S K := by
  unfold wX0_isNameSign
  intro g
  refine c_isL ⟨r01, fun h => ?_, fun h => c_isD ⟨r01, fun h2 => ?_, fun h2 => ⟨fun h3 => ?_, fun h3 => ⟨fun h4 => ?_, fun h4 => ?_⟩⟩⟩⟩
  · rw [n01] at h
    rwa [if_pos (by omega)] at hK
  · rw [n01] at h2
    rwa [if_pos (by omega)] at hK
  · rwa [if_pos (by omega)] at hK
  · rw [n01] at h h2
    rwa [if_neg (by omega)] at hK
  · rwa [if_pos (by omega)] at hK
theorem c_letterOn (hk : iv 0 29 k) (hl : iv 0 15 (S.2 35 k)) (hu : iv 0 65535 u) (hK : ∀ S', S'.1 = S.1 → Lt S S' k → cRow S' k = cRow S k ++ [u] → S'.2 35 k = S.2 35 k + 1 → K 0 S') : wX4_letterOn k u S K := by
  unfold wX4_letterOn
  intro g1 g2
  refine ⟨fun h => absurd h (by omega), fun _ => ⟨fun h => absurd h (by omega), fun _ => ⟨by omega, by omega, fun _ => ⟨fun h => absurd h (by omega), fun _ => ⟨by omega, by omega, fun _ => ⟨hu, by omega, by omega, fun S1 h1 => ?_⟩⟩⟩⟩⟩⟩
  have e1 : S1.2 35 = S.2 35 := by
    rw [h1]
    exact (pA_ne 35 (by decide)).2
  rw [e1]
  refine ⟨by omega, by omega, fun _ => ⟨by omega, by omega, ⟨by omega, by omega⟩, fun S2 h2 => ?_⟩⟩
  have a35 : ∀ j, S2.2 35 j = if j = k then S.2 35 k + 1 else S.2 35 j := fun j => by
    rw [h2, pA_if, e1]
  have a34 : ∀ j, S2.2 34 j = if j = k * 16 + S.2 35 k then u else S.2 34 j := fun j => by
    rw [h2, (pA_ne 34 (by decide)).2, h1, pA_if]
  have ek : S2.2 35 k = S.2 35 k + 1 := by
    rw [a35, if_pos rfl]
  refine hK S2 ?_ ⟨fun a q1 q2 => ?_, fun j q => ?_, fun j q => ?_⟩ ?_ ek
  · rw [h2, h1]
    rfl
  · rw [h2, (pA_ne a q2).2, h1, (pA_ne a q1).2]
  · rw [a35, if_neg q]
  · rw [a34, if_neg (by omega)]
  · unfold cRow
    rw [ek, show (S.2 35 k + 1).toNat = (S.2 35 k).toNat + 1 by omega, catF_snoc]
    congr 1
    · refine catF_eq _ _ (fun i q1 q2 => ?_)
      rw [a34, if_neg (by omega)]
    · rw [a34, if_pos (by omega)]
theorem c_spellOn (hk : iv 0 29 k) (hl : iv 0 14 (S.2 35 k)) (hu : iv 0 65535 u) (hK : ∀ S', S'.1 = S.1 → Lt S S' k → cRow S' k = cRow S k ++ xf u → iv 0 (S.2 35 k + 2) (S'.2 35 k) → K 0 S') : wX4_spellOn k u S K := by
  unfold wX4_spellOn
  intro g1 g2
  rcases xf_cas u with ⟨u1, q⟩ | ⟨u1, q⟩ | ⟨u1, u2, q⟩
  · refine ⟨fun h => absurd u1 h, fun _ => c_letterOn hk ⟨by omega, by omega⟩ ⟨by decide, by decide⟩ (fun S1 f1 l1 r1 s1 => c_letterOn hk ⟨by omega, by omega⟩ ⟨by decide, by decide⟩ (fun S2 f2 l2 r2 s2 => hK S2 (f2.trans f1) (l1.tr l2) ?_ ⟨by omega, by omega⟩))⟩
    rw [r2, r1, q, List.append_assoc]
    rfl
  · refine ⟨fun _ => c_letterOn hk ⟨by omega, by omega⟩ hu (fun S1 f1 l1 r1 s1 => ⟨fun h => absurd u1 h, fun _ => c_letterOn hk ⟨by omega, by omega⟩ ⟨by decide, by decide⟩ (fun S2 f2 l2 r2 s2 => hK S2 (f2.trans f1) (l1.tr l2) ?_ ⟨by omega, by omega⟩)⟩), fun h => absurd (show ¬ u = 36 by omega) h⟩
    rw [r2, r1, q, List.append_assoc, u1]
    rfl
  · refine ⟨fun _ => c_letterOn hk ⟨by omega, by omega⟩ hu (fun S1 f1 l1 r1 s1 => ⟨fun h => hK S1 f1 l1 (by rw [r1, q]) ⟨by omega, by omega⟩, fun h => absurd u2 h⟩), fun h => absurd u1 h⟩
theorem c_name (hX : TX T n) (hT : cTx S T n) (hp : S.1 200 2 = p) (h0 : 0 ≤ p) (hk : iv 0 29 k) (hl : S.2 35 k = 0) (hK0 : qR T p = [] → K 0 S) (hK1 : ∀ S', Pl S S' → Lt S S' k → S'.1 200 2 = p + (qR T p).length → cRow S' k = xl (qR T p) → iv 0 16 (S'.2 35 k) → ¬ qR T p = [] → K 1 S') : wX0_isNameRight k S K := by
  unfold wX0_isNameRight
  intro gk g1
  have gT : rng (T p) := by
    have := hX.bd h0
    exact ⟨by omega, by omega⟩
  rw [hp]
  refine c_at hX hT h0 ⟨gT, c_isD ⟨r01, fun h => hK0 ?_, fun h _ => ?_⟩⟩
  · rw [n01] at h
    rcases qR_len (T := T) (p := p) with q | ⟨-, q, -⟩
    · exact q.1
    · omega
  rw [hp]
  refine c_at hX hT h0 ⟨gT, c_isN ⟨r01, fun h2 => ?_, fun h2 => hK0 ?_⟩⟩
  · rw [n01] at h h2
    have hB : qB (T p) := by omega
    rcases qR_len (T := T) (p := p) with q | ⟨q1, -, q3, q4, q5⟩
    · exact absurd hB q.2
    refine ⟨fun l1 l2 S' => l1 = k ∧ ∃ i : Nat, l2 = i ∧ i ≤ 8 ∧ qn T 8 p = i + qn T (8 - i) (p + i) ∧ Pl S S' ∧ Lt S S' k ∧ S'.1 200 2 = p + i ∧ cRow S' k = xl (catF (fun j => [T j]) i p) ∧ iv 0 (2 * i) (S'.2 35 k), fun l1 l2 S' => (8 - l2).toNat, ⟨rfl, 0, rfl, by decide, ?_, Pl.rf, Lt.rf, by rw [hp]; show p = p + ((0 : Nat) : Int); omega, ?_, by omega, by show S.2 35 k ≤ 2 * ((0 : Nat) : Int); omega⟩, fun l1 l2 S' hI => ?_⟩
    · show qn T 8 p = 0 + qn T 8 (p + ((0 : Nat) : Int))
      rw [show p + ((0 : Nat) : Int) = p by omega]
      omega
    · unfold cRow
      rw [hl]
      rfl
    obtain ⟨i1, i, i2, i3, i4, i5, i6, i7, i8, i9⟩ := hI
    have done : qn T (8 - i) (p + i) = 0 → K 1 S' := fun z => by
      have e : qn T 8 p = i := by omega
      refine hK1 S' i5 i6 ?_ ?_ ⟨by omega, by omega⟩ q1
      · rw [i7, q3, e]
      · rw [i8, q5, e]
    have hT' := hT.lt i5 i6
    refine ⟨⟨by omega, by omega⟩, fun h8 => done ?_, fun h8 _ => ?_⟩
    · rw [show 8 - i = 0 by omega]
      rfl
    have gT2 : iv (-1) 65535 (T (p + i)) := hX.bd (by omega)
    have hs : qn T (8 - i) (p + i) = if qN (T (p + i)) then qn T (8 - (i + 1)) (p + i + 1) + 1 else 0 := by
      rw [show 8 - i = (8 - (i + 1)) + 1 by omega]
      rfl
    rw [i7]
    refine c_at hX hT' (by omega) ⟨⟨by omega, by omega⟩, c_isN ⟨r01, fun h3 => done ?_, fun h3 _ => ?_⟩⟩
    · rw [n01] at h3
      rw [hs, if_neg h3]
    rw [n01] at h3
    have h3 : qN (T (p + i)) := Decidable.not_not.mp h3
    rw [if_pos h3] at hs
    rw [i7, i1]
    refine c_at hX hT' (by omega) ⟨gk, ⟨by omega, by omega⟩, c_spellOn hk ⟨by omega, by omega⟩ ⟨by omega, by omega⟩ (fun S1 f1 l1 r1 s1 _ => ?_)⟩
    have e1 : S1.1 200 2 = p + i := by rw [f1]; exact i7
    rw [e1]
    have hn : p + i < n := hX.in (by omega)
    have hn2 := hX.1
    refine ⟨⟨by omega, by omega⟩, fun S2 h2 => ⟨⟨rfl, i + 1, by omega, by omega, ?_, ?_, ?_, ?_, ?_, ?_⟩, by dsimp only; omega⟩⟩
    · rw [show p + ((i + 1 : Nat) : Int) = p + i + 1 by omega]
      omega
    · rw [h2]
      exact (i5.tr (fun a j _ => by rw [f1])).tr pI_pl
    · rw [h2]
      exact i6.tr l1
    · rw [h2]
      show p + (i : Int) + 1 = p + ((i + 1 : Nat) : Int)
      omega
    · have e2 : cRow S2 k = cRow S1 k := by rw [h2]; rfl
      rw [e2, r1, i8, catF_snoc, xl_app]
      show _ = _ ++ (xf (T (p + i)) ++ [])
      rw [List.append_nil]
    · have e2 : S2.2 35 k = S1.2 35 k := by rw [h2]; rfl
      rw [e2]
      exact ⟨by omega, by omega⟩
  · rw [n01] at h h2
    rcases qR_len (T := T) (p := p) with q | ⟨-, q, -⟩
    · exact q.1
    · omega
end CN

