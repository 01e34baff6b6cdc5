/-! READING XML: the class's leaves -/
def rTx (S : St) (T : Int → Int) (n : Int) : Prop := S.1 1 1 = n ∧ ∀ p, 0 ≤ p → p < n → S.2 1 p = T p
theorem pI_pI {S : St} {a j : Nat} {x y : Int} : pI (pI S a j x) a j y = pI S a j y := by
  refine Prod.ext (funext fun a' => funext fun j' => ?_) rfl
  show (if a' = a ∧ j' = j then y else (if a' = a ∧ j' = j then x else S.1 a' j')) = if a' = a ∧ j' = j then y else S.1 a' j'
  by_cases h : a' = a ∧ j' = j
  · rw [if_pos h, if_pos h]
  · rw [if_neg h, if_neg h, if_neg h]
theorem pI_id {S : St} {a j : Nat} : pI S a j (S.1 a j) = S := by
  refine Prod.ext (funext fun a' => funext fun j' => ?_) rfl
  show (if a' = a ∧ j' = j then S.1 a j else S.1 a' j') = S.1 a' j'
  by_cases h : a' = a ∧ j' = j
  · rw [if_pos h, h.1, h.2]
  · rw [if_neg h]
theorem pI_v {S : St} {a j : Nat} {x : Int} : (pI S a j x).1 a j = x := if_pos ⟨rfl, rfl⟩
theorem pI_j {S : St} {a j a' j' : Nat} {x : Int} (h : ¬ (a' = a ∧ j' = j)) : (pI S a j x).1 a' j' = S.1 a' j' := if_neg h
theorem rTx.mv {S S' : St} {T : Int → Int} {n : Int} (h : rTx S T n) (h1 : S'.1 1 = S.1 1) (h2 : S'.2 1 = S.2 1) : rTx S' T n := by
  unfold rTx at h ⊢
  rw [h1, h2]
  exact h
theorem rTx.pi {S : St} {T : Int → Int} {n x : Int} {j : Nat} (h : rTx S T n) : rTx (pI S 220 j x) T n := h.mv (funext fun j' => pI_j (fun z => absurd z.1 (by decide))) rfl
section YL
variable {S : St} {K : Int → St → Prop} {T : Int → Int} {n p u i : Int}
theorem k_at (hX : TX T n) (hC : rTx S T n) (i0 : 0 ≤ i) (hK : K (T i) S) : wX5_at 1 i S K := by
  intro r hr
  rcases hr with ⟨h0, h1, h2, h3⟩ | ⟨h0, h1⟩
  · rw [hC.1] at h1
    rw [hC.2 i h0 h1] at h2
    rw [h2]
    exact hK
  · rw [hC.1] at h0
    rw [hX.2.2 i (by omega)] at hK
    rw [h1]
    exact hK
theorem k_len (hC : rTx S T n) (hK : K n S) : wX5_length 1 S K := by
  intro _
  rw [hC.1]
  exact hK
theorem k_isBl (hK : ∀ r, (r = 1 ∧ isBl u) ∨ (r = 0 ∧ ¬ isBl u) → K r S) : wX10_isBlank u S K := by
  unfold wX10_isBlank
  intro _
  exact ⟨fun h => hK 1 (Or.inl ⟨rfl, Or.inl h⟩), fun h => ⟨fun h2 => hK 1 (Or.inl ⟨rfl, by omega⟩), fun h2 => ⟨fun h3 => hK 1 (Or.inl ⟨rfl, by omega⟩), fun h3 => ⟨fun h4 => hK 0 (Or.inr ⟨rfl, by omega⟩), fun h4 => hK 1 (Or.inl ⟨rfl, by omega⟩)⟩⟩⟩⟩
theorem k_isLt (hK : ∀ r, (r = 1 ∧ isLt u) ∨ (r = 0 ∧ ¬ isLt u) → K r S) : wX10_isLetter u S K := by
  unfold wX10_isLetter wX10_isLetter_12
  intro g
  exact ⟨fun h => ⟨g, fun h2 => hK 0 (Or.inr ⟨rfl, by omega⟩), fun h2 => ⟨fun h3 => hK 0 (Or.inr ⟨rfl, by omega⟩), fun h3 => hK 1 (Or.inl ⟨rfl, by omega⟩)⟩⟩, fun h => ⟨fun h2 => hK 1 (Or.inl ⟨rfl, by omega⟩), fun h2 => ⟨g, fun h3 => hK 0 (Or.inr ⟨rfl, by omega⟩), fun h3 => ⟨fun h4 => hK 0 (Or.inr ⟨rfl, by omega⟩), fun h4 => hK 1 (Or.inl ⟨rfl, by omega⟩)⟩⟩⟩⟩
theorem k_isDg (hK : ∀ r, (r = 1 ∧ isDg u) ∨ (r = 0 ∧ ¬ isDg u) → K r S) : wX10_isDigit u S K := by
  unfold wX10_isDigit
  intro _
  exact ⟨fun h => hK 0 (Or.inr ⟨rfl, by omega⟩), fun h => ⟨fun h2 => hK 0 (Or.inr ⟨rfl, by omega⟩), fun h2 => hK 1 (Or.inl ⟨rfl, by omega, by omega⟩)⟩⟩
theorem k_isSn (hK : ∀ r, (r = 1 ∧ isSn u) ∨ (r = 0 ∧ ¬ isSn u) → K r S) : wX10_isSign u S K := by
  unfold wX10_isSign wX10_isSign_12
  intro g
  have rest : ¬ (32 ≤ u ∧ u ≤ 126) → (rng u ∧ ((u = 9 → K 1 S) ∧ ((¬ (u = 9)) → ((u = 10 → K 1 S) ∧ ((¬ (u = 10)) → ((¬ u = 13 → K 0 S) ∧ ((¬ (¬ u = 13)) → K 1 S))))))) := fun h => ⟨g, fun h2 => hK 1 (Or.inl ⟨rfl, by omega⟩), fun h2 => ⟨fun h3 => hK 1 (Or.inl ⟨rfl, by omega⟩), fun h3 => ⟨fun h4 => hK 0 (Or.inr ⟨rfl, by omega⟩), fun h4 => hK 1 (Or.inl ⟨rfl, by omega⟩)⟩⟩⟩
  exact ⟨fun h => rest (by omega), fun h => ⟨fun h2 => hK 1 (Or.inl ⟨rfl, by omega⟩), fun h2 => rest (by omega)⟩⟩
theorem k_nBg (hK : ∀ r, (r = 1 ∧ nBg u) ∨ (r = 0 ∧ ¬ nBg u) → K r S) : wX9_isNameBegin u S K := by
  unfold wX9_isNameBegin
  intro _
  refine k_isLt (fun r hr => ?_)
  rcases hr with ⟨rfl, h⟩ | ⟨rfl, h⟩
  · exact ⟨⟨by decide, by decide⟩, fun _ => hK 1 (Or.inl ⟨rfl, Or.inl h⟩), fun q => absurd (by decide) q⟩
  · exact ⟨⟨by decide, by decide⟩, fun q => absurd rfl q, fun _ => ⟨fun h2 => hK 0 (Or.inr ⟨rfl, fun z => z.elim h h2⟩), fun h2 => hK 1 (Or.inl ⟨rfl, Or.inr (by omega)⟩)⟩⟩
theorem k_nIn (hK : ∀ r, (r = 1 ∧ nIn u) ∨ (r = 0 ∧ ¬ nIn u) → K r S) : wX9_isNameSign u S K := by
  unfold wX9_isNameSign
  intro _
  refine k_isLt (fun r hr => ?_)
  rcases hr with ⟨rfl, h⟩ | ⟨rfl, h⟩
  · exact ⟨⟨by decide, by decide⟩, fun _ => hK 1 (Or.inl ⟨rfl, Or.inl h⟩), fun q => absurd (by decide) q⟩
  · refine ⟨⟨by decide, by decide⟩, fun q => absurd rfl q, fun _ => k_isDg (fun r hr => ?_)⟩
    rcases hr with ⟨rfl, h1⟩ | ⟨rfl, h1⟩
    · exact ⟨⟨by decide, by decide⟩, fun _ => hK 1 (Or.inl ⟨rfl, by omega⟩), fun q => absurd (by decide) q⟩
    · exact ⟨⟨by decide, by decide⟩, fun q => absurd rfl q, fun _ => ⟨fun h2 => hK 1 (Or.inl ⟨rfl, by omega⟩), fun h2 => ⟨fun h3 => hK 1 (Or.inl ⟨rfl, by omega⟩), fun h3 => ⟨fun h4 => hK 0 (Or.inr ⟨rfl, by omega⟩), fun h4 => hK 1 (Or.inl ⟨rfl, by omega⟩)⟩⟩⟩⟩
theorem k_blanks (hX : TX T n) (hC : rTx S T n) (hp : S.1 220 3 = p) (p0 : 0 ≤ p) (p1 : p ≤ n) (hK : K 0 (pI S 220 3 (rBl T p))) : wX9_skipBlanks S K := by
  have hn := hX.1
  refine ⟨fun S' => ∃ q, S' = pI S 220 3 q ∧ p ≤ q ∧ q ≤ n ∧ ∀ i, p ≤ i → i < q → isBl (T i), fun S' => (n + 1 - S'.1 220 3).toNat, ⟨p, by rw [← hp]; exact pI_id.symm, Int.le_refl _, p1, fun i i1 i2 => absurd i2 (by omega)⟩, ?_⟩
  rintro S' ⟨q, hS, h1, h2, h3⟩
  have e : S'.1 220 3 = q := by rw [hS]; exact pI_v
  have hC' : rTx S' T n := by rw [hS]; exact hC.pi
  have out : ¬ isBl (T q) → K 0 S' := fun h => by
    have eq : rBl T p = q := eB_eq 3001 p q h1 h3 h (by omega)
    rw [eq, ← hS] at hK
    exact hK
  intro _
  rw [e]
  refine k_len hC' ⟨⟨by omega, by omega⟩, fun z => out (by rw [hX.2.2 q z]; omega), fun z => ?_⟩
  rw [e]
  have b := tx_rng hX (show 0 ≤ q by omega)
  refine fun _ => k_at hX hC' (by omega) ⟨⟨by omega, by omega⟩, k_isBl (fun r hr => ?_)⟩
  rcases hr with ⟨rfl, h⟩ | ⟨rfl, h⟩
  · refine ⟨⟨by decide, by decide⟩, fun z => absurd z (by decide), fun _ => ?_⟩
    rw [e]
    refine fun _ => ⟨⟨by omega, by omega⟩, fun S15 e15 => ⟨⟨q + 1, by rw [e15, hS, pI_pI], by omega, by omega, fun i i1 i2 => ?_⟩, ?_⟩⟩
    · by_cases c : i = q
      · rw [c]
        exact h
      · exact h3 i i1 (by omega)
    · show (n + 1 - S15.1 220 3).toNat < (n + 1 - S'.1 220 3).toNat
      rw [e, show S15.1 220 3 = q + 1 by rw [e15]; exact pI_v]
      omega
  · exact ⟨⟨by decide, by decide⟩, fun _ => out h, fun z => absurd rfl z⟩
theorem k_name (hX : TX T n) (hC : rTx S T n) (hp : S.1 220 3 = p) (p0 : 0 ≤ p) (p1 : p ≤ n) (hK : K 0 (pI S 220 3 (if nBg (T p) then rNm T p else p))) : wX9_skipName S K := by
  have hn := hX.1
  have b0 := tx_rng hX p0
  unfold wX9_skipName
  intro _
  rw [hp]
  refine k_at hX hC p0 ⟨⟨by omega, by omega⟩, k_nBg (fun r hr => ?_)⟩
  rcases hr with ⟨rfl, hg⟩ | ⟨rfl, hg⟩
  · refine ⟨⟨by decide, by decide⟩, fun _ => ?_, fun z => absurd (by decide) z⟩
    rw [if_pos hg] at hK
    refine ⟨fun S' => ∃ q, S' = pI S 220 3 q ∧ p ≤ q ∧ q ≤ n ∧ ∀ i, p ≤ i → i < q → nIn (T i), fun S' => (n + 1 - S'.1 220 3).toNat, ⟨p, by rw [← hp]; exact pI_id.symm, Int.le_refl _, p1, fun i i1 i2 => absurd i2 (by omega)⟩, ?_⟩
    rintro S' ⟨q, hS, h1, h2, h3⟩
    have e : S'.1 220 3 = q := by rw [hS]; exact pI_v
    have hC' : rTx S' T n := by rw [hS]; exact hC.pi
    have out : ¬ nIn (T q) → K 0 S' := fun h => by
      have eq : rNm T p = q := eNm_eq 3001 p q h1 h3 h (by omega)
      rw [eq, ← hS] at hK
      exact hK
    intro _
    rw [e]
    refine k_len hC' ⟨⟨by omega, by omega⟩, fun z => out (by rw [hX.2.2 q z]; omega), fun z => ?_⟩
    rw [e]
    have b := tx_rng hX (show 0 ≤ q by omega)
    refine fun _ => k_at hX hC' (by omega) ⟨⟨by omega, by omega⟩, k_nIn (fun r hr => ?_)⟩
    rcases hr with ⟨rfl, h⟩ | ⟨rfl, h⟩
    · refine ⟨⟨by decide, by decide⟩, fun z => absurd z (by decide), fun _ => ?_⟩
      rw [e]
      refine fun _ => ⟨⟨by omega, by omega⟩, fun S15 e15 => ⟨⟨q + 1, by rw [e15, hS, pI_pI], by omega, by omega, fun i i1 i2 => ?_⟩, ?_⟩⟩
      · by_cases c : i = q
        · rw [c]
          exact h
        · exact h3 i i1 (by omega)
      · show (n + 1 - S15.1 220 3).toNat < (n + 1 - S'.1 220 3).toNat
        rw [e, show S15.1 220 3 = q + 1 by rw [e15]; exact pI_v]
        omega
    · exact ⟨⟨by decide, by decide⟩, fun _ => out h, fun z => absurd rfl z⟩
  · refine ⟨⟨by decide, by decide⟩, fun z => absurd rfl z, fun _ => ?_⟩
    rw [if_neg hg, ← hp, pI_id] at hK
    exact hK
theorem k_s2n (hX : TX T n) (hC : rTx S T n) (hp : S.1 220 3 = p) (p0 : 0 ≤ p) (p1 : p ≤ n) (hK : ∀ r, (r = 1 ∧ p < rBl T p ∧ nBg (T (rBl T p))) ∨ (r = 0 ∧ ¬ (p < rBl T p ∧ nBg (T (rBl T p)))) → K r (pI S 220 3 (rBl T p))) : wX9_skipsToName S K := by
  have hn := hX.1
  have hB := rBl_b (p := p) hX p1
  have b := tx_rng hX (show 0 ≤ rBl T p by omega)
  have e : (pI S 220 3 (rBl T p)).1 220 3 = rBl T p := pI_v
  unfold wX9_skipsToName
  intro _
  refine k_blanks hX hC hp p0 p1 ?_
  rw [e, hp]
  refine fun _ => ⟨fun z => hK 0 (Or.inr ⟨rfl, fun w => by omega⟩), fun z => k_at hX hC.pi (by omega) ⟨⟨by omega, by omega⟩, k_nBg (fun r hr => ?_)⟩⟩
  rcases hr with ⟨rfl, hg⟩ | ⟨rfl, hg⟩
  · exact ⟨⟨by decide, by decide⟩, fun w => absurd w (by decide), fun _ => hK 1 (Or.inl ⟨rfl, by omega, hg⟩)⟩
  · exact ⟨⟨by decide, by decide⟩, fun _ => hK 0 (Or.inr ⟨rfl, fun w => hg w.2⟩), fun w => absurd rfl w⟩
end YL

