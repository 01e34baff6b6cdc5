/-! READING XML: the model's leaves -/
def dTx (S : St) (T : Int → Int) (n : Int) : Prop := S.1 54 41 = n ∧ ∀ p, 0 ≤ p → p < n → S.2 84 p = T p
/-- the signs kept and whose they are -/
def mV (S : St) (V : List (Int × Int)) : Prop := S.1 54 56 = V.length ∧ ∀ k : Nat, k < V.length → S.2 96 k = (V.getD k (0, 0)).1 ∧ S.2 97 k = (V.getD k (0, 0)).2
/-- only signs are kept, or it fails -/
def Fvx (S S' : St) : Prop := (∀ j, j ≠ 56 → j ≠ 59 → S'.1 54 j = S.1 54 j) ∧ ∀ a, a ≠ 96 → a ≠ 97 → S'.2 a = S.2 a
theorem Fvx.rf {S : St} : Fvx S S := ⟨fun _ _ _ => rfl, fun _ _ _ => rfl⟩
theorem Fvx.tr {S S1 S2 : St} (h : Fvx S S1) (g : Fvx S1 S2) : Fvx S S2 := ⟨fun j q1 q2 => (g.1 j q1 q2).trans (h.1 j q1 q2), fun a q1 q2 => (g.2 a q1 q2).trans (h.2 a q1 q2)⟩
theorem dTx.mv {S S' : St} {T : Int → Int} {n : Int} (h : dTx S T n) (h1 : S'.1 54 41 = S.1 54 41) (h2 : S'.2 84 = S.2 84) : dTx S' T n := by
  unfold dTx at h ⊢
  rw [h1, h2]
  exact h
theorem dTx.fvx {S S' : St} {T : Int → Int} {n : Int} (h : dTx S T n) (k : Fvx S S') : dTx S' T n := h.mv (k.1 41 (by decide) (by decide)) (k.2 84 (by decide) (by decide))
section XL
variable {S : St} {K : Int → St → Prop} {T : Int → Int} {n p u o : Int} {V : List (Int × Int)}
theorem n_doc (hX : TX T n) (hD : dTx S T n) (p0 : 0 ≤ p) (hK : K (T p) S) : wX11_docAt p S K := by
  have hn := hX.1
  have e := hD.1
  unfold wX11_docAt
  intro _ _
  rw [e]
  refine ⟨fun h => ?_, fun h => ⟨p0, by omega, fun _ => ?_⟩⟩
  · rw [hX.2.2 p h] at hK
    exact hK
  · rw [hD.2 p p0 (by omega)]
    exact hK
theorem tx_rng (hX : TX T n) (p0 : 0 ≤ p) : iv (-1) 65535 (T p) := hX.bd p0
theorem n_isBl (hK : ∀ r, (r = 1 ∧ isBl u) ∨ (r = 0 ∧ ¬ isBl u) → K r S) : wX11_isBlank u S K := by
  unfold wX11_isBlank
  intro _
  exact ⟨fun h => hK 1 (Or.inl ⟨rfl, Or.inl h⟩), fun h => ⟨fun h2 => hK 1 (Or.inl ⟨rfl, by omega⟩), fun h2 => ⟨fun h3 => hK 1 (Or.inl ⟨rfl, by omega⟩), fun h3 => ⟨fun h4 => hK 0 (Or.inr ⟨rfl, by omega⟩), fun h4 => hK 1 (Or.inl ⟨rfl, by omega⟩)⟩⟩⟩⟩
theorem n_isLt (hK : ∀ r, (r = 1 ∧ isLt u) ∨ (r = 0 ∧ ¬ isLt u) → K r S) : wX11_isLetter u S K := by
  unfold wX11_isLetter wX11_isLetter_12
  intro g
  exact ⟨fun h => ⟨g, fun h2 => hK 0 (Or.inr ⟨rfl, by omega⟩), fun h2 => ⟨fun h3 => hK 0 (Or.inr ⟨rfl, by omega⟩), fun h3 => hK 1 (Or.inl ⟨rfl, by omega⟩)⟩⟩, fun h => ⟨fun h2 => hK 1 (Or.inl ⟨rfl, by omega⟩), fun h2 => ⟨g, fun h3 => hK 0 (Or.inr ⟨rfl, by omega⟩), fun h3 => ⟨fun h4 => hK 0 (Or.inr ⟨rfl, by omega⟩), fun h4 => hK 1 (Or.inl ⟨rfl, by omega⟩)⟩⟩⟩⟩
theorem n_isDg (hK : ∀ r, (r = 1 ∧ isDg u) ∨ (r = 0 ∧ ¬ isDg u) → K r S) : wX11_isDigit u S K := by
  unfold wX11_isDigit
  intro _
  exact ⟨fun h => hK 0 (Or.inr ⟨rfl, by omega⟩), fun h => ⟨fun h2 => hK 0 (Or.inr ⟨rfl, by omega⟩), fun h2 => hK 1 (Or.inl ⟨rfl, by omega, by omega⟩)⟩⟩
theorem n_nBg (hK : ∀ r, (r = 1 ∧ nBg u) ∨ (r = 0 ∧ ¬ nBg u) → K r S) : wX11_beginsName u S K := by
  unfold wX11_beginsName
  intro _
  refine n_isLt (fun r hr => ?_)
  rcases hr with ⟨rfl, h⟩ | ⟨rfl, h⟩
  · exact ⟨⟨by decide, by decide⟩, fun _ => hK 1 (Or.inl ⟨rfl, Or.inl h⟩), fun q => absurd (by decide) q⟩
  · exact ⟨⟨by decide, by decide⟩, fun q => absurd rfl q, fun _ => ⟨fun h2 => hK 0 (Or.inr ⟨rfl, fun z => z.elim h h2⟩), fun h2 => hK 1 (Or.inl ⟨rfl, Or.inr (by omega)⟩)⟩⟩
theorem n_nIn (hK : ∀ r, (r = 1 ∧ nIn u) ∨ (r = 0 ∧ ¬ nIn u) → K r S) : wX11_inName u S K := by
  unfold wX11_inName
  intro _
  refine n_nBg (fun r hr => ?_)
  rcases hr with ⟨rfl, h⟩ | ⟨rfl, h⟩
  · exact ⟨⟨by decide, by decide⟩, fun _ => hK 1 (Or.inl ⟨rfl, by omega⟩), fun q => absurd (by decide) q⟩
  · refine ⟨⟨by decide, by decide⟩, fun q => absurd rfl q, fun _ => n_isDg (fun r hr => ?_)⟩
    rcases hr with ⟨rfl, h1⟩ | ⟨rfl, h1⟩
    · exact ⟨⟨by decide, by decide⟩, fun _ => hK 1 (Or.inl ⟨rfl, by omega⟩), fun q => absurd (by decide) q⟩
    · exact ⟨⟨by decide, by decide⟩, fun q => absurd rfl q, fun _ => ⟨fun h2 => hK 1 (Or.inl ⟨rfl, by omega⟩), fun h2 => ⟨fun h3 => hK 0 (Or.inr ⟨rfl, by omega⟩), fun h3 => hK 1 (Or.inl ⟨rfl, by omega⟩)⟩⟩⟩
theorem n_blanks (hX : TX T n) (hD : dTx S T n) (p0 : 0 ≤ p) (p1 : p ≤ 3010) (hK : K (rBl T p) S) : wX11_blanksFrom p S K := by
  have hn := hX.1
  unfold wX11_blanksFrom
  intro _
  refine ⟨fun l2 S' => S' = S ∧ p ≤ l2 ∧ (l2 ≤ n ∨ l2 = p) ∧ ∀ i, p ≤ i → i < l2 → isBl (T i), fun l2 _ => (n + 1 - l2).toNat, ⟨rfl, Int.le_refl _, Or.inr rfl, fun i i1 i2 => absurd i2 (by omega)⟩, ?_⟩
  rintro l2 S' ⟨rfl, h1, h2, h3⟩
  have b := tx_rng hX (show 0 ≤ l2 by omega)
  refine ⟨⟨by omega, by omega⟩, n_doc hX hD (by omega) ⟨⟨by omega, by omega⟩, n_isBl (fun r hr => ?_)⟩⟩
  rcases hr with ⟨rfl, h⟩ | ⟨rfl, h⟩
  · have hl : l2 < n := Int.lt_of_not_ge fun q => by
      have := hX.2.2 l2 q
      omega
    refine ⟨⟨by decide, by decide⟩, fun q => absurd q (by decide), fun _ => ⟨⟨rfl, by omega, by omega, fun i i1 i2 => ?_⟩, by show (n + 1 - (l2 + 1)).toNat < (n + 1 - l2).toNat; omega⟩⟩
    by_cases hi : i = l2
    · rw [hi]
      exact h
    · exact h3 i i1 (by omega)
  · refine ⟨⟨by decide, by decide⟩, fun _ => ?_, fun q => absurd rfl q⟩
    have e : rBl T p = l2 := eB_eq 3001 p l2 h1 h3 h (by omega)
    rw [← e]
    exact hK
theorem n_names (hX : TX T n) (hD : dTx S T n) (p0 : 0 ≤ p) (p1 : p ≤ 3010) (hK : K (rNm T p) S) : wX11_nameEnd p S K := by
  have hn := hX.1
  unfold wX11_nameEnd
  intro _
  refine ⟨fun l2 S' => S' = S ∧ p ≤ l2 ∧ (l2 ≤ n ∨ l2 = p) ∧ ∀ i, p ≤ i → i < l2 → nIn (T i), fun l2 _ => (n + 1 - l2).toNat, ⟨rfl, Int.le_refl _, Or.inr rfl, fun i i1 i2 => absurd i2 (by omega)⟩, ?_⟩
  rintro l2 S' ⟨rfl, h1, h2, h3⟩
  have b := tx_rng hX (show 0 ≤ l2 by omega)
  refine ⟨⟨by omega, by omega⟩, n_doc hX hD (by omega) ⟨⟨by omega, by omega⟩, n_nIn (fun r hr => ?_)⟩⟩
  rcases hr with ⟨rfl, h⟩ | ⟨rfl, h⟩
  · have hl : l2 < n := Int.lt_of_not_ge fun q => by
      have := hX.2.2 l2 q
      omega
    refine ⟨⟨by decide, by decide⟩, fun q => absurd q (by decide), fun _ => ⟨⟨rfl, by omega, by omega, fun i i1 i2 => ?_⟩, by show (n + 1 - (l2 + 1)).toNat < (n + 1 - l2).toNat; omega⟩⟩
    by_cases hi : i = l2
    · rw [hi]
      exact h
    · exact h3 i i1 (by omega)
  · refine ⟨⟨by decide, by decide⟩, fun _ => ?_, fun q => absurd rfl q⟩
    have e : rNm T p = l2 := eNm_eq 3001 p l2 h1 h3 h (by omega)
    rw [← e]
    exact hK
theorem n_fail (hb : iv (-2) 4000 (S.1 54 59)) (hp : iv 0 4000 p) (hK : ∀ S', Fvx S S' → S'.1 54 56 = S.1 54 56 → S'.2 = S.2 → ¬ S'.1 54 59 = -2 → iv (-2) 4000 (S'.1 54 59) → K 0 S') : wX11_fail p S K := by
  unfold wX11_fail
  intro _ _
  refine ⟨fun h S3 e3 => hK S3 (by rw [e3]; exact ⟨fun j _ q => if_neg (fun z => q z.2), fun _ _ _ => rfl⟩) (by rw [e3]; rfl) (by rw [e3]; rfl) ?_ ?_, fun h => ⟨⟨by omega, by omega⟩, fun S4 e4 => hK S4 (by rw [e4]; exact ⟨fun j _ q => if_neg (fun z => q z.2), fun _ _ _ => rfl⟩) (by rw [e4]; rfl) (by rw [e4]; rfl) ?_ ?_⟩⟩
  · rw [show S3.1 54 59 = S.1 54 59 by rw [e3]; rfl]
    exact h
  · rw [show S3.1 54 59 = S.1 54 59 by rw [e3]; rfl]
    exact hb
  · rw [show S4.1 54 59 = p by rw [e4]; rfl]
    omega
  · rw [show S4.1 54 59 = p by rw [e4]; rfl]
    exact ⟨by omega, by omega⟩
theorem mV.mv {S S' : St} (h : mV S V) (h1 : S'.1 54 56 = S.1 54 56) (h2 : S'.2 96 = S.2 96) (h3 : S'.2 97 = S.2 97) : mV S' V := by
  unfold mV at h ⊢
  rw [h1, h2, h3]
  exact h
theorem n_keep (hV : mV S V) (hl : V.length < 3000) (ho : iv (-2) 199 o) (hK : ∀ S', Fvx S S' → mV S' (V ++ [(u, o)]) → S'.1 54 59 = S.1 54 59 → K 0 S') : wX11_keep u o S K := by
  obtain ⟨v1, v2⟩ := hV
  unfold wX11_keep
  intro gu _ _
  rw [v1]
  refine ⟨by omega, by omega, ⟨by omega, by omega⟩, fun S3 e3 => ?_⟩
  have a3 : S3.1 54 56 = V.length := by rw [e3]; exact v1
  rw [a3]
  refine fun _ => ⟨by omega, by omega, ho, fun S7 e7 => ?_⟩
  have a7 : S7.1 54 56 = V.length := by rw [e7]; exact a3
  rw [a7]
  refine fun _ => ⟨⟨by omega, by omega⟩, fun S10 e10 => hK S10 ⟨fun j q1 q2 => ?_, fun a q1 q2 => ?_⟩ ⟨?_, fun k hk => ?_⟩ ?_⟩
  · rw [e10, e7, e3]
    exact if_neg (fun z => q1 z.2)
  · rw [e10, e7, e3]
    exact ((pA_ne a q2).2).trans (pA_ne a q1).2
  · rw [show S10.1 54 56 = (V.length : Int) + 1 by rw [e10]; rfl, List.length_append]
    rfl
  · rw [List.length_append] at hk
    have hk : k < V.length + 1 := hk
    have e96 : S10.2 96 k = if (k : Int) = V.length then u else S.2 96 k := by
      rw [e10, e7, e3]
      show (pA (pA S 96 (V.length : Int) u) 97 (V.length : Int) o).2 96 k = _
      rw [(pA_ne 96 (by decide)).2, pA_if]
    have e97 : S10.2 97 k = if (k : Int) = V.length then o else S.2 97 k := by
      rw [e10, e7, e3]
      show (pA (pA S 96 (V.length : Int) u) 97 (V.length : Int) o).2 97 k = _
      rw [pA_if, (pA_ne 97 (by decide)).2]
    rw [e96, e97]
    by_cases q : k = V.length
    · rw [if_pos (by omega), if_pos (by omega), q, List.getD_eq_getElem?_getD, List.getElem?_append_right (Nat.le_refl _), Nat.sub_self]
      exact ⟨rfl, rfl⟩
    · rw [if_neg (by omega), if_neg (by omega), List.getD_eq_getElem?_getD, List.getElem?_append_left (by omega), ← List.getD_eq_getElem?_getD]
      exact v2 k (by omega)
  · rw [e10, e7, e3]
    rfl
end XL

