/-! READING XML: the model reads an attribute -/
theorem gD_l {α : Type} {L : List α} {e d : α} {k : Nat} (h : k < L.length) : (L ++ [e]).getD k d = L.getD k d := by
  rw [List.getD_eq_getElem?_getD, List.getElem?_append_left h, ← List.getD_eq_getElem?_getD]
theorem gD_r {α : Type} {L : List α} {e d : α} {k : Nat} (h : k = L.length) : (L ++ [e]).getD k d = e := by
  rw [h, List.getD_eq_getElem?_getD, List.getElem?_append_right (Nat.le_refl _), Nat.sub_self]
  rfl
theorem up1_s {L : List Xe} {e : Xe} : up1 (L ++ [e]) = L ++ [(e.1, e.2.1, e.2.2.1, e.2.2.2.1, e.2.2.2.2.1 + 1, e.2.2.2.2.2)] := by
  unfold up1
  rw [List.dropLast_concat, List.getLastD_concat]
theorem up2_s {L : List Xe} {e : Xe} {t : Int} : up2 (L ++ [e]) t = L ++ [(e.1, e.2.1, e.2.2.1, e.2.2.2.1, e.2.2.2.2.1, t)] := by
  unfold up2
  rw [List.dropLast_concat, List.getLastD_concat]
theorem any_drop {A : List Xa} {g : Xa → Bool} : ∀ {m : Nat}, (A.drop m).any g = true ↔ ∃ i, m ≤ i ∧ i < A.length ∧ g (A.getD i a4) = true := by
  intro m
  rw [List.any_eq_true]
  refine ⟨fun ⟨x, hx, hg⟩ => ?_, fun ⟨i, i0, i1, hg⟩ => ⟨A.getD i a4, ?_, hg⟩⟩
  · obtain ⟨j, hj, e⟩ := List.mem_iff_getElem.mp hx
    rw [List.length_drop] at hj
    refine ⟨m + j, by omega, by omega, ?_⟩
    rw [List.getElem_drop] at e
    rw [List.getD_eq_getElem?_getD, List.getElem?_eq_getElem (by omega)]
    show g A[m + j] = true
    rw [e]
    exact hg
  · rw [List.getD_eq_getElem?_getD, List.getElem?_eq_getElem i1]
    show A[i] ∈ A.drop m
    refine List.mem_iff_getElem.mpr ⟨i - m, by rw [List.length_drop]; omega, ?_⟩
    rw [List.getElem_drop]
    congr 1
    omega
/-- what an attribute leaves -/
def AtO (S S' : St) (x : Option (Xs × Int)) (r : Int) : Prop := PF S S' ∧ S'.2 89 = S.2 89 ∧ S'.1 54 60 = S.1 54 60 ∧ ((∃ s', x = some (s', r) ∧ mX S' s' ∧ S'.1 54 59 = -2) ∨ (x = none ∧ ¬ S'.1 54 59 = -2 ∧ iv (-2) 4000 (S'.1 54 59) ∧ iv 0 3020 r))
theorem rNm_b {T : Int → Int} {n p : Int} (hX : TX T n) (p1 : p ≤ n) (h : nIn (T p)) : p < rNm T p ∧ rNm T p ≤ n := by
  have q := eNm_le (T := T) (n := n) hX.2.2 3000 (p + 1)
  have e : rNm T p = eNm T 3000 (p + 1) := by
    show (if nIn (T p) then eNm T 3000 (p + 1) else p) = _
    rw [if_pos h]
  have hp : p < n := Int.lt_of_not_ge (fun z => by
    have := hX.2.2 p z
    omega)
  rw [e]
  exact ⟨by omega, q.2.1 (by omega)⟩
section XB
variable {S : St} {K : Int → St → Prop} {T : Int → Int} {n p u o : Int} {V : List (Int × Int)} {A : List Xa} {L : List Xe} {e : Xe}
/-- the value is read, the attribute is there -/
theorem n_117 {to : Int} (hX : TX T n) (hD : dTx S T n) (hM : mX S (L ++ [e], A, V)) (hw : WX n (L ++ [e], A, V) p) (hb : S.1 54 59 = -2) (hL : L.length < 200) (p0 : 0 ≤ p) (pt : p < to) (tn : to ≤ n) (hq : T (to + 1) = 34 ∨ T (to + 1) = 39) (hK : ∀ r S', AtO S S' (match xV T (T (to + 1)) 3001 (to + 2) [] with | none => none | some r => some ((up1 (L ++ [e]), A ++ [(p, to, (V.length : Int), (V.length : Int) + (r.1.length : Int))], V ++ r.1.map (fun u => (u, -2))), r.2)) r → K r S') : wX11_attribute_117 p (L.length : Int) to (T (to + 1)) S K := by
  have hn := hX.1
  obtain ⟨⟨m1, m2⟩, ⟨a1, a2⟩, hV⟩ := hM
  obtain ⟨w1, w2, w3, w4⟩ := hw
  have m1 : S.1 54 43 = ((L ++ [e]).length : Int) := m1
  have a1 : S.1 54 51 = (A.length : Int) := a1
  have a2 : ∀ k : Nat, k < A.length → S.2 92 k = (A.getD k a4).1 ∧ S.2 93 k = (A.getD k a4).2.1 - (A.getD k a4).1 ∧ S.2 94 k = (A.getD k a4).2.2.1 ∧ S.2 95 k = (A.getD k a4).2.2.2 - (A.getD k a4).2.2.1 := a2
  have hV : mV S V := hV
  have w1 : (V.length : Int) ≤ p := w1
  have w2 : 5 * (A.length : Int) ≤ p := w2
  have hlen : (L ++ [e]).length = L.length + 1 := by rw [List.length_append]; rfl
  have me := m2 L.length (by rw [hlen]; omega)
  have we := w3 L.length (by show L.length < (L ++ [e]).length; rw [hlen]; omega)
  rw [show ((L ++ [e], A, V) : Xs).1 = L ++ [e] from rfl] at we
  rw [gD_r rfl] at me we
  have we8 : e.2.2.2.1 + e.2.2.2.2.1 ≤ A.length := we.2.2.2.2.2.2.2
  have we6 := we.2.2.2.2.2.1
  have we7 := we.2.2.2.2.2.2.1
  have t1 : to + 1 < n := Int.lt_of_not_ge (fun z => by
    have := hX.2.2 _ z
    omega)
  unfold wX11_attribute_117
  intro _
  rw [a1]
  refine ⟨by omega, by omega, ⟨by omega, by omega⟩, fun S3 e3 => ⟨by omega, by omega, ⟨by omega, by omega⟩, fun S6 e6' => ?_⟩⟩
  have v6 : S6.1 54 56 = V.length := by rw [e6', e3]; exact hV.1
  rw [v6]
  refine fun _ => ⟨by omega, by omega, fun S10 e10 x11 e11 => ?_⟩
  rw [e11]
  have f10 : S10.1 = S.1 := by rw [e10, e6', e3]; rfl
  have g10 : ∀ k, k ≠ 92 → k ≠ 93 → k ≠ 94 → S10.2 k = S.2 k := fun k k1 k2 k3 => by
    rw [e10, e6', e3, (pA_ne k k3).2, (pA_ne k k2).2, (pA_ne k k1).2]
  have g92 : ∀ y, S10.2 92 y = if y = A.length then p else S.2 92 y := fun y => by
    rw [e10, e6', e3, (pA_ne 92 (by decide)).2, (pA_ne 92 (by decide)).2, pA_if]
  have g93 : ∀ y, S10.2 93 y = if y = A.length then to - p else S.2 93 y := fun y => by
    rw [e10, e6', e3, (pA_ne 93 (by decide)).2, pA_if, (pA_ne 93 (by decide)).2]
  have g94 : ∀ y, S10.2 94 y = if y = A.length then (V.length : Int) else S.2 94 y := fun y => by
    rw [e10, e6', e3, pA_if, (pA_ne 94 (by decide)).2, (pA_ne 94 (by decide)).2]
  refine n_val hX (hD.mv (by rw [f10]) (g10 84 (by decide) (by decide) (by decide))) (hV.mv (by rw [f10]) (g10 96 (by decide) (by decide) (by decide)) (g10 97 (by decide) (by decide) (by decide))) (by omega) (by omega) (by rw [f10]; exact hb) hq (fun r S' hF hc => ?_)
  have l56 : ∃ l : List Int, mV S' (V ++ l.map (fun v => (v, -2))) ∧ (V.length : Int) + l.length ≤ n := by
    rcases hc with ⟨l, -, h2, -, h4, h5⟩ | ⟨-, h2, -⟩
    · exact ⟨l, h2, by omega⟩
    · exact h2
  obtain ⟨l, hV', ll⟩ := l56
  have v56 : S'.1 54 56 = V.length + l.length := by
    rw [hV'.1, List.length_append, List.length_map]
    omega
  have s94 : S'.2 94 A.length = V.length := by rw [hF.2 94 (by decide) (by decide), g94, if_pos rfl]
  have s51 : S'.1 54 51 = A.length := by rw [hF.1 51 (by decide) (by decide), f10]; exact a1
  have s91 : S'.2 91 L.length = e.2.2.2.2.1 := by rw [hF.2 91 (by decide) (by decide), g10 91 (by decide) (by decide) (by decide)]; exact me.2.2.2.2.2
  unfold wX11_attribute_234
  intro _
  rw [v56, s94]
  refine ⟨by omega, by omega, fun _ => ⟨by omega, by omega, ⟨by omega, by omega⟩, fun S5 e5 => ?_⟩⟩
  have t51 : S5.1 54 51 = A.length := by rw [e5]; exact s51
  rw [t51]
  refine fun _ => ⟨⟨by omega, by omega⟩, fun S8 e8 => ?_⟩
  have h8 : S8.2 = S5.2 := by rw [e8]; rfl
  have h91 : S8.2 91 = S'.2 91 := by rw [h8, e5, (pA_ne 91 (by decide)).2]
  have t91 : S8.2 91 L.length = e.2.2.2.2.1 := by rw [h91]; exact s91
  rw [t91]
  refine ⟨by omega, by omega, fun _ => ⟨by omega, by omega, ⟨by omega, by omega⟩, fun S13 e13 => ?_⟩⟩
  -- the state at the end
  have z1 : ∀ j, j ≠ 51 → S13.1 54 j = S'.1 54 j := fun j hj => by
    rw [e13, e8, e5]
    exact if_neg (fun z => hj z.2)
  have z51 : S13.1 54 51 = A.length + 1 := by rw [e13, e8]; rfl
  have z2 : ∀ k, k ≠ 91 → k ≠ 95 → S13.2 k = S'.2 k := fun k k1 k2 => by
    rw [e13, (pA_ne k k1).2, e8, e5]
    exact (pA_ne k k2).2
  have h95 : ∀ y, S8.2 95 y = if y = (A.length : Int) then (V.length : Int) + l.length - V.length else S'.2 95 y := fun y => by
    rw [h8, e5, pA_if]
  have z91 : ∀ y, S13.2 91 y = if y = (L.length : Int) then e.2.2.2.2.1 + 1 else S.2 91 y := fun y => by
    rw [e13, pA_if, h91, hF.2 91 (by decide) (by decide), g10 91 (by decide) (by decide) (by decide)]
  have z95 : ∀ y, S13.2 95 y = if y = (A.length : Int) then (l.length : Int) else S.2 95 y := fun y => by
    rw [e13, (pA_ne 95 (by decide)).2, h95, hF.2 95 (by decide) (by decide), g10 95 (by decide) (by decide) (by decide)]
    by_cases q : y = (A.length : Int)
    · rw [if_pos q, if_pos q]
      omega
    · rw [if_neg q, if_neg q]
  have rest : ∀ k, k ≠ 91 → k ≠ 92 → k ≠ 93 → k ≠ 94 → k ≠ 95 → k ≠ 96 → k ≠ 97 → S13.2 k = S.2 k := fun k q1 q2 q3 q4 q5 q6 q7 => (z2 k q1 q5).trans ((hF.2 k q6 q7).trans (g10 k q2 q3 q4))
  have pf : PF S S13 := ⟨fun j q1 q2 q3 q4 q5 => (z1 j q2).trans ((hF.1 j q3 q4).trans (by rw [f10])), fun k q => rest k (by omega) (by omega) (by omega) (by omega) (by omega) (by omega) (by omega)⟩
  refine hK (r + 1) S13 ⟨pf, rest 89 (by decide) (by decide) (by decide) (by decide) (by decide) (by decide) (by decide), (z1 60 (by decide)).trans ((hF.1 60 (by decide) (by decide)).trans (by rw [f10])), ?_⟩
  rcases hc with ⟨l', h1, h2, h3, h4, h5⟩ | ⟨h1, -, h3, h4, h5⟩
  · have el : l'.length = l.length := by
      have q := h2.1
      rw [v56, List.length_append, List.length_map] at q
      omega
    rw [h1]
    refine Or.inl ⟨_, rfl, ⟨⟨?_, fun k hk => ?_⟩, ⟨?_, fun k hk => ?_⟩, ?_⟩, (z1 59 (by decide)).trans h3⟩
    · show S13.1 54 43 = ((up1 (L ++ [e])).length : Int)
      rw [up1_s, List.length_append, z1 43 (by decide), hF.1 43 (by decide) (by decide), f10, m1, hlen]
      rfl
    · have hk : k < (up1 (L ++ [e])).length := hk
      rw [up1_s, List.length_append] at hk
      have hk : k < L.length + 1 := hk
      show S13.2 85 k = ((up1 (L ++ [e])).getD k e6).1 ∧ S13.2 86 k = ((up1 (L ++ [e])).getD k e6).1 + 1 ∧ S13.2 87 k = ((up1 (L ++ [e])).getD k e6).2.1 - (((up1 (L ++ [e])).getD k e6).1 + 1) ∧ S13.2 88 k = (if ((up1 (L ++ [e])).getD k e6).2.2.1 < 0 then -2 else ((up1 (L ++ [e])).getD k e6).2.2.1) ∧ S13.2 90 k = ((up1 (L ++ [e])).getD k e6).2.2.2.1 ∧ S13.2 91 k = ((up1 (L ++ [e])).getD k e6).2.2.2.2.1
      rw [up1_s, z91 k, rest 85 (by decide) (by decide) (by decide) (by decide) (by decide) (by decide) (by decide), rest 86 (by decide) (by decide) (by decide) (by decide) (by decide) (by decide) (by decide), rest 87 (by decide) (by decide) (by decide) (by decide) (by decide) (by decide) (by decide), rest 88 (by decide) (by decide) (by decide) (by decide) (by decide) (by decide) (by decide), rest 90 (by decide) (by decide) (by decide) (by decide) (by decide) (by decide) (by decide)]
      have mk := m2 k (by rw [hlen]; omega)
      by_cases q : k = L.length
      · rw [gD_r q] at mk ⊢
        rw [if_pos (show (k : Int) = L.length by omega)]
        exact ⟨mk.1, mk.2.1, mk.2.2.1, mk.2.2.2.1, mk.2.2.2.2.1, rfl⟩
      · rw [gD_l (by omega)] at mk ⊢
        rw [if_neg (show ¬ (k : Int) = L.length by omega)]
        exact mk
    · show S13.1 54 51 = ((A ++ [_]).length : Int)
      rw [z51, List.length_append]
      rfl
    · have hk : k < (A ++ [(p, to, (V.length : Int), (V.length : Int) + (l'.length : Int))]).length := hk
      rw [List.length_append] at hk
      have hk : k < A.length + 1 := hk
      show S13.2 92 k = ((A ++ [(p, to, (V.length : Int), (V.length : Int) + (l'.length : Int))]).getD k a4).1 ∧ S13.2 93 k = ((A ++ [(p, to, (V.length : Int), (V.length : Int) + (l'.length : Int))]).getD k a4).2.1 - ((A ++ [(p, to, (V.length : Int), (V.length : Int) + (l'.length : Int))]).getD k a4).1 ∧ S13.2 94 k = ((A ++ [(p, to, (V.length : Int), (V.length : Int) + (l'.length : Int))]).getD k a4).2.2.1 ∧ S13.2 95 k = ((A ++ [(p, to, (V.length : Int), (V.length : Int) + (l'.length : Int))]).getD k a4).2.2.2 - ((A ++ [(p, to, (V.length : Int), (V.length : Int) + (l'.length : Int))]).getD k a4).2.2.1
      rw [z2 92 (by decide) (by decide), z2 93 (by decide) (by decide), z2 94 (by decide) (by decide), z95, hF.2 92 (by decide) (by decide), hF.2 93 (by decide) (by decide), hF.2 94 (by decide) (by decide), g92, g93, g94]
      by_cases q : k = A.length
      · rw [gD_r q, if_pos (show (k : Int) = A.length by omega), if_pos (show (k : Int) = A.length by omega), if_pos (show (k : Int) = A.length by omega), if_pos (show (k : Int) = A.length by omega)]
        exact ⟨rfl, rfl, rfl, by show (l.length : Int) = (V.length : Int) + l'.length - V.length; omega⟩
      · rw [gD_l (by omega), if_neg (show ¬ (k : Int) = A.length by omega), if_neg (show ¬ (k : Int) = A.length by omega), if_neg (show ¬ (k : Int) = A.length by omega), if_neg (show ¬ (k : Int) = A.length by omega)]
        exact a2 k (by omega)
    · exact h2.mv (z1 56 (by decide)) (z2 96 (by decide) (by decide)) (z2 97 (by decide) (by decide))
  · rw [h1]
    exact Or.inr ⟨rfl, by rw [z1 59 (by decide)]; exact h3, by rw [z1 59 (by decide)]; exact h4, by omega, by omega⟩
theorem n_att (hX : TX T n) (hD : dTx S T n) (hM : mX S (L ++ [e], A, V)) (hw : WX n (L ++ [e], A, V) p) (hb : S.1 54 59 = -2) (hL : L.length < 200) (p0 : 0 ≤ p) (p1 : p < n) (hp : nBg (T p)) (hK : ∀ r S', AtO S S' (rAt T (L ++ [e], A, V) e.2.2.2.1.toNat p) r → K r S') : wX11_attribute p (L.length : Int) S K := by
  have hn := hX.1
  obtain ⟨⟨m1, m2⟩, ⟨a1, a2⟩, hV⟩ := hM
  obtain ⟨w1, w2, w3, w4⟩ := hw
  have m1 : S.1 54 43 = ((L ++ [e]).length : Int) := m1
  have a1 : S.1 54 51 = (A.length : Int) := a1
  have a2 : ∀ k : Nat, k < A.length → S.2 92 k = (A.getD k a4).1 ∧ S.2 93 k = (A.getD k a4).2.1 - (A.getD k a4).1 ∧ S.2 94 k = (A.getD k a4).2.2.1 ∧ S.2 95 k = (A.getD k a4).2.2.2 - (A.getD k a4).2.2.1 := a2
  have hV : mV S V := hV
  have w1 : (V.length : Int) ≤ p := w1
  have w2 : 5 * (A.length : Int) ≤ p := w2
  have hlen : (L ++ [e]).length = L.length + 1 := by rw [List.length_append]; rfl
  have me := m2 L.length (by rw [hlen]; omega)
  have we := w3 L.length (by show L.length < (L ++ [e]).length; rw [hlen]; omega)
  rw [show ((L ++ [e], A, V) : Xs).1 = L ++ [e] from rfl] at we
  rw [gD_r rfl] at me we
  have we8 : e.2.2.2.1 + e.2.2.2.2.1 ≤ A.length := we.2.2.2.2.2.2.2
  have we6 := we.2.2.2.2.2.1
  have we7 := we.2.2.2.2.2.2.1
  obtain ⟨to, hto⟩ : ∃ to, to = rNm T p := ⟨_, rfl⟩
  have hN := rNm_b hX (by omega) (show nIn (T p) by omega)
  rw [← hto] at hN
  have hatt : rAt T (L ++ [e], A, V) e.2.2.2.1.toNat p = if (A.drop e.2.2.2.1.toNat).any (fun a => nQ T a.1 a.2.1 p to) then none else if T to = 61 ∧ (T (to + 1) = 34 ∨ T (to + 1) = 39) then (match xV T (T (to + 1)) 3001 (to + 2) [] with | none => none | some r => some ((up1 (L ++ [e]), A ++ [(p, to, (V.length : Int), (V.length : Int) + (r.1.length : Int))], V ++ r.1.map (fun u => (u, -2))), r.2)) else none := by
    rw [hto]
    rfl
  obtain ⟨x, hx⟩ : ∃ x, x = rAt T (L ++ [e], A, V) e.2.2.2.1.toNat p := ⟨_, rfl⟩
  rw [← hx] at hK hatt
  unfold wX11_attribute
  intro gp _
  refine n_names hX hD p0 (by omega) ?_
  rw [← hto]
  refine ⟨by omega, by omega, fun _ x5 e5 => ?_⟩
  have e5 : x5 = e.2.2.2.1 := e5.trans me.2.2.2.2.1
  refine ⟨fun l1 l2 l3 l4 S' => l1 = p ∧ l2 = L.length ∧ l3 = to ∧ Fvx S S' ∧ mV S' V ∧ e.2.2.2.1 ≤ l4 ∧ l4 ≤ A.length ∧ iv (-2) 4000 (S'.1 54 59) ∧ (S'.1 54 59 = -2 ↔ ∀ i : Nat, e.2.2.2.1 ≤ i → (i : Int) < l4 → nQ T (A.getD i a4).1 (A.getD i a4).2.1 p to = false), fun l1 l2 l3 l4 S' => ((A.length : Int) - l4).toNat, ⟨rfl, rfl, rfl, Fvx.rf, hV, by omega, by omega, by rw [hb]; exact ⟨by decide, by decide⟩, ⟨fun _ i i0 i1 => by omega, fun _ => hb⟩⟩, ?_⟩
  rintro l1 l2 l3 l4 S' ⟨rfl, rfl, rfl, hF, hV', i0, i1, i2, i3⟩
  have hD' := hD.fvx hF
  have eA : S'.1 54 51 = A.length := (hF.1 51 (by decide) (by decide)).trans a1
  have ar : ∀ k, k ≠ 96 → k ≠ 97 → S'.2 k = S.2 k := hF.2
  intro _
  rw [eA]
  refine ⟨⟨by omega, by omega⟩, fun q => ?_, fun q => ?_⟩
  · -- behind the keys
    have hany : (S'.1 54 59 = -2) ↔ (A.drop e.2.2.2.1.toNat).any (fun a => nQ T a.1 a.2.1 l1 l3) = false := by
      rw [i3]
      refine ⟨fun h => ?_, fun h i j0 j1 => ?_⟩
      · cases hc : (A.drop e.2.2.2.1.toNat).any (fun a => nQ T a.1 a.2.1 l1 l3) with
        | false => rfl
        | true =>
          obtain ⟨i, j0, j1, j2⟩ := any_drop.mp hc
          have := h i (by omega) (by omega)
          rw [this] at j2
          cases j2
      · cases hc : nQ T (A.getD i a4).1 (A.getD i a4).2.1 l1 l3 with
        | false => rfl
        | true =>
          have : (A.drop e.2.2.2.1.toNat).any (fun a => nQ T a.1 a.2.1 l1 l3) = true := any_drop.mpr ⟨i, by omega, by omega, hc⟩
          rw [h] at this
          cases this
    have bt := tx_rng hX (show 0 ≤ l3 by omega)
    have bt1 := tx_rng hX (show 0 ≤ l3 + 1 by omega)
    have no : x = none → ∀ z : Int, iv 0 4000 z → iv 0 3020 l3 → wX11_fail z S' (fun _ S3 => K l3 S3) := fun hx0 z hz hl3 => n_fail i2 hz (fun S3 g1 g2 g3 g4 g5 => hK l3 S3 ⟨(hF.tr g1).pf, (hF.tr g1).2 89 (by decide) (by decide), (hF.tr g1).1 60 (by decide) (by decide), Or.inr ⟨hx0, g4, g5, hl3⟩⟩)
    refine ⟨⟨by omega, by omega⟩, n_doc hX hD' (by omega) (fun _ => ⟨fun z => ?_, fun z => ⟨⟨by omega, by omega⟩, n_doc hX hD' (by omega) ⟨⟨by omega, by omega⟩, fun z2 => ⟨⟨by omega, by omega⟩, fun z3 => ?_, fun z3 => ⟨fun z4 => ?_, fun z4 => ?_⟩⟩, fun z2 => ?_⟩⟩⟩)⟩
    · unfold wX11_attribute_87
      refine ⟨⟨by omega, by omega⟩, no ?_ l3 ⟨by omega, by omega⟩ ⟨by omega, by omega⟩⟩
      rw [hatt, if_pos]
      cases hc : (A.drop e.2.2.2.1.toNat).any (fun a => nQ T a.1 a.2.1 l1 l3) with
      | true => rfl
      | false => exact absurd (hany.mpr hc) z
    · refine n_117 (to := l3) hX hD' ⟨⟨(hF.1 43 (by decide) (by decide)).trans m1, fun k hk => by rw [ar 85 (by decide) (by decide), ar 86 (by decide) (by decide), ar 87 (by decide) (by decide), ar 88 (by decide) (by decide), ar 90 (by decide) (by decide), ar 91 (by decide) (by decide)]; exact m2 k hk⟩, ⟨eA, fun k hk => by rw [ar 92 (by decide) (by decide), ar 93 (by decide) (by decide), ar 94 (by decide) (by decide), ar 95 (by decide) (by decide)]; exact a2 k hk⟩, hV'⟩ ⟨w1, w2, w3, w4⟩ (Classical.not_not.mp z) hL p0 hN.1 hN.2 (Or.inl z3) (fun r S3 h3 => hK r S3 ?_)
      obtain ⟨h1, h2, h3, h4⟩ := h3
      refine ⟨hF.pf.tr h1, h2.trans (ar 89 (by decide) (by decide)), h3.trans (hF.1 60 (by decide) (by decide)), ?_⟩
      rw [hatt, if_neg (by rw [hany.mp (Classical.not_not.mp z)]; decide), if_pos ⟨z2, (Or.inl z3)⟩]
      exact h4
    · refine n_117 (to := l3) hX hD' ⟨⟨(hF.1 43 (by decide) (by decide)).trans m1, fun k hk => by rw [ar 85 (by decide) (by decide), ar 86 (by decide) (by decide), ar 87 (by decide) (by decide), ar 88 (by decide) (by decide), ar 90 (by decide) (by decide), ar 91 (by decide) (by decide)]; exact m2 k hk⟩, ⟨eA, fun k hk => by rw [ar 92 (by decide) (by decide), ar 93 (by decide) (by decide), ar 94 (by decide) (by decide), ar 95 (by decide) (by decide)]; exact a2 k hk⟩, hV'⟩ ⟨w1, w2, w3, w4⟩ (Classical.not_not.mp z) hL p0 hN.1 hN.2 (Or.inr z4) (fun r S3 h3 => hK r S3 ?_)
      obtain ⟨h1, h2, h3, h4⟩ := h3
      refine ⟨hF.pf.tr h1, h2.trans (ar 89 (by decide) (by decide)), h3.trans (hF.1 60 (by decide) (by decide)), ?_⟩
      rw [hatt, if_neg (by rw [hany.mp (Classical.not_not.mp z)]; decide), if_pos ⟨z2, (Or.inr z4)⟩]
      exact h4
    · refine no ?_ (l3 + 1) ⟨by omega, by omega⟩ ⟨by omega, by omega⟩
      rw [hatt, if_neg (by rw [hany.mp (Classical.not_not.mp z)]; decide), if_neg (fun w => w.2.elim z3 z4)]
    · unfold wX11_attribute_87
      refine ⟨⟨by omega, by omega⟩, no ?_ l3 ⟨by omega, by omega⟩ ⟨by omega, by omega⟩⟩
      rw [hatt, if_neg (by rw [hany.mp (Classical.not_not.mp z)]; decide), if_neg (fun w => z2 w.1)]
  · -- a key
    have ha := a2 l4.toNat (by omega)
    have wa := w4 l4.toNat (by show l4.toNat < A.length; omega)
    rw [show ((L ++ [e], A, V) : Xs).2.1 = A from rfl] at wa
    rw [show ((l4.toNat : Nat) : Int) = l4 by omega] at ha
    rw [ar 92 (by decide) (by decide), ar 93 (by decide) (by decide), ha.1, ha.2.1]
    have step : ∀ S3, Fvx S' S3 → mV S3 V → iv (-2) 4000 (S3.1 54 59) → (S3.1 54 59 = -2 ↔ (S'.1 54 59 = -2 ∧ nQ T (A.getD l4.toNat a4).1 (A.getD l4.toNat a4).2.1 l1 l3 = false)) → wX11_attribute_53 l1 (L.length : Int) l3 l4 S3 K (fun ml1 ml2 ml3 ml4 T1 => (ml1 = l1 ∧ ml2 = L.length ∧ ml3 = l3 ∧ Fvx S T1 ∧ mV T1 V ∧ e.2.2.2.1 ≤ ml4 ∧ ml4 ≤ A.length ∧ iv (-2) 4000 (T1.1 54 59) ∧ (T1.1 54 59 = -2 ↔ ∀ i : Nat, e.2.2.2.1 ≤ i → (i : Int) < ml4 → nQ T (A.getD i a4).1 (A.getD i a4).2.1 l1 l3 = false)) ∧ ((A.length : Int) - ml4).toNat < ((A.length : Int) - l4).toNat) := fun S3 g1 g2 g3 g4 => by
      refine ⟨⟨rfl, rfl, rfl, hF.tr g1, g2, by omega, by omega, g3, g4.trans ⟨fun h i j0 j1 => ?_, fun h => ⟨i3.mpr (fun i j0 j1 => h i j0 (by omega)), h l4.toNat (by omega) (by omega)⟩⟩⟩, by omega⟩
      by_cases ei : i = l4.toNat
      · rw [ei]
        exact h.2
      · exact (i3.mp h.1) i j0 (by omega)
    refine ⟨by omega, by omega, fun _ => ⟨by omega, by omega, fun _ => ⟨gp, ⟨by omega, by omega⟩, n_sameN hX hD' wa.1 (by omega) wa.2.2.1 (by omega) (by omega) (by omega) (fun r hr => ?_)⟩⟩⟩
    rcases hr with ⟨rfl, h⟩ | ⟨rfl, h⟩
    · refine ⟨⟨by decide, by decide⟩, fun z => absurd z (by decide), fun _ => n_fail i2 ⟨by omega, by omega⟩ (fun S3 g1 g2 g3 g4 g5 => step S3 g1 (hV'.mv g2 (by rw [g3]) (by rw [g3])) g5 ⟨fun z => absurd z g4, fun z => by rw [h] at z; cases z.2⟩)⟩
    · exact ⟨⟨by decide, by decide⟩, fun _ => step S' Fvx.rf hV' i2 ⟨fun z => ⟨z, h⟩, fun z => z.1⟩, fun z => absurd rfl z⟩
end XB

