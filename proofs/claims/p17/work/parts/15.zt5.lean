/-! READING XML: what the pure reader keeps -/
section XP
variable {T : Int → Int} {n p q r : Int} {V : List (Int × Int)} {A : List Xa} {L : List Xe} {e : Xe} {s s' : Xs}
theorem xV_b (hX : TX T n) (hq : q ≠ -1) : ∀ (f : Nat) (p : Int) (l l' : List Int), 0 ≤ p → xV T q f p l = some (l', r) → (l.length : Int) ≤ l'.length ∧ p + ((l'.length : Int) - l.length) < r ∧ r ≤ n
  | 0, p, l, l', p0, h => by cases h
  | f + 1, p, l, l', p0, h => by
    unfold xV at h
    split at h
    · rename_i h1
      injection h with h
      injection h with h2 h3
      have : p < n := Int.lt_of_not_ge (fun z => by
        have := hX.2.2 p z
        omega)
      rw [← h2]
      exact ⟨Int.le_refl _, by omega, by omega⟩
    · split at h
      · cases h
      · rename_i h1 h2
        have hp : p < n := Int.lt_of_not_ge (fun z => by
          have := hX.2.2 p z
          omega)
        cases hd : dec T p with
        | none =>
          rw [hd] at h
          cases h
        | some z =>
          rw [hd] at h
          have h : xV T q f z.2 (l ++ [z.1]) = some (l', r) := h
          have hz : p + 1 ≤ z.2 := by
            unfold dec at hd
            split at hd
            · have := ent_b hX p0 (u := z.1) (q := z.2) hd
              omega
            · injection hd with hd
              rw [← hd]
              exact Int.le_refl _
          have ih := xV_b hX hq f z.2 (l ++ [z.1]) l' (by omega) h
          rw [List.length_append] at ih
          have ih1 : ((l.length + 1 : Nat) : Int) ≤ l'.length := ih.1
          have ih2 : z.2 + ((l'.length : Int) - ((l.length + 1 : Nat) : Int)) < r := ih.2.1
          exact ⟨by omega, by omega, ih.2.2⟩
theorem rBl_b (hX : TX T n) (p1 : p ≤ n) : p ≤ rBl T p ∧ rBl T p ≤ n := by
  have := eB_le (T := T) (n := n) hX.2.2 3001 p
  exact ⟨this.1, this.2.1 p1⟩
/-- an attribute that is read -/
theorem att_ok (hX : TX T n) (hw : WX n (L ++ [e], A, V) p) (p0 : 0 ≤ p) (pq : p < q) (qn : q < n) (hq : nBg (T q)) (he : e.2.2.2.1 + e.2.2.2.2.1 = A.length) (h : rAt T (L ++ [e], A, V) e.2.2.2.1.toNat q = some (s', r)) : ∃ l : List Int, s' = (L ++ [(e.1, e.2.1, e.2.2.1, e.2.2.2.1, e.2.2.2.2.1 + 1, e.2.2.2.2.2)], A ++ [(q, rNm T q, (V.length : Int), (V.length : Int) + (l.length : Int))], V ++ l.map (fun u => (u, -2))) ∧ WX n s' r ∧ q + 4 ≤ r ∧ r ≤ n := by
  unfold rAt at h
  split at h
  · cases h
  · split at h
    · rename_i h1 h2
      have hN := rNm_b hX (by omega) (show nIn (T q) by omega)
      cases hv : xV T (T (rNm T q + 1)) 3001 (rNm T q + 2) [] with
      | none =>
        rw [hv] at h
        cases h
      | some z =>
        rw [hv] at h
        have h : some ((up1 (L ++ [e]), A ++ [(q, rNm T q, (V.length : Int), (V.length : Int) + (z.1.length : Int))], V ++ z.1.map (fun u => (u, -2))), z.2) = some (s', r) := h
        injection h with h
        injection h with h3 h4
        have b := xV_b hX (by omega) 3001 (rNm T q + 2) [] z.1 (by omega) (r := z.2) hv
        have b2 : rNm T q + 2 + ((z.1.length : Int) - ((0 : Nat) : Int)) < z.2 := b.2.1
        refine ⟨z.1, ?_, ?_, by omega, by omega⟩
        · rw [← h3, up1_s]
        · obtain ⟨w1, w2, w3, w4⟩ := hw
          have w1 : (V.length : Int) ≤ p := w1
          have w2 : 5 * (A.length : Int) ≤ p := w2
          rw [← h3, up1_s, ← h4]
          refine ⟨?_, ?_, fun k hk => ?_, fun k hk => ?_⟩
          · show ((V ++ z.1.map (fun u => (u, (-2 : Int)))).length : Int) ≤ z.2
            rw [List.length_append, List.length_map]
            omega
          · show 5 * ((A ++ [_]).length : Int) ≤ z.2
            rw [List.length_append]
            show 5 * ((A.length + 1 : Nat) : Int) ≤ z.2
            omega
          · have hk : k < (L ++ [(e.1, e.2.1, e.2.2.1, e.2.2.2.1, e.2.2.2.2.1 + 1, e.2.2.2.2.2)]).length := hk
            have hla : ((A ++ [(q, rNm T q, (V.length : Int), (V.length : Int) + (z.1.length : Int))]).length : Int) = A.length + 1 := by rw [List.length_append]; rfl
            have wk := w3 k (by show k < (L ++ [e]).length; rw [List.length_append] at hk ⊢; exact hk)
            have wk : 0 ≤ ((L ++ [e]).getD k e6).1 ∧ ((L ++ [e]).getD k e6).1 + 1 < ((L ++ [e]).getD k e6).2.1 ∧ ((L ++ [e]).getD k e6).2.1 ≤ n ∧ -1 ≤ ((L ++ [e]).getD k e6).2.2.1 ∧ ((L ++ [e]).getD k e6).2.2.1 < k ∧ 0 ≤ ((L ++ [e]).getD k e6).2.2.2.1 ∧ 0 ≤ ((L ++ [e]).getD k e6).2.2.2.2.1 ∧ ((L ++ [e]).getD k e6).2.2.2.1 + ((L ++ [e]).getD k e6).2.2.2.2.1 ≤ A.length := wk
            rw [List.length_append] at hk
            have hk : k < L.length + 1 := hk
            show 0 ≤ ((L ++ [(e.1, e.2.1, e.2.2.1, e.2.2.2.1, e.2.2.2.2.1 + 1, e.2.2.2.2.2)]).getD k e6).1 ∧ ((L ++ [(e.1, e.2.1, e.2.2.1, e.2.2.2.1, e.2.2.2.2.1 + 1, e.2.2.2.2.2)]).getD k e6).1 + 1 < ((L ++ [(e.1, e.2.1, e.2.2.1, e.2.2.2.1, e.2.2.2.2.1 + 1, e.2.2.2.2.2)]).getD k e6).2.1 ∧ ((L ++ [(e.1, e.2.1, e.2.2.1, e.2.2.2.1, e.2.2.2.2.1 + 1, e.2.2.2.2.2)]).getD k e6).2.1 ≤ n ∧ -1 ≤ ((L ++ [(e.1, e.2.1, e.2.2.1, e.2.2.2.1, e.2.2.2.2.1 + 1, e.2.2.2.2.2)]).getD k e6).2.2.1 ∧ ((L ++ [(e.1, e.2.1, e.2.2.1, e.2.2.2.1, e.2.2.2.2.1 + 1, e.2.2.2.2.2)]).getD k e6).2.2.1 < k ∧ 0 ≤ ((L ++ [(e.1, e.2.1, e.2.2.1, e.2.2.2.1, e.2.2.2.2.1 + 1, e.2.2.2.2.2)]).getD k e6).2.2.2.1 ∧ 0 ≤ ((L ++ [(e.1, e.2.1, e.2.2.1, e.2.2.2.1, e.2.2.2.2.1 + 1, e.2.2.2.2.2)]).getD k e6).2.2.2.2.1 ∧ ((L ++ [(e.1, e.2.1, e.2.2.1, e.2.2.2.1, e.2.2.2.2.1 + 1, e.2.2.2.2.2)]).getD k e6).2.2.2.1 + ((L ++ [(e.1, e.2.1, e.2.2.1, e.2.2.2.1, e.2.2.2.2.1 + 1, e.2.2.2.2.2)]).getD k e6).2.2.2.2.1 ≤ ((A ++ [(q, rNm T q, (V.length : Int), (V.length : Int) + (z.1.length : Int))]).length : Int)
            rw [hla]
            by_cases c : k = L.length
            · rw [gD_r c] at wk ⊢
              obtain ⟨y1, y2, y3, y4, y5, y6, y7, y8⟩ := wk
              exact ⟨y1, y2, y3, y4, y5, y6, by show 0 ≤ e.2.2.2.2.1 + 1; omega, by show e.2.2.2.1 + (e.2.2.2.2.1 + 1) ≤ _; omega⟩
            · rw [gD_l (by omega)] at wk ⊢
              obtain ⟨y1, y2, y3, y4, y5, y6, y7, y8⟩ := wk
              exact ⟨y1, y2, y3, y4, y5, y6, y7, by omega⟩
          · have hk : k < (A ++ [(q, rNm T q, (V.length : Int), (V.length : Int) + (z.1.length : Int))]).length := hk
            rw [List.length_append] at hk
            have hk : k < A.length + 1 := hk
            show 0 ≤ ((A ++ [(q, rNm T q, (V.length : Int), (V.length : Int) + (z.1.length : Int))]).getD k a4).1 ∧ ((A ++ [(q, rNm T q, (V.length : Int), (V.length : Int) + (z.1.length : Int))]).getD k a4).1 < ((A ++ [(q, rNm T q, (V.length : Int), (V.length : Int) + (z.1.length : Int))]).getD k a4).2.1 ∧ ((A ++ [(q, rNm T q, (V.length : Int), (V.length : Int) + (z.1.length : Int))]).getD k a4).2.1 ≤ n ∧ 0 ≤ ((A ++ [(q, rNm T q, (V.length : Int), (V.length : Int) + (z.1.length : Int))]).getD k a4).2.2.1 ∧ ((A ++ [(q, rNm T q, (V.length : Int), (V.length : Int) + (z.1.length : Int))]).getD k a4).2.2.1 ≤ ((A ++ [(q, rNm T q, (V.length : Int), (V.length : Int) + (z.1.length : Int))]).getD k a4).2.2.2 ∧ ((A ++ [(q, rNm T q, (V.length : Int), (V.length : Int) + (z.1.length : Int))]).getD k a4).2.2.2 ≤ ((V ++ z.1.map (fun u => (u, (-2 : Int)))).length : Int)
            rw [List.length_append, List.length_map]
            by_cases c : k = A.length
            · rw [gD_r c]
              exact ⟨by show 0 ≤ q; omega, hN.1, hN.2, by show (0 : Int) ≤ V.length; omega, by show (V.length : Int) ≤ V.length + z.1.length; omega, by show (V.length : Int) + z.1.length ≤ ((V.length + z.1.length : Nat) : Int); omega⟩
            · rw [gD_l (by omega)]
              have wk := w4 k (by show k < A.length; omega)
              have wk : 0 ≤ (A.getD k a4).1 ∧ (A.getD k a4).1 < (A.getD k a4).2.1 ∧ (A.getD k a4).2.1 ≤ n ∧ 0 ≤ (A.getD k a4).2.2.1 ∧ (A.getD k a4).2.2.1 ≤ (A.getD k a4).2.2.2 ∧ (A.getD k a4).2.2.2 ≤ V.length := wk
              obtain ⟨y1, y2, y3, y4, y5, y6⟩ := wk
              exact ⟨y1, y2, y3, y4, y5, by omega⟩
    · cases h
end XP

