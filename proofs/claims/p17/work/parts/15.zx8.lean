/-! READING XML: what more the pure reader keeps: names, signs, keys, and the order of the elements -/
section XG
variable {T : Int → Int} {n p q r o d : Int} {V V' : List (Int × Int)} {A A' : List Xa} {L E E' : List Xe} {e : Xe} {s s' : Xs}
def TSn (T : Int → Int) (n : Int) : Prop := ∀ p, 0 ≤ p → p < n → isSn (T p)
def SVl (V : List (Int × Int)) : Prop := ∀ u ∈ V, isSn u.1
theorem eNm_in : ∀ (k : Nat) (p i : Int), p ≤ i → i < eNm T k p → nIn (T i)
  | 0, p, i, h0, h1 => by
    have h1 : i < p := h1
    omega
  | k + 1, p, i, h0, h1 => by
    unfold eNm at h1
    by_cases h : nIn (T p)
    · rw [if_pos h] at h1
      by_cases w : i = p
      · rw [w]
        exact h
      · exact eNm_in k (p + 1) i (by omega) h1
    · rw [if_neg h] at h1
      omega
theorem dec_sn (hX : TX T n) (hs : TSn T n) (p0 : 0 ≤ p) (hp : ¬ T p = -1) {u : Int} (h : dec T p = some (u, q)) : isSn u ∧ p + 1 ≤ q := by
  unfold dec at h
  split at h
  · have := ent_b hX p0 h
    exact ⟨this.2.2, by omega⟩
  · injection h with h
    injection h with h1 h2
    rw [← h1]
    exact ⟨hs p p0 (hX.in hp), by omega⟩
theorem xV_sn (hX : TX T n) (hs : TSn T n) : ∀ (f : Nat) (p : Int) (l l' : List Int), 0 ≤ p → (∀ u ∈ l, isSn u) → xV T q f p l = some (l', r) → ∀ u ∈ l', isSn u
  | 0, p, l, l', _, _, h => by cases h
  | f + 1, p, l, l', p0, hl, h => by
    unfold xV at h
    split at h
    · injection h with h
      injection h with h2 h3
      rw [← h2]
      exact hl
    · split at h
      · cases h
      · rename_i h1 h2
        cases hd : dec T p with
        | none =>
          rw [hd] at h
          cases h
        | some z =>
          rw [hd] at h
          have h : xV T q f z.2 (l ++ [z.1]) = some (l', r) := h
          have hz := dec_sn hX hs p0 (fun w => h2 (Or.inr w)) (u := z.1) (q := z.2) hd
          refine xV_sn hX hs f z.2 (l ++ [z.1]) l' (by omega) (fun u hu => ?_) h
          rcases List.mem_append.mp hu with hu | hu
          · exact hl u hu
          · rcases List.mem_cons.mp hu with rfl | hu
            · exact hz.1
            · cases hu
theorem SVl.app (h : SVl V) {l : List Int} (hl : ∀ u ∈ l, isSn u) {o : Int} : SVl (V ++ l.map (fun u => (u, o))) := fun u hu => by
  rcases List.mem_append.mp hu with hu | hu
  · exact h u hu
  · obtain ⟨w, hw, rfl⟩ := List.mem_map.mp hu
    exact hl w hw
/-- an element whose attributes are being read -/
def AI (T : Int → Int) (e : Xe) (A : List Xa) (V : List (Int × Int)) : Prop := 0 ≤ e.2.2.2.1 ∧ 0 ≤ e.2.2.2.2.1 ∧ e.2.2.2.1 + e.2.2.2.2.1 = A.length ∧ (∀ i j : Nat, e.2.2.2.1 ≤ i → i < A.length → e.2.2.2.1 ≤ j → j < A.length → nQ T (A.getD i a4).1 (A.getD i a4).2.1 (A.getD j a4).1 (A.getD j a4).2.1 = true → i = j) ∧ SVl V
theorem nQ_sym {a b c d : Int} (h : nQ T a b c d = true) : nQ T c d a b = true := by
  rw [nQ_iff] at h ⊢
  exact ⟨h.1.symm, fun i i0 i1 => (h.2 i i0 (by omega)).symm⟩
theorem ats_g (hX : TX T n) (hs : TSn T n) : ∀ (f : Nat) (e : Xe) (A : List Xa) (V : List (Int × Int)) (p : Int), 0 ≤ p → p ≤ n → AI T e A V → ats T e.2.2.2.1.toNat f (L ++ [e], A, V) p = some ((E', A', V'), r) → ∃ e' : Xe, E' = L ++ [e'] ∧ (e'.1 = e.1 ∧ e'.2.1 = e.2.1 ∧ e'.2.2.1 = e.2.2.1 ∧ e'.2.2.2.1 = e.2.2.2.1) ∧ AI T e' A' V' ∧ A.length ≤ A'.length ∧ (∀ i : Nat, i < A.length → A'.getD i a4 = A.getD i a4) ∧ p ≤ r ∧ r ≤ n
  | 0, e, A, V, p, _, _, _, h => by cases h
  | f + 1, e, A, V, p, p0, p1, hA, h => by
    obtain ⟨b1, b2⟩ := rBl_b hX p1
    unfold ats at h
    split at h
    · rename_i h1
      cases hr : rAt T (L ++ [e], A, V) e.2.2.2.1.toNat (rBl T p) with
      | none =>
        rw [hr] at h
        cases h
      | some z =>
        rw [hr] at h
        have h : ats T e.2.2.2.1.toNat f z.1 z.2 = some ((E', A', V'), r) := h
        unfold rAt at hr
        split at hr
        · cases hr
        · rename_i hany
          split at hr
          · rename_i h61
            have qn : rBl T p < n := hX.in (fun w => by rw [w] at h1; rcases h1.2 with y | y; (rcases y with y | y <;> omega); omega)
            have hN := rNm_b hX (by omega) (show nIn (T (rBl T p)) from by
              rcases h1.2 with y | y
              · exact Or.inl y
              · exact Or.inr (Or.inl y))
            cases hv : xV T (T (rNm T (rBl T p) + 1)) 3001 (rNm T (rBl T p) + 2) [] with
            | none =>
              rw [hv] at hr
              cases hr
            | some y =>
              rw [hv] at hr
              have hr : some ((up1 (L ++ [e]), A ++ [(rBl T p, rNm T (rBl T p), (V.length : Int), (V.length : Int) + (y.1.length : Int))], V ++ y.1.map (fun u => (u, -2))), y.2) = some z := hr
              injection hr with hr
              rw [← hr, up1_s] at h
              have b := xV_b hX (by omega) 3001 (rNm T (rBl T p) + 2) [] y.1 (by omega) (r := y.2) hv
              have b3 : rNm T (rBl T p) + 2 + ((y.1.length : Int) - ((0 : Nat) : Int)) < y.2 := b.2.1
              have sn := xV_sn hX hs 3001 (rNm T (rBl T p) + 2) [] y.1 (by omega) (fun u hu => by cases hu) (r := y.2) hv
              obtain ⟨g1, g2, g3, g4, g5⟩ := hA
              have hla : (A ++ [((rBl T p, rNm T (rBl T p), (V.length : Int), (V.length : Int) + (y.1.length : Int)) : Xa)]).length = A.length + 1 := by rw [List.length_append]; rfl
              have nany : ∀ i : Nat, e.2.2.2.1 ≤ i → i < A.length → ¬ nQ T (A.getD i a4).1 (A.getD i a4).2.1 (rBl T p) (rNm T (rBl T p)) = true := fun i i0 i1 hq => hany (by
                have : (A.drop e.2.2.2.1.toNat).any (fun a => nQ T a.1 a.2.1 (rBl T p) (rNm T (rBl T p))) = true := any_drop.mpr ⟨i, by omega, i1, hq⟩
                exact this)
              have hAI : AI T (e.1, e.2.1, e.2.2.1, e.2.2.2.1, e.2.2.2.2.1 + 1, e.2.2.2.2.2) (A ++ [(rBl T p, rNm T (rBl T p), (V.length : Int), (V.length : Int) + (y.1.length : Int))]) (V ++ y.1.map (fun u => (u, -2))) := by
                refine ⟨g1, by show 0 ≤ e.2.2.2.2.1 + 1; omega, by rw [hla]; show e.2.2.2.1 + (e.2.2.2.2.1 + 1) = _; omega, fun i j i0 i1 j0 j1 hq => ?_, g5.app sn⟩
                have i0 : e.2.2.2.1 ≤ i := i0
                have j0 : e.2.2.2.1 ≤ j := j0
                rw [hla] at i1 j1
                by_cases ci : i = A.length
                · by_cases cj : j = A.length
                  · omega
                  · rw [gD_r ci, gD_l (by omega)] at hq
                    exact absurd (nQ_sym hq) (nany j j0 (by omega))
                · by_cases cj : j = A.length
                  · rw [gD_r cj, gD_l (by omega)] at hq
                    exact absurd hq (nany i i0 (by omega))
                  · rw [gD_l (by omega), gD_l (by omega)] at hq
                    exact g4 i j i0 (by omega) j0 (by omega) hq
              obtain ⟨e', k1, k2, k3, k4, k5, k6, k7⟩ := ats_g hX hs f (e.1, e.2.1, e.2.2.1, e.2.2.2.1, e.2.2.2.2.1 + 1, e.2.2.2.2.2) _ _ y.2 (by omega) (by omega) hAI h
              refine ⟨e', k1, k2, k3, by rw [hla] at k4; omega, fun i hi => ?_, by omega, k7⟩
              rw [k5 i (by rw [hla]; omega), gD_l hi]
          · cases hr
    · injection h with h
      injection h with h2 h3
      injection h2 with h4 h5
      injection h5 with h6 h7
      exact ⟨e, h4.symm, ⟨rfl, rfl, rfl, rfl⟩, by rw [← h6, ← h7]; exact hA, by rw [← h6]; exact Nat.le_refl _, fun i _ => by rw [← h6], by omega, by omega⟩
/-- the elements so far -/
def GI (T : Int → Int) (s : Xs) : Prop := (∀ k : Nat, k < s.1.length → (s.1.getD k e6).2.1 = rNm T ((s.1.getD k e6).1 + 1)) ∧ (∀ k : Nat, 1 ≤ k → k < s.1.length → 0 ≤ (s.1.getD k e6).2.2.1) ∧ (∀ k : Nat, k < s.1.length → 0 ≤ (s.1.getD k e6).2.2.2.1 ∧ 0 ≤ (s.1.getD k e6).2.2.2.2.1 ∧ (s.1.getD k e6).2.2.2.1 + (s.1.getD k e6).2.2.2.2.1 ≤ s.2.1.length ∧ ∀ i j : Nat, (s.1.getD k e6).2.2.2.1 ≤ i → i < (s.1.getD k e6).2.2.2.1 + (s.1.getD k e6).2.2.2.2.1 → (s.1.getD k e6).2.2.2.1 ≤ j → j < (s.1.getD k e6).2.2.2.1 + (s.1.getD k e6).2.2.2.2.1 → nQ T (s.2.1.getD i a4).1 (s.2.1.getD i a4).2.1 (s.2.1.getD j a4).1 (s.2.1.getD j a4).2.1 = true → i = j) ∧ SVl s.2.2 ∧ ∀ k : Nat, k < s.1.length → (s.1.getD k e6).2.2.1 < k
theorem stg_g (hX : TX T n) (hs : TSn T n) (p0 : 0 ≤ p) (p1 : p < n) (hG : GI T s) (ho : (s.1 = [] ∧ o = -1) ∨ (0 ≤ o ∧ o < s.1.length)) {b : Bool} (h : stg T s p o = some (s', q, b)) : GI T s' ∧ s'.1.length = s.1.length + 1 ∧ (∀ k : Nat, k < s.1.length → (s'.1.getD k e6).2.2.1 = (s.1.getD k e6).2.2.1) ∧ (s'.1.getD s.1.length e6).2.2.1 = o ∧ p < q ∧ q ≤ n := by
  obtain ⟨E, A, V⟩ := s
  unfold stg at h
  split at h
  · rename_i hg
    have hg : nBg (T (p + 1)) := hg
    have qn : p + 1 < n := hX.in (fun w => by rw [w] at hg; rcases hg with y | y; (rcases y with y | y <;> omega); omega)
    have hN := rNm_b hX (show p + 1 ≤ n by omega) (show nIn (T (p + 1)) from by
      rcases hg with y | y
      · exact Or.inl y
      · exact Or.inr (Or.inl y))
    have ha : AI T (p, rNm T (p + 1), o, (A.length : Int), 0, 0) A V := ⟨by show (0 : Int) ≤ A.length; omega, Int.le_refl _, by show (A.length : Int) + 0 = A.length; omega, fun i j i0 i1 => by have i0 : (A.length : Int) ≤ i := i0; omega, hG.2.2.2.1⟩
    cases hr : ats T A.length 3001 (E ++ [(p, rNm T (p + 1), o, (A.length : Int), 0, 0)], A, V) (rNm T (p + 1)) with
    | none =>
      have h : (match ats T A.length 3001 (E ++ [(p, rNm T (p + 1), o, (A.length : Int), 0, 0)], A, V) (rNm T (p + 1)) with | none => none | some r => if T r.2 = 62 then some ((up2 r.1.1 r.1.2.2.length, r.1.2), r.2 + 1, true) else if T r.2 = 47 ∧ T (r.2 + 1) = 62 then some ((up2 r.1.1 r.1.2.2.length, r.1.2), r.2 + 2, false) else none) = some (s', q, b) := h
      rw [hr] at h
      cases h
    | some z =>
      have h : (match ats T A.length 3001 (E ++ [(p, rNm T (p + 1), o, (A.length : Int), 0, 0)], A, V) (rNm T (p + 1)) with | none => none | some r => if T r.2 = 62 then some ((up2 r.1.1 r.1.2.2.length, r.1.2), r.2 + 1, true) else if T r.2 = 47 ∧ T (r.2 + 1) = 62 then some ((up2 r.1.1 r.1.2.2.length, r.1.2), r.2 + 2, false) else none) = some (s', q, b) := h
      rw [hr] at h
      obtain ⟨⟨E1, A1, V1⟩, r1⟩ := z
      have hat := ats_g (L := E) hX hs 3001 (p, rNm T (p + 1), o, (A.length : Int), 0, 0) A V (rNm T (p + 1)) (by omega) (by omega) ha (by
        rw [show ((A.length : Int)).toNat = A.length by omega]
        exact hr)
      obtain ⟨e', k1, ⟨k21, k22, k23, k24⟩, k3, k4, k5, k6, k7⟩ := hat
      have h : (if T r1 = 62 then some ((up2 E1 (V1.length : Int), (A1, V1)), r1 + 1, true) else if T r1 = 47 ∧ T (r1 + 1) = 62 then some ((up2 E1 (V1.length : Int), (A1, V1)), r1 + 2, false) else none) = some (s', q, b) := h
      have key : s' = (up2 E1 (V1.length : Int), (A1, V1)) ∧ r1 < q ∧ q ≤ n := by
        split at h
        · rename_i h62
          injection h with h
          injection h with h2 h3
          injection h3 with h3 h4
          have := hX.in (show ¬ T r1 = -1 by omega)
          exact ⟨h2.symm, by omega, by omega⟩
        · split at h
          · rename_i h62 h47
            injection h with h
            injection h with h2 h3
            injection h3 with h3 h4
            have := hX.in (show ¬ T (r1 + 1) = -1 by omega)
            exact ⟨h2.symm, by omega, by omega⟩
          · cases h
      obtain ⟨e1, e2, e3⟩ := key
      rw [e1, k1]
      have hl := up2_len (L := E) (e := e') (t := (V1.length : Int))
      obtain ⟨c1, c2, c3, c4, c5⟩ := hG
      obtain ⟨a1, a2, a3, a4', a5⟩ := k3
      refine ⟨⟨fun k hk => ?_, fun k k1' hk => ?_, fun k hk => ?_, a5, fun k hk => ?_⟩, hl, fun k hk => ?_, ?_, by omega, e3⟩
      · have hk : k < (up2 (E ++ [e']) (V1.length : Int)).length := hk
        rw [hl] at hk
        obtain ⟨u1, u2, u3, u4, u5⟩ := up2_k (L := E) (e := e') (t := (V1.length : Int)) hk
        show ((up2 (E ++ [e']) (V1.length : Int)).getD k e6).2.1 = rNm T (((up2 (E ++ [e']) (V1.length : Int)).getD k e6).1 + 1)
        rw [u1, u2]
        by_cases c : k = E.length
        · rw [gD_r c, k21, k22]
        · rw [gD_l (by omega)]
          exact c1 k (by show k < E.length; omega)
      · have hk : k < (up2 (E ++ [e']) (V1.length : Int)).length := hk
        rw [hl] at hk
        obtain ⟨u1, u2, u3, u4, u5⟩ := up2_k (L := E) (e := e') (t := (V1.length : Int)) hk
        show 0 ≤ ((up2 (E ++ [e']) (V1.length : Int)).getD k e6).2.2.1
        rw [u3]
        by_cases c : k = E.length
        · rw [gD_r c, k23]
          show 0 ≤ o
          rcases ho with ⟨y, -⟩ | y
          · have y : E = [] := y
            rw [y] at c
            have c : k = 0 := c
            omega
          · exact y.1
        · rw [gD_l (by omega)]
          exact c2 k k1' (by show k < E.length; omega)
      · have hk : k < (up2 (E ++ [e']) (V1.length : Int)).length := hk
        rw [hl] at hk
        obtain ⟨u1, u2, u3, u4, u5⟩ := up2_k (L := E) (e := e') (t := (V1.length : Int)) hk
        show 0 ≤ ((up2 (E ++ [e']) (V1.length : Int)).getD k e6).2.2.2.1 ∧ 0 ≤ ((up2 (E ++ [e']) (V1.length : Int)).getD k e6).2.2.2.2.1 ∧ ((up2 (E ++ [e']) (V1.length : Int)).getD k e6).2.2.2.1 + ((up2 (E ++ [e']) (V1.length : Int)).getD k e6).2.2.2.2.1 ≤ A1.length ∧ ∀ i j : Nat, ((up2 (E ++ [e']) (V1.length : Int)).getD k e6).2.2.2.1 ≤ i → i < ((up2 (E ++ [e']) (V1.length : Int)).getD k e6).2.2.2.1 + ((up2 (E ++ [e']) (V1.length : Int)).getD k e6).2.2.2.2.1 → ((up2 (E ++ [e']) (V1.length : Int)).getD k e6).2.2.2.1 ≤ j → j < ((up2 (E ++ [e']) (V1.length : Int)).getD k e6).2.2.2.1 + ((up2 (E ++ [e']) (V1.length : Int)).getD k e6).2.2.2.2.1 → nQ T (A1.getD i a4).1 (A1.getD i a4).2.1 (A1.getD j a4).1 (A1.getD j a4).2.1 = true → i = j
        rw [u4, u5]
        by_cases c : k = E.length
        · rw [gD_r c]
          exact ⟨a1, a2, by omega, fun i j i0 i1 j0 j1 hq => a4' i j i0 (by omega) j0 (by omega) hq⟩
        · rw [gD_l (by omega)]
          obtain ⟨d1, d2, d3, d4⟩ := c3 k (by show k < E.length; omega)
          have d1 : 0 ≤ (E.getD k e6).2.2.2.1 := d1
          have d2 : 0 ≤ (E.getD k e6).2.2.2.2.1 := d2
          have d3 : (E.getD k e6).2.2.2.1 + (E.getD k e6).2.2.2.2.1 ≤ A.length := d3
          refine ⟨d1, d2, by omega, fun i j i0 i1 j0 j1 hq => d4 i j i0 i1 j0 j1 ?_⟩
          rw [k5 i (by omega), k5 j (by omega)] at hq
          exact hq
      · have hk : k < (up2 (E ++ [e']) (V1.length : Int)).length := hk
        rw [hl] at hk
        obtain ⟨u1, u2, u3, u4, u5⟩ := up2_k (L := E) (e := e') (t := (V1.length : Int)) hk
        show ((up2 (E ++ [e']) (V1.length : Int)).getD k e6).2.2.1 < k
        rw [u3]
        by_cases c : k = E.length
        · rw [gD_r c, k23]
          show o < k
          rcases ho with ⟨-, y⟩ | y
          · omega
          · have y2 : o < E.length := y.2
            omega
        · rw [gD_l (by omega)]
          exact c5 k (by show k < E.length; omega)
      · have hk : k < E.length := hk
        obtain ⟨u1, u2, u3, u4, u5⟩ := up2_k (L := E) (e := e') (t := (V1.length : Int)) (k := k) (by omega)
        show ((up2 (E ++ [e']) (V1.length : Int)).getD k e6).2.2.1 = (E.getD k e6).2.2.1
        rw [u3, gD_l hk]
      · obtain ⟨u1, u2, u3, u4, u5⟩ := up2_k (L := E) (e := e') (t := (V1.length : Int)) (k := E.length) (by omega)
        show ((up2 (E ++ [e']) (V1.length : Int)).getD E.length e6).2.2.1 = o
        rw [u3, gD_r rfl, k23]
  · cases h
end XG

