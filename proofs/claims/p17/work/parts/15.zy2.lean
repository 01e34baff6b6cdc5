/-! WHETHER TWO GRAPHS ARE THE SAME: both ways say the same -/
theorem pgh : ∀ (N : Nat) (l : List Int), l.Nodup → (∀ x ∈ l, 0 ≤ x ∧ x < N) → l.length ≤ N
  | 0, l, _, h => by
    cases l with
    | nil => exact Nat.le_refl _
    | cons x l =>
      have := h x (List.mem_cons_self ..)
      omega
  | N + 1, l, hn, h => by
    have ih := pgh N (l.erase (N : Int)) (hn.erase _) (fun x hx => by
      have hx := (List.Nodup.mem_erase_iff hn).mp hx
      have := h x hx.2
      omega)
    rw [List.length_erase] at ih
    split at ih
    · omega
    · omega
section YC
variable {e : Env} {h : Hs} {Q Q' Q1 : Pq} {a b f i : Int} {ck : Bool}
theorem QI.len (hQ : QI e h Q) (hN : eN e ≤ 30) : Q.length ≤ 30 := by
  have := pgh 30 (Q.map (fun q => q.1)) (by
    refine List.pairwise_iff_getElem.mpr (fun i j hi hj hij heq => ?_)
    have hj' : j < Q.length := by rw [List.length_map] at hj; exact hj
    have hi' : i < Q.length := by omega
    rw [List.getElem_map, List.getElem_map] at heq
    have := hQ.2 i j hi' hj' (Or.inl (by
      rw [List.getD_eq_getElem?_getD, List.getD_eq_getElem?_getD, List.getElem?_eq_getElem hi', List.getElem?_eq_getElem hj']
      exact heq))
    omega) (fun x hx => by
    obtain ⟨q, hq, rfl⟩ := List.mem_map.mp hx
    have := (hQ.1 q hq).1
    exact ⟨this.1, by omega⟩)
  rw [List.length_map] at this
  exact this
theorem fsX_ok (hV : EV e) (hW : VLq e h) (ha : 0 ≤ a ∧ a < eN e) (hb : 0 ≤ b ∧ b < h.1) (hk : eK e a = h.2.1 b) : ∀ (k : Nat) (f : Int) (Q : Pq), 0 ≤ f → f + k ≤ eF e (eK e a) → QI e h Q → fsX ck e h a b k f Q = some Q' → QI e h Q' ∧ ∃ R, Q' = Q ++ R
  | 0, f, Q, _, _, hQ, q => by
    injection q with q
    rw [← q]
    exact ⟨hQ, [], by rw [List.append_nil]⟩
  | k + 1, f, Q, f0, f1, hQ, q => by
    have ok : okF e (eK e a) f := ⟨hV.2.2.1 a ha, f0, by omega⟩
    obtain ⟨v2, v3⟩ := hW a b f ha.1 ha.2 hb.1 hb.2 ok hk
    unfold fsX at q
    cases hp : flX ck e h a b f Q with
    | none =>
      rw [hp] at q
      cases q
    | some Q1 =>
      rw [hp] at q
      obtain ⟨k1, R1, k2⟩ := flX_ok v2 v3 (fun w => ((hV.2.2.2.2.2 a f ha ok).2.2.2 w).1.1) hQ hp
      obtain ⟨j1, R2, j2⟩ := fsX_ok hV hW ha hb hk k (f + 1) Q1 (by omega) (by omega) k1 q
      exact ⟨j1, R1 ++ R2, by rw [j2, k2, List.append_assoc]⟩
theorem fsX_rl (hV : EV e) (hW : VLq e h) (ha : 0 ≤ a ∧ a < eN e) (hb : 0 ≤ b ∧ b < h.1) (hk : eK e a = h.2.1 b) : ∀ (k : Nat) (f : Int) (Q : Pq), 0 ≤ f → f + k ≤ eF e (eK e a) → CEq e h Q → QI e h Q → Rlx e h Q (fsX true e h a b k f Q) (fsX false e h a b k f Q)
  | 0, f, Q, _, _, hC, hQ => Or.inl ⟨Q, rfl, rfl, hC, hQ, [], by rw [List.append_nil]⟩
  | k + 1, f, Q, f0, f1, hC, hQ => by
    have ok : okF e (eK e a) f := ⟨hV.2.2.1 a ha, f0, by omega⟩
    obtain ⟨v2, v3⟩ := hW a b f ha.1 ha.2 hb.1 hb.2 ok hk
    have h0 := fun w => ((hV.2.2.2.2.2 a f ha ok).2.2.2 w).1.1
    unfold fsX
    rcases flX_rl v2 v3 h0 hC hQ with ⟨Q1, p1, p2, p3, p4, R1, p5⟩ | ⟨p1, p2⟩
    · rw [p1, p2]
      rcases fsX_rl hV hW ha hb hk k (f + 1) Q1 (by omega) (by omega) p3 p4 with ⟨Q2, q1, q2, q3, q4, R2, q5⟩ | ⟨q1, q2⟩
      · exact Or.inl ⟨Q2, q1, q2, q3, q4, R1 ++ R2, by rw [q5, p5, List.append_assoc]⟩
      · refine Or.inr ⟨q1, q2.imp_right (fun ⟨Q2, q3, q4, q5, R2, q6⟩ => ⟨Q2, q3, q4, q5, R1 ++ R2, by rw [q6, p5, List.append_assoc]⟩)⟩
    · rw [p1]
      refine Or.inr ⟨rfl, ?_⟩
      rcases p2 with p2 | ⟨Q1, p2, p3, p4, R1, p5⟩
      · rw [p2]
        exact Or.inl rfl
      · rw [p2]
        cases hc : fsX false e h a b k (f + 1) Q1 with
        | none =>
          left
          exact hc
        | some Q2 =>
          obtain ⟨j1, R2, j2⟩ := fsX_ok hV hW ha hb hk k (f + 1) Q1 (by omega) (by omega) p4 hc
          exact Or.inr ⟨Q2, hc, by rw [j2]; exact p3.app, j1, R1 ++ R2, by rw [j2, p5, List.append_assoc]⟩
theorem lpX_bad (hV : EV e) (hW : VLq e h) {j : Nat} : ∀ (m k : Nat) (Q : Pq), QI e h Q → k ≤ j → j < Q.length → ¬ eK e (Q.getD j (0, 0)).1 = h.2.1 (Q.getD j (0, 0)).2 → j < m + k → lpX ck e h m k Q = false
  | 0, k, Q, _, h1, _, _, h3 => by omega
  | m + 1, k, Q, hQ, h1, h2, hb, h3 => by
    unfold lpX
    rw [if_pos (by omega)]
    have hq := hQ.1 _ (getD_mem (d := (0, 0)) (show k < Q.length by omega))
    unfold arX
    by_cases c : eK e (Q.getD k (0, 0)).1 = h.2.1 (Q.getD k (0, 0)).2
    · rw [if_pos c]
      cases hf : fsX ck e h (Q.getD k (0, 0)).1 (Q.getD k (0, 0)).2 (eF e (eK e (Q.getD k (0, 0)).1)).toNat 0 Q with
      | none => rfl
      | some Q1 =>
        have hF := hV.2.2.2.1 _ (hV.2.2.1 _ hq.1)
        obtain ⟨k1, R, k2⟩ := fsX_ok hV hW hq.1 hq.2 c _ 0 Q (by decide) (by omega) hQ hf
        have hkj : ¬ k = j := fun w => hb (by rw [← w]; exact c)
        have hg : Q1.getD j (0, 0) = Q.getD j (0, 0) := by
          rw [k2]
          exact gD_a h2
        refine lpX_bad (j := j) hV hW m (k + 1) Q1 k1 (by omega) (by rw [k2, List.length_append]; omega) (by rw [hg]; exact hb) (by omega)
    · rw [if_neg c]
theorem lpX_eq (hV : EV e) (hW : VLq e h) : ∀ (m k : Nat) (Q : Pq), CEq e h Q → QI e h Q → 31 ≤ m + k → lpX true e h m k Q = lpX false e h m k Q
  | 0, k, Q, _, _, _ => rfl
  | m + 1, k, Q, hC, hQ, hm => by
    unfold lpX
    by_cases hk : k < Q.length
    · rw [if_pos hk, if_pos hk]
      have hmem := getD_mem (d := ((0, 0) : Int × Int)) hk
      have hq := hQ.1 _ hmem
      have c := hC _ hmem
      have hF := hV.2.2.2.1 _ (hV.2.2.1 _ hq.1)
      unfold arX
      rw [if_pos c, if_pos c]
      rcases fsX_rl hV hW hq.1 hq.2 c _ 0 Q (by decide) (show (0 : Int) + ((eF e (eK e (Q.getD k (0, 0)).1)).toNat : Nat) ≤ _ by omega) hC hQ with ⟨Q1, p1, p2, p3, p4, -⟩ | ⟨p1, p2⟩
      · rw [p1, p2]
        exact lpX_eq hV hW m (k + 1) Q1 p3 p4 (by omega)
      · rw [p1]
        rcases p2 with p2 | ⟨Q1, p2, ⟨q, hq1, hq2⟩, p4, R, p5⟩
        · rw [p2]
        · rw [p2]
          obtain ⟨j, hj, hjq⟩ := mem_getD (d := ((0, 0) : Int × Int)) hq1
          have hl := p4.len hV.1.2
          have hjk : Q.length ≤ j := Nat.le_of_not_lt (fun w => hq2 (by
            rw [p5, gD_a w] at hjq
            rw [← hjq]
            exact hC _ (getD_mem w)))
          exact (lpX_bad hV hW m (k + 1) Q1 p4 (by omega) hj (by rw [hjq]; exact hq2) (by omega)).symm
    · rw [if_neg hk, if_neg hk]
/-- the two ways say the same -/
theorem smX_eq (hV : EV e) (hW : VLq e h) (ha : 0 ≤ a ∧ a < eN e) (hb : 0 < h.1) : smX true e h a = smX false e h a := by
  have hQ0 : QI e h ([] : Pq) := ⟨fun q hq => (by cases hq), fun i j hi => absurd hi (Nat.not_lt_zero _)⟩
  have hC0 : CEq e h ([] : Pq) := fun q hq => by cases hq
  unfold smX
  rcases prX_rl (a := a) (b := 0) hC0 hQ0 (Or.inr ha) (Or.inr ⟨Int.le_refl _, hb⟩) with ⟨Q1, p1, p2, p3, p4, -⟩ | ⟨p1, p2⟩
  · rw [p1, p2]
    exact lpX_eq hV hW 31 0 Q1 p3 p4 (by omega)
  · rw [p1]
    rcases p2 with p2 | ⟨Q1, p2, ⟨q, hq1, hq2⟩, p4, -⟩
    · rw [p2]
    · rw [p2]
      obtain ⟨j, hj, hjq⟩ := mem_getD (d := ((0, 0) : Int × Int)) hq1
      have hl := p4.len hV.1.2
      exact (lpX_bad hV hW 31 0 Q1 p4 (by omega) hj (by rw [hjq]; exact hq2) (by omega)).symm
end YC

