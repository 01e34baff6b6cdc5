/-! WHETHER TWO GRAPHS ARE THE SAME: the class, from its roots -/
section YF
variable {S S' : St} {K : Int → St → Prop} {e : Env} {h : Hs} {Q Q' : Pq} {a b f i o : Int}
theorem k_fill1 (hK : ∀ S', LF S S' → S'.1 = S.1 → (∀ c, ¬ c = 251 → S'.2 c = S.2 c) → (∀ i, 0 ≤ i → i < 30 → S'.2 251 i = -2) → K 0 S') : wJ7_fill_53178 (-2) S K := by
  unfold wJ7_fill_53178
  refine fun _ => ⟨fun l1 l2 l3 S' => l1 = -2 ∧ l3 = 30 ∧ 0 ≤ l2 ∧ l2 ≤ 30 ∧ S'.1 = S.1 ∧ (∀ c, ¬ c = 251 → S'.2 c = S.2 c) ∧ ∀ i, 0 ≤ i → i < l2 → S'.2 251 i = -2, fun _ l2 _ _ => (30 - l2).toNat, ⟨rfl, rfl, by decide, by decide, rfl, fun _ _ => rfl, fun i h0 h1 => absurd h1 (by omega)⟩, ?_⟩
  rintro l1 l2 l3 S' ⟨rfl, rfl, h0, h1, q1, q2, q3⟩
  refine ⟨⟨by omega, by omega⟩, ⟨by decide, by decide⟩, fun w => hK S' ⟨fun c _ => by rw [q1], fun c hc => q2 c (by omega)⟩ q1 q2 (fun i i0 i1 => q3 i i0 (by omega)), fun w => ⟨h0, by omega, ⟨by decide, by decide⟩, fun S5 e5 => ⟨⟨rfl, rfl, by omega, by omega, by rw [e5]; exact q1, fun c hc => by rw [e5, (pA_ne c hc).2]; exact q2 c hc, fun i i0 i1 => ?_⟩, ?_⟩⟩⟩
  · rw [e5, pA_if]
    by_cases c : i = l2
    · rw [if_pos c]
    · rw [if_neg c]
      exact q3 i i0 (by omega)
  · show (30 - (l2 + 1)).toNat < (30 - l2).toNat
    omega
theorem k_fill2 (hK : ∀ S', LF S S' → S'.1 = S.1 → (∀ c, ¬ c = 252 → S'.2 c = S.2 c) → (∀ i, 0 ≤ i → i < 30 → S'.2 252 i = -2) → K 0 S') : wJ7_fill_53178_b (-2) S K := by
  unfold wJ7_fill_53178_b
  refine fun _ => ⟨fun l1 l2 l3 S' => l1 = -2 ∧ l3 = 30 ∧ 0 ≤ l2 ∧ l2 ≤ 30 ∧ S'.1 = S.1 ∧ (∀ c, ¬ c = 252 → S'.2 c = S.2 c) ∧ ∀ i, 0 ≤ i → i < l2 → S'.2 252 i = -2, fun _ l2 _ _ => (30 - l2).toNat, ⟨rfl, rfl, by decide, by decide, rfl, fun _ _ => rfl, fun i h0 h1 => absurd h1 (by omega)⟩, ?_⟩
  rintro l1 l2 l3 S' ⟨rfl, rfl, h0, h1, q1, q2, q3⟩
  refine ⟨⟨by omega, by omega⟩, ⟨by decide, by decide⟩, fun w => hK S' ⟨fun c _ => by rw [q1], fun c hc => q2 c (by omega)⟩ q1 q2 (fun i i0 i1 => q3 i i0 (by omega)), fun w => ⟨h0, by omega, ⟨by decide, by decide⟩, fun S5 e5 => ⟨⟨rfl, rfl, by omega, by omega, by rw [e5]; exact q1, fun c hc => by rw [e5, (pA_ne c hc).2]; exact q2 c hc, fun i i0 i1 => ?_⟩, ?_⟩⟩⟩
  · rw [e5, pA_if]
    by_cases c : i = l2
    · rw [if_pos c]
    · rw [if_neg c]
      exact q3 i i0 (by omega)
  · show (30 - (l2 + 1)).toNat < (30 - l2).toNat
    omega
/-- what was queued is of the same class -/
theorem fsX_ce (hV : EV e) (hW : VLq e h) (ha : 0 ≤ a ∧ a < eN e) (hb : 0 ≤ b ∧ b < h.1) (hk : eK e a = h.2.1 b) (hC : CEq e h Q) (hQ : QI e h Q) (q : fsX true e h a b (eF e (eK e a)).toNat 0 Q = some Q') : CEq e h Q' ∧ QI e h Q' := by
  have hF := hV.2.2.2.1 _ (hV.2.2.1 _ ha)
  rcases fsX_rl hV hW ha hb hk _ 0 Q (by decide) (show (0 : Int) + ((eF e (eK e a)).toNat : Nat) ≤ _ by omega) hC hQ with ⟨Q1, p1, -, p3, p4, -⟩ | ⟨p1, -⟩
  · rw [p1] at q
    injection q with q
    rw [← q]
    exact ⟨p3, p4⟩
  · rw [p1] at q
    cases q
theorem lpX_end (ck : Bool) : ∀ (m k : Nat) (Q : Pq), ¬ k < Q.length → lpX ck e h m k Q = true
  | 0, _, _, _ => rfl
  | m + 1, k, Q, hk => by
    unfold lpX
    rw [if_neg hk]
/-- the class finds two graphs the same as the pure way does -/
theorem k_holds (hE : cE S e) (hV : EV e) (g : cH6 S e h) (hH : EH e h) (hW : VLq e h) (h0 : S.1 250 6 = 0) (ha : okO e a) (hb : 0 < h.1) (hK : ∀ r S', LF S S' → ((r = 1 ∧ smX true e h a = true) ∨ (r = 0 ∧ smX true e h a = false)) → K r S') : wX2_holdsFrom a 0 S K := by
  have n30 := hV.1
  have h30 := hH.1
  have a0 := ha.1
  have a1 := ha.2
  have hQ0 : QI e h ([] : Pq) := ⟨fun q hq => (by cases hq), fun i j hi => absurd hi (Nat.not_lt_zero _)⟩
  have hC0 : CEq e h ([] : Pq) := fun q hq => (by cases hq)
  unfold wX2_holdsFrom
  refine fun _ _ => k_fill1 (fun S1 m1 p1 p2 p3 => k_fill2 (fun S3 m3 r1 r2 r3 => ?_))
  have m := m1.tr m3
  have hL : LQ S3 ([] : Pq) := by
    refine ⟨by rw [r1, p1]; exact h0, fun k hk => absurd hk (Nat.not_lt_zero _), fun x x0 x1 => Or.inr ⟨fun y z => (by cases z), ?_⟩, fun x x0 x1 => Or.inr ⟨fun y z => (by cases z), r3 x x0 x1⟩⟩
    rw [r2 251 (by decide)]
    exact p3 x x0 x1
  refine k_pairs (hE.lf m) hV (g.lf m) hH hL hQ0 (Or.inr ha) (Or.inr ⟨Int.le_refl _, hb⟩) (fun r S5 hO => ?_)
  unfold smX at hK
  obtain ⟨m5, ⟨rfl, hn⟩ | ⟨rfl, Q1, hs, hL1⟩⟩ := hO
  · rw [hn] at hK
    exact ⟨⟨by decide, by decide⟩, fun y => absurd rfl y, fun _ => hK 0 S5 (m.tr m5) (Or.inr ⟨rfl, rfl⟩)⟩
  rw [hs] at hK
  have hK : ∀ r S', LF S S' → ((r = 1 ∧ lpX true e h 31 0 Q1 = true) ∨ (r = 0 ∧ lpX true e h 31 0 Q1 = false)) → K r S' := hK
  have hq1 : CEq e h Q1 ∧ QI e h Q1 := by
    rcases prX_rl (a := a) (b := 0) hC0 hQ0 (Or.inr ha) (Or.inr ⟨Int.le_refl _, hb⟩) with ⟨Q2, t1, -, t3, t4, -⟩ | ⟨t1, -⟩
    · rw [t1] at hs
      injection hs with hs
      rw [← hs]
      exact ⟨t3, t4⟩
    · rw [t1] at hs
      cases hs
  refine ⟨⟨by decide, by decide⟩, fun _ => ⟨fun l3 S' => LF S S' ∧ 0 ≤ l3 ∧ l3 ≤ 30 ∧ ∃ Q', LQ S' Q' ∧ CEq e h Q' ∧ QI e h Q' ∧ lpX true e h (31 - l3).toNat l3.toNat Q' = lpX true e h 31 0 Q1, fun l3 _ => (30 - l3).toNat, ⟨m.tr m5, by decide, by decide, Q1, hL1, hq1.1, hq1.2, rfl⟩, ?_⟩, fun y => absurd (by decide) y⟩
  rintro l3 S' ⟨hF, c0, c1, Q2, q1, q2, q3, q4⟩
  have hE' := hE.lf hF
  have g' := g.lf hF
  have ql := q3.len n30.2
  have fin : ¬ l3.toNat < Q2.length → K 1 S' := fun w => by
    rw [lpX_end true _ _ _ w] at q4
    exact hK 1 S' hF (Or.inl ⟨rfl, q4.symm⟩)
  refine ⟨⟨by omega, by omega⟩, fun w => fin (by omega), fun w _ => ?_⟩
  rw [q1.1]
  refine ⟨fun w2 => fin (by omega), fun w2 => ⟨c0, by omega, fun _ => ⟨c0, by omega, fun _ => ?_⟩⟩⟩
  have hk : l3.toNat < Q2.length := by omega
  have hmem := getD_mem (d := ((0, 0) : Int × Int)) hk
  have hq := q3.1 _ hmem
  have hc := q2 _ hmem
  have e253 : S'.2 253 l3 = (Q2.getD l3.toNat (0, 0)).1 := by
    have := q1.2.1 l3.toNat hk
    rw [show ((l3.toNat : Nat) : Int) = l3 by omega] at this
    exact this
  have e251 : S'.2 251 (Q2.getD l3.toNat (0, 0)).1 = (Q2.getD l3.toNat (0, 0)).2 := by
    rcases q1.2.2.1 _ hq.1.1 (by have := hq.1.2; omega) with ⟨b', y1, y2⟩ | ⟨y1, -⟩
    · obtain ⟨j, hj, ej⟩ := mem_getD (d := ((0, 0) : Int × Int)) y1
      have := q3.2 j l3.toNat hj hk (Or.inl (by rw [ej]))
      rw [y2, ← this, ej]
    · exact absurd hmem (y1 _)
  rw [e253, e251]
  rw [show (31 - l3).toNat = (30 - l3).toNat + 1 by omega] at q4
  unfold lpX at q4
  rw [if_pos hk] at q4
  unfold arX at q4
  rw [if_pos hc] at q4
  refine ⟨hq.1.1, by have := hq.1.2; omega, fun _ => k_fields hE' hV g' hH hW q1 q3 hq.1 hq.2 hc (fun r S11 hO => ?_)⟩
  obtain ⟨m11, ⟨rfl, hn⟩ | ⟨rfl, Q3, hs3, hL3⟩⟩ := hO
  · rw [hn] at q4
    exact ⟨⟨by decide, by decide⟩, fun y => absurd rfl y, fun _ => hK 0 S11 (hF.tr m11) (Or.inr ⟨rfl, q4.symm⟩)⟩
  · rw [hs3] at q4
    have t := fsX_ce hV hW hq.1 hq.2 hc q2 q3 hs3
    refine ⟨⟨by decide, by decide⟩, fun _ => ⟨⟨hF.tr m11, by omega, by omega, Q3, hL3, t.1, t.2, ?_⟩, ?_⟩, fun y => absurd (by decide) y⟩
    · rw [show (31 - (l3 + 1)).toNat = (30 - l3).toNat by omega, show (l3 + 1).toNat = l3.toNat + 1 by omega]
      exact q4
    · show (30 - (l3 + 1)).toNat < (30 - l3).toNat
      omega
end YF

