/-! READING XML: the class's texts, comments, CDATA and end tags -/
section YE
variable {S : St} {K : Int → St → Prop} {T : Int → Int} {n p o d u : Int} {E : List Xe} {A : List Xa} {V : List (Int × Int)}
/-- only where it stands -/
theorem PY.pi {q : Int} (h : PY T n S (E, A, V) p o d) (pq : p ≤ q) : PY T n (pI S 220 3 q) (E, A, V) q o d := by
  obtain ⟨h1, h2, h3, h4, h5, h6, h7, h8, h9, h10, h11, h12⟩ := h
  exact ⟨h1, h2, h3, h4, h5, h6.le pq, pI_v, by rw [pI_j (by decide)]; exact h8, by rw [pI_j (by decide)]; exact h9, by rw [pI_j (by decide)]; exact h10, h11, h12⟩
theorem k_addT {k : Nat} (hP : PY T n S (E, A, V) p (k : Int) d) (hk : k < E.length) (hE : E.length ≤ 200) (hl : (V.length : Int) + 1 ≤ p) (pn : p ≤ 3000) (hu : iv 0 65535 u) (hK : ∀ S', CF S S' → PY T n S' (E, A, V ++ [(u, (k : Int))]) p (k : Int) d → K 0 S') : wX6_addText (k : Int) u S K := by
  obtain ⟨⟨hE', hA, hV⟩, hkd, hs, ht, hod, hw, e3, e4, e5, e6', h4, hnb⟩ := hP
  have hE' : cXe S E := hE'
  have hA : cXa S A := hA
  have hV : cXv S V := hV
  have hkd : KD S E := hkd
  have hs : SD S E V := hs
  have ht : TD S V E.length := ht
  have hod : OD E V := hod
  have h4 : 0 ≤ (k : Int) → (k : Int) < E.length ∧ (¬ 0 < S.2 10 k → S.2 14 k = V.length) := h4
  unfold wX6_addText
  intro _ _
  refine k_has hE'.1 (fun r hr => ?_)
  rcases hr with ⟨rfl, -, -⟩ | ⟨rfl, h⟩
  rotate_left
  · exact absurd ⟨by omega, by omega⟩ h
  refine ⟨⟨by decide, by decide⟩, fun z => absurd z (by decide), fun _ => k_put (o := (k : Int)) hV (by omega) hu (fun r S5 g1 g2 g3 => ?_)⟩
  have l5 : S5.1 4 1 = (V.length : Int) + 1 := by
    rw [g3.1, len1]
    rfl
  unfold wX5_length
  rw [l5]
  refine fun _ => ⟨by omega, by omega, ⟨by omega, by omega⟩, fun S10 e10 => ⟨by omega, by omega, fun _ => ?_⟩⟩
  have y15 : S10.2 15 = S.2 15 := by rw [e10, (pA_ne 15 (by decide)).2, g2 15 (by decide)]
  have fin : ∀ S16 : St, S16.1 = S10.1 → (∀ a, a ≠ 15 → S16.2 a = S10.2 a) → (∀ y : Nat, y ≠ k → S16.2 15 y = S.2 15 y) → ((S16.2 15 k = 1 ∧ (S.2 15 k = 1 ∨ ¬ isBl u)) ∨ (S16.2 15 k = 0 ∧ S.2 15 k = 0 ∧ isBl u)) → K 0 S16 := fun S16 q1 q2 q3 q4 => by
    have z1 : ∀ a j, ¬ (a = 4 ∧ j = 1) → S16.1 a j = S.1 a j := fun a j h => by rw [q1, e10]; exact g1 a j h
    have z2 : ∀ a, a ≠ 4 → a ≠ 14 → a ≠ 15 → S16.2 a = S.2 a := fun a k1 k2 k3 => by rw [q2 a k3, e10, (pA_ne a k2).2, g2 a k1]
    have z14 : ∀ y, S16.2 14 y = if y = (k : Int) then (V.length : Int) + 1 else S.2 14 y := fun y => by
      rw [q2 14 (by decide), e10, pA_if, g2 14 (by decide)]
    have z10 := z2 10 (by decide) (by decide) (by decide)
    have z13 := z2 13 (by decide) (by decide) (by decide)
    refine hK S16 ⟨fun a k1 k2 k3 => funext fun j => z1 a j (fun z => k2 z.1), fun a k1 k2 => z2 a k1 (by omega) (by omega)⟩ ⟨⟨hE'.mv (z1 3 16 (by decide)) (fun a k1 k2 => z2 a (by omega) (by omega) (by omega)), hA.mv (z1 3 17 (by decide)) (fun a k1 k2 => z2 a (by omega) (by omega) (by omega)), g3.mv (by rw [q1, e10]; rfl) (by rw [q2 4 (by decide), e10, (pA_ne 4 (by decide)).2])⟩, ?_, ?_, ?_, ?_, hw.app _ (Int.le_refl _) (by show (V.length : Int) + ((1 : Nat) : Int) ≤ p; omega), by rw [z1 220 3 (by decide)]; exact e3, by rw [z1 220 4 (by decide)]; exact e4, by rw [z1 220 5 (by decide)]; exact e5, by rw [z1 220 6 (by decide)]; exact e6', fun k0 => ⟨(h4 k0).1, fun hz => ?_⟩, hnb⟩
    · show KD S16 E
      unfold KD
      rw [z10]
      exact hkd
    · show SD S16 E (V ++ [(u, (k : Int))])
      intro j hj
      by_cases c : j = k
      · rw [c]
        rcases q4 with ⟨a1, a2⟩ | ⟨a1, a2, a3⟩
        · refine Or.inl ⟨a1, ?_⟩
          by_cases hb : isBl u
          · rcases hs k hk with ⟨b1, i, b2, b3, b4⟩ | ⟨b1, -⟩
            · exact ⟨i, by rw [len1]; omega, by rw [gD_l b2]; exact b3, by rw [gD_l b2]; exact b4⟩
            · rcases a2 with a2 | a2
              · omega
              · exact absurd hb a2
          · exact ⟨V.length, by rw [len1]; omega, by rw [gD_r rfl], by rw [gD_r rfl]; exact hb⟩
        · refine Or.inr ⟨a1, fun i hi ei => ?_⟩
          rw [len1] at hi
          by_cases ci : i = V.length
          · rw [gD_r ci]
            exact a3
          · rw [gD_l (by omega)] at ei ⊢
            rcases hs k hk with ⟨b1, -⟩ | ⟨-, b2⟩
            · omega
            · exact b2 i (by omega) ei
      · rw [q3 j c]
        rcases hs j hj with ⟨b1, i, b2, b3, b4⟩ | ⟨b1, b2⟩
        · exact Or.inl ⟨b1, i, by rw [len1]; omega, by rw [gD_l b2]; exact b3, by rw [gD_l b2]; exact b4⟩
        · refine Or.inr ⟨b1, fun i hi ei => ?_⟩
          rw [len1] at hi
          by_cases ci : i = V.length
          · rw [gD_r ci] at ei
            have ei : (k : Int) = j := ei
            omega
          · rw [gD_l (by omega)] at ei ⊢
            exact b2 i (by omega) ei
    · show TD S16 (V ++ [(u, (k : Int))]) E.length
      intro j hj
      obtain ⟨a1, a2, a3, a4⟩ := ht j hj
      rw [z13, z14, z10, len1]
      by_cases c : j = k
      · rw [if_pos (by omega)]
        refine ⟨a1, by omega, by omega, fun hz i hi => ?_⟩
        rw [c] at hz a4 a3 a2 a1 ⊢
        have h14 := (h4 (by omega)).2 hz
        by_cases ci : i = V.length
        · rw [gD_r ci]
          exact ⟨fun _ => ⟨by omega, by omega⟩, fun _ => rfl⟩
        · rw [gD_l (by omega)]
          refine (a4 hz i (by omega)).trans ⟨fun z => ⟨z.1, by omega⟩, fun z => ⟨z.1, by omega⟩⟩
      · rw [if_neg (by omega)]
        refine ⟨a1, a2, by omega, fun hz i hi => ?_⟩
        by_cases ci : i = V.length
        · rw [gD_r ci]
          refine ⟨fun z => ?_, fun z => by omega⟩
          have z : (k : Int) = j := z
          omega
        · rw [gD_l (by omega)]
          exact a4 hz i (by omega)
    · show OD E (V ++ [(u, (k : Int))])
      intro i hi
      rw [len1] at hi
      by_cases ci : i = V.length
      · rw [gD_r ci]
        show (k : Int) < E.length
        omega
      · rw [gD_l (by omega)]
        exact hod i (by omega)
    · show S16.2 14 k = ((V ++ [(u, (k : Int))]).length : Int)
      rw [z14, if_pos rfl, len1]
      rfl
  rw [y15]
  have sk : S.2 15 k = 1 ∨ S.2 15 k = 0 := by
    rcases hs k hk with ⟨b1, -⟩ | ⟨b1, -⟩
    · exact Or.inl b1
    · exact Or.inr b1
  refine ⟨fun z => ⟨by omega, by omega, fun S16 e16 => fin S16 (by rw [e16]; rfl) (fun a ha => by rw [e16, (pA_ne a ha).2]) (fun y hy => ?_) (Or.inl ⟨?_, Or.inl (by omega)⟩)⟩, fun z => k_isBl (fun r hr => ?_)⟩
  · rw [e16, pA_if, if_neg (by omega), y15]
  · rw [e16, pA_if, if_pos rfl]
  rcases hr with ⟨rfl, hb⟩ | ⟨rfl, hb⟩
  · refine ⟨⟨by decide, by decide⟩, fun _ => ⟨by omega, by omega, fun S22 e22 => fin S22 (by rw [e22]; rfl) (fun a ha => by rw [e22, (pA_ne a ha).2]) (fun y hy => ?_) (Or.inr ⟨?_, by omega, hb⟩)⟩, fun w => absurd (by decide) w⟩
    · rw [e22, pA_if, if_neg (by omega), y15]
    · rw [e22, pA_if, if_pos rfl]
  · refine ⟨⟨by decide, by decide⟩, fun w => absurd rfl w, fun _ => ⟨by omega, by omega, fun S24 e24 => fin S24 (by rw [e24]; rfl) (fun a ha => by rw [e24, (pA_ne a ha).2]) (fun y hy => ?_) (Or.inl ⟨?_, Or.inr hb⟩)⟩⟩
    · rw [e24, pA_if, if_neg (by omega), y15]
    · rw [e24, pA_if, if_pos rfl]
/-- a sign of a text -/
theorem k_txs {k : Nat} (hX : TX T n) (hC : rTx S T n) (hP : PY T n S (E, A, V) p (k : Int) d) (hk : k < E.length) (hE : E.length ≤ 200) (p0 : 0 ≤ p) (p1 : p < n) (hK : ∀ S', CF S S' → ((∃ u q, dec T p = some (u, q) ∧ PY T n S' (E, A, V ++ [(u, (k : Int))]) q (k : Int) d ∧ p < q ∧ q ≤ n) ∨ (dec T p = none ∧ ¬ S'.1 220 6 = -1)) → K 0 S') : wX9_textSign S K := by
  have hn := hX.1
  have hp := hP.2.2.2.2.2.2.1
  have ho := hP.2.2.2.2.2.2.2.1
  have vl : (V.length : Int) ≤ p := hP.2.2.2.2.2.1.1
  refine k_dec hX hC hp p0 p1 ⟨fun u q hd hu pq qn => ?_, fun hd => ?_⟩
  · refine ⟨⟨by omega, by omega⟩, fun z => absurd z (by omega), fun _ => ?_⟩
    have o1 : (pI S 220 3 q).1 220 4 = k := by rw [pI_j (by decide)]; exact ho
    rw [o1]
    exact fun _ => k_addT (hP.pi (by omega)) hk hE (by omega) (by omega) hu (fun S' f g => hK S' (CF.pi.tr f) (Or.inl ⟨u, q, hd, g, pq, qn⟩))
  · refine ⟨⟨by decide, by decide⟩, fun _ => hK _ CF.pi (Or.inr ⟨hd, ?_⟩), fun z => absurd rfl z⟩
    rw [pI_v]
    omega
/-- CDATA -/
theorem k_cda {k : Nat} (hX : TX T n) (hC : rTx S T n) (hP : PY T n S (E, A, V) p (k : Int) d) (hk : k < E.length) (hE : E.length ≤ 200) (p0 : 0 ≤ p) (p1 : p + 9 ≤ n) (hK : ∀ S', CF S S' → ((∃ l q, cda T 3001 (p + 9) [] = some (l, q) ∧ PY T n S' (E, A, V ++ l.map (fun u => (u, (k : Int)))) q (k : Int) d ∧ p < q ∧ q ≤ n) ∨ (cda T 3001 (p + 9) [] = none ∧ ¬ S'.1 220 6 = -1)) → K 0 S') : wX9_cdata S K := by
  have hn := hX.1
  have hp := hP.2.2.2.2.2.2.1
  have vl : (V.length : Int) ≤ p := hP.2.2.2.2.2.1.1
  unfold wX9_cdata
  intro _
  rw [hp]
  refine ⟨⟨by omega, by omega⟩, fun S2 e2 => ?_⟩
  refine ⟨fun S' => CF S S' ∧ ∃ (l : List Int) (pp : Int) (f : Nat), PY T n S' (E, A, V ++ l.map (fun u => (u, (k : Int)))) pp (k : Int) d ∧ pp = p + 9 + l.length ∧ pp ≤ n ∧ n + 1 - pp ≤ f ∧ cda T f pp l = cda T 3001 (p + 9) [], fun S' => (n + 1 - S'.1 220 3).toNat, ⟨by rw [e2]; exact CF.pi, [], p + 9, 3001, by rw [List.map_nil, List.append_nil, e2]; exact hP.pi (by omega), by show p + 9 = p + 9 + ((0 : Nat) : Int); omega, p1, by omega, rfl⟩, ?_⟩
  rintro S' ⟨hF, l, pp, f, hP', rfl, ppn, ff, hc⟩
  obtain ⟨f', rfl⟩ : ∃ f', f = f' + 1 := ⟨f - 1, by omega⟩
  obtain ⟨pp, hpp⟩ : ∃ pp, pp = p + 9 + (l.length : Int) := ⟨_, rfl⟩
  rw [← hpp] at hP' ppn ff hc
  have hC' := hC.cf hF
  have p3 := hP'.2.2.2.2.2.2.1
  have o3 := hP'.2.2.2.2.2.2.2.1
  have bt := tx_rng hX (show 0 ≤ pp by omega)
  have f3 : cda T 3001 (p + 9) [] = if T pp = -1 then none else if T pp = 93 ∧ T (pp + 1) = 93 ∧ T (pp + 2) = 62 then some (l, pp + 3) else cda T f' (pp + 1) (l ++ [T pp]) := hc.symm
  have hcm : cm T pp [93, 93, 62] = true ↔ (T pp = 93 ∧ T (pp + 1) = 93 ∧ T (pp + 2) = 62) := by
    rw [cm_iff]
    refine ⟨fun h => ⟨?_, ?_, ?_⟩, fun h i hi => ?_⟩
    · have := h 0 (by decide)
      rw [show pp + ((0 : Nat) : Int) = pp by omega] at this
      exact this
    · exact h 1 (by decide)
    · exact h 2 (by decide)
    · have hi : i < 3 := hi
      rcases (show i = 0 ∨ i = 1 ∨ i = 2 by omega) with rfl | rfl | rfl
      · rw [show pp + ((0 : Nat) : Int) = pp by omega]
        exact h.1
      · exact h.2.1
      · exact h.2.2
  have out : (n ≤ pp ∨ (T pp = 93 ∧ T (pp + 1) = 93 ∧ T (pp + 2) = 62)) → wX9_cdata_69 S' K := fun hq => by
    unfold wX9_cdata_69
    intro _
    rw [p3]
    refine k_len hC' ⟨⟨by omega, by omega⟩, fun z => ?_, fun z => ?_⟩
    · rw [p3]
      refine fun _ S7 e7 => hK S7 (hF.tr (by rw [e7]; exact CF.pi)) (Or.inr ⟨?_, ?_⟩)
      · rw [f3, if_pos (hX.2.2 pp z)]
      · rw [e7, pI_v]
        omega
    · rw [p3]
      have h3 := hq.resolve_left (by omega)
      have := hX.in (show ¬ T (pp + 2) = -1 by omega)
      refine fun _ => ⟨⟨by omega, by omega⟩, fun S9 e9 => hK S9 (hF.tr (by rw [e9]; exact CF.pi)) (Or.inl ⟨l, pp + 3, ?_, by rw [e9]; exact hP'.pi (by omega), by omega, by omega⟩)⟩
      rw [f3, if_neg (by omega), if_pos h3]
  intro _
  rw [p3]
  refine k_len hC' ⟨⟨by omega, by omega⟩, fun z => out (Or.inl z), fun z => k_X9_comes_h hX hC' p3 (by omega) ppn (fun r hr => ?_)⟩
  rcases hr with ⟨rfl, hr⟩ | ⟨rfl, hr⟩
  · exact ⟨⟨by decide, by decide⟩, fun _ => out (Or.inr (hcm.mp hr)), fun w => absurd (by decide) w⟩
  · refine ⟨⟨by decide, by decide⟩, fun w => absurd rfl w, fun _ => ?_⟩
    have hno : ¬ (T pp = 93 ∧ T (pp + 1) = 93 ∧ T (pp + 2) = 62) := fun w => by
      rw [hcm.mpr w] at hr
      cases hr
    have bt2 := hX.2.1 pp (by omega) (by omega)
    have vl' : ((V ++ l.map (fun u => (u, (k : Int)))).length : Int) = V.length + l.length := by rw [List.length_append, List.length_map]; omega
    rw [o3, p3]
    refine fun _ _ => k_at hX hC' (by omega) ⟨⟨by omega, by omega⟩, k_addT hP' hk hE (by omega) (by omega) bt2 (fun S14 g1 g2 => ?_)⟩
    have p14 := g2.2.2.2.2.2.2.1
    rw [p14]
    refine fun _ => ⟨⟨by omega, by omega⟩, fun S18 e18 => ⟨⟨(hF.tr g1).tr (by rw [e18]; exact CF.pi), l ++ [T pp], pp + 1, f', ?_, ?_, by omega, by omega, ?_⟩, ?_⟩⟩
    · rw [map_snoc2, e18]
      exact g2.pi (by omega)
    · rw [len1]
      show pp + 1 = p + 9 + ((l.length + 1 : Nat) : Int)
      omega
    · rw [f3, if_neg (by omega), if_neg hno]
    · show (n + 1 - S18.1 220 3).toNat < (n + 1 - S'.1 220 3).toNat
      rw [p3, show S18.1 220 3 = pp + 1 by rw [e18]; exact pI_v]
      omega
/-- a comment -/
theorem k_com {k : Nat} (hX : TX T n) (hC : rTx S T n) (hP : PY T n S (E, A, V) p (k : Int) d) (p0 : 0 ≤ p) (p1 : p + 4 ≤ n) (hK : ∀ S', CF S S' → ((∃ q, cme T 3001 (p + 4) = some q ∧ PY T n S' (E, A, V) q (k : Int) d ∧ p < q ∧ q ≤ n) ∨ (cme T 3001 (p + 4) = none ∧ ¬ S'.1 220 6 = -1)) → K 0 S') : wX9_comment S K := by
  have hn := hX.1
  have hp := hP.2.2.2.2.2.2.1
  unfold wX9_comment
  intro _
  rw [hp]
  refine ⟨⟨by omega, by omega⟩, fun S2 e2 => ?_⟩
  refine ⟨fun S' => ∃ (pp : Int) (f : Nat), S' = pI S 220 3 pp ∧ p + 4 ≤ pp ∧ pp ≤ n ∧ n + 1 - pp ≤ f ∧ cme T f pp = cme T 3001 (p + 4), fun S' => (n + 1 - S'.1 220 3).toNat, ⟨p + 4, 3001, e2, Int.le_refl _, p1, by omega, rfl⟩, ?_⟩
  rintro S' ⟨pp, f, hS, pp0, ppn, ff, hc⟩
  obtain ⟨f', rfl⟩ : ∃ f', f = f' + 1 := ⟨f - 1, by omega⟩
  have p3 : S'.1 220 3 = pp := by rw [hS]; exact pI_v
  have hC' : rTx S' T n := by rw [hS]; exact hC.pi
  have f3 : cme T 3001 (p + 4) = if T pp = -1 then none else if T pp = 45 ∧ T (pp + 1) = 45 then (if T (pp + 2) = 62 then some (pp + 3) else none) else cme T f' (pp + 1) := hc.symm
  have hcm : cm T pp [45, 45] = true ↔ (T pp = 45 ∧ T (pp + 1) = 45) := by
    rw [cm_iff]
    refine ⟨fun h => ⟨?_, ?_⟩, fun h i hi => ?_⟩
    · have := h 0 (by decide)
      rw [show pp + ((0 : Nat) : Int) = pp by omega] at this
      exact this
    · exact h 1 (by decide)
    · have hi : i < 2 := hi
      rcases (show i = 0 ∨ i = 1 by omega) with rfl | rfl
      · rw [show pp + ((0 : Nat) : Int) = pp by omega]
        exact h.1
      · exact h.2
  have bad : ∀ S7 : St, ∀ q, S7 = pI (pI S 220 3 q) 220 6 q → 0 ≤ q → cme T 3001 (p + 4) = none → K 0 S7 := fun S7 q e7 q0 h => by
    rw [e7]
    refine hK _ (CF.pi.tr CF.pi) (Or.inr ⟨h, ?_⟩)
    rw [pI_v]
    omega
  have out : (n ≤ pp ∨ (T pp = 45 ∧ T (pp + 1) = 45)) → wX9_comment_46 S' K := fun hq => by
    unfold wX9_comment_46
    intro _
    rw [p3]
    refine k_len hC' ⟨⟨by omega, by omega⟩, fun z => ?_, fun z => ?_⟩
    · unfold wX9_comment_70
      rw [p3]
      have tp := hX.2.2 pp z
      refine fun _ => k_at hX hC' (by omega) ?_
      rw [tp]
      refine ⟨⟨by decide, by decide⟩, fun _ => ?_, fun w => absurd (by decide) w⟩
      rw [p3]
      refine fun _ S7 e7 => bad S7 pp (by rw [e7, hS]) (by omega) ?_
      rw [f3, if_pos tp]
    · have h2 := hq.resolve_left (by omega)
      have pn1 := hX.in (show ¬ T (pp + 1) = -1 by omega)
      rw [p3]
      refine fun _ => ⟨⟨by omega, by omega⟩, fun S7 e7 => ?_⟩
      have e7' : S7 = pI S 220 3 (pp + 2) := by rw [e7, hS, pI_pI]
      have p7 : S7.1 220 3 = pp + 2 := by rw [e7']; exact pI_v
      have hC7 : rTx S7 T n := by rw [e7']; exact hC.pi
      have bt := tx_rng hX (show 0 ≤ pp + 2 by omega)
      unfold wX9_comment_70
      rw [p7]
      refine fun _ => k_at hX hC7 (by omega) ⟨⟨by omega, by omega⟩, fun w => ?_, fun w => ?_⟩
      · rw [p7]
        refine fun _ S8 e8 => bad S8 (pp + 2) (by rw [e8, e7']) (by omega) ?_
        rw [f3, if_neg (by omega), if_pos h2, if_neg w]
      · have w := Classical.not_not.mp w
        have pn2 := hX.in (show ¬ T (pp + 2) = -1 by omega)
        rw [p7]
        refine fun _ => ⟨⟨by omega, by omega⟩, fun S9 e9 => hK S9 (by rw [e9, e7', pI_pI]; exact CF.pi) (Or.inl ⟨pp + 3, ?_, ?_, by omega, by omega⟩)⟩
        · rw [f3, if_neg (by omega), if_pos h2, if_pos w]
        · rw [e9, e7', pI_pI, show pp + 2 + 1 = pp + 3 by omega]
          exact hP.pi (by omega)
  intro _
  rw [p3]
  refine k_len hC' ⟨⟨by omega, by omega⟩, fun z => out (Or.inl z), fun z => k_X9_comes_i hX hC' p3 (by omega) ppn (fun r hr => ?_)⟩
  rcases hr with ⟨rfl, hr⟩ | ⟨rfl, hr⟩
  · exact ⟨⟨by decide, by decide⟩, fun _ => out (Or.inr (hcm.mp hr)), fun w => absurd (by decide) w⟩
  · refine ⟨⟨by decide, by decide⟩, fun w => absurd rfl w, fun _ => ?_⟩
    have hno : ¬ (T pp = 45 ∧ T (pp + 1) = 45) := fun w => by
      rw [hcm.mpr w] at hr
      cases hr
    have bt2 := hX.2.1 pp (by omega) (by omega)
    rw [p3]
    refine fun _ => ⟨⟨by omega, by omega⟩, fun S11 e11 => ⟨⟨pp + 1, f', by rw [e11, hS, pI_pI], by omega, by omega, by omega, ?_⟩, ?_⟩⟩
    · rw [f3, if_neg (by omega), if_neg hno]
    · show (n + 1 - S11.1 220 3).toNat < (n + 1 - S'.1 220 3).toNat
      rw [p3, show S11.1 220 3 = pp + 1 by rw [e11]; exact pI_v]
      omega
/-- an end tag -/
theorem k_et {k : Nat} (hX : TX T n) (hC : rTx S T n) (hP : PY T n S (E, A, V) p (k : Int) d) (hk : k < E.length) (hE : E.length ≤ 200) (hd : iv (-4000) 4000 d) (p0 : 0 ≤ p) (p1 : p + 1 < n) (hK : ∀ S', CF S S' → ((∃ q, etg T p (E.getD k e6) = some q ∧ PY T n S' (E, A, V) q (E.getD k e6).2.2.1 (d - 1) ∧ p < q ∧ q ≤ n) ∨ (etg T p (E.getD k e6) = none ∧ ¬ S'.1 220 6 = -1)) → K 0 S') : wX9_endTag S K := by
  have hn := hX.1
  have hP0 := hP
  obtain ⟨⟨hE', hA, hV⟩, hkd, hs, ht, hod, hw, e3, e4, e5, e6', h4, hnb⟩ := hP
  have hE' : cXe S E := hE'
  have mk := hE'.2 k hk
  have wk := hw.2.2.1 k hk
  have wk : 0 ≤ (E.getD k e6).1 ∧ (E.getD k e6).1 + 1 < (E.getD k e6).2.1 ∧ (E.getD k e6).2.1 ≤ n ∧ -1 ≤ (E.getD k e6).2.2.1 ∧ (E.getD k e6).2.2.1 < k ∧ _ := wk
  obtain ⟨e, he⟩ : ∃ e, e = E.getD k e6 := ⟨_, rfl⟩
  rw [← he] at mk wk hK
  have hT := rNm_le (p := p + 2) hX (by omega)
  obtain ⟨to, hto⟩ : ∃ to, to = rNm T (p + 2) := ⟨_, rfl⟩
  rw [← hto] at hT
  have hetg : etg T p e = if nQ T (e.1 + 1) e.2.1 (p + 2) to then (if T (rBl T to) = 62 then some (rBl T to + 1) else none) else none := by
    rw [hto]
    rfl
  have bad : ∀ S7 : St, ∀ q y, S7 = pI (pI S 220 3 q) 220 6 y → 0 ≤ y → etg T p e = none → K 0 S7 := fun S7 q y e7 q0 h => by
    rw [e7]
    refine hK _ (CF.pi.tr CF.pi) (Or.inr ⟨h, ?_⟩)
    rw [pI_v]
    omega
  unfold wX9_endTag
  intro _
  rw [e3]
  refine ⟨⟨by omega, by omega⟩, fun S2 e2 => ?_⟩
  have p2 : S2.1 220 3 = p + 2 := by rw [e2]; exact pI_v
  have hC2 : rTx S2 T n := by rw [e2]; exact hC.pi
  have b2 := tx_rng hX (show 0 ≤ p + 2 by omega)
  rw [p2]
  refine fun _ => k_name hX hC2 p2 (by omega) (by omega) ?_
  by_cases hg : nBg (T (p + 2))
  rotate_left
  · rw [if_neg hg]
    have p5 : (pI S2 220 3 (p + 2)).1 220 3 = p + 2 := pI_v
    rw [p5]
    refine fun _ => ⟨fun z => absurd rfl z, fun _ S35 e35 => bad S35 (p + 2) (p + 2) (by rw [e35, e2, pI_pI]) (by omega) ?_⟩
    rw [hetg, if_neg]
    intro hq
    have hq := nQ_iff.mp hq
    have h0 := hq.2 0 (by decide) (by omega)
    have h1 := hnb k hk
    have h1 : nBg (T ((E.getD k e6).1 + 1)) := h1
    rw [← he] at h1
    rw [show p + 2 + 0 = p + 2 by omega, show e.1 + 1 + 0 = e.1 + 1 by omega] at h0
    rw [h0] at h1
    exact hg h1
  rw [if_pos hg, ← hto]
  have hto2 : p + 2 < to := by
    have := rNm_b (p := p + 2) hX (by omega) (show nIn (T (p + 2)) by omega)
    omega
  obtain ⟨S5, hS5⟩ : ∃ S5, S5 = pI S2 220 3 to := ⟨_, rfl⟩
  rw [← hS5]
  have e5' : S5 = pI S 220 3 to := by rw [hS5, e2, pI_pI]
  have p5 : S5.1 220 3 = to := by rw [e5']; exact pI_v
  have o5 : S5.1 220 4 = k := by rw [e5', pI_j (by decide)]; exact e4
  have hC5 : rTx S5 T n := by rw [e5']; exact hC.pi
  have hE5 : cXe S5 E := by rw [e5']; exact hE'
  rw [p5]
  refine fun _ => ⟨fun _ => ?_, fun z => absurd (by omega) z⟩
  rw [o5]
  refine fun _ => ?_
  unfold wX6_isNamed
  intro _ _ _
  refine k_has hE5.1 (fun r hr => ?_)
  rcases hr with ⟨rfl, -, -⟩ | ⟨rfl, h⟩
  rotate_left
  · exact absurd ⟨by omega, by omega⟩ h
  have mk5 : S5.2 = S.2 := by rw [e5']; rfl
  rw [mk5, mk.2.1, mk.2.2.1]
  refine ⟨⟨by decide, by decide⟩, fun z => absurd z (by decide), fun _ => ⟨by omega, by omega, fun _ => ⟨by omega, by omega, fun _ => k_spelt hX hC5 (by omega) (by omega) wk.2.2.1 (by omega) (by omega) hT.2 (fun r hr => ?_)⟩⟩⟩
  rcases hr with ⟨rfl, hq⟩ | ⟨rfl, hq⟩
  rotate_left
  · refine ⟨⟨by decide, by decide⟩, fun _ => ⟨⟨by decide, by decide⟩, fun z => absurd rfl z, fun _ S34 e34 => bad S34 to (p + 2) (by rw [e34, e5']) (by omega) ?_⟩, fun z => absurd rfl z⟩
    rw [hetg, hq]
    rfl
  rw [if_pos hq] at hetg
  have hB := rBl_b (p := to) hX hT.2
  refine ⟨⟨by decide, by decide⟩, fun z => absurd z (by decide), fun _ => ⟨⟨by decide, by decide⟩, fun _ => k_blanks hX hC5 p5 (by omega) hT.2 ?_, fun z => absurd (by decide) z⟩⟩
  obtain ⟨r, hr⟩ : ∃ r, r = rBl T to := ⟨_, rfl⟩
  rw [← hr] at hB hetg ⊢
  obtain ⟨S14, hS14⟩ : ∃ S14, S14 = pI S5 220 3 r := ⟨_, rfl⟩
  rw [← hS14]
  have e14' : S14 = pI S 220 3 r := by rw [hS14, e5', pI_pI]
  have p14 : S14.1 220 3 = r := by rw [e14']; exact pI_v
  have hC14 : rTx S14 T n := by rw [e14']; exact hC.pi
  have bt := tx_rng hX (show 0 ≤ r by omega)
  rw [p14]
  refine fun _ => k_at hX hC14 (by omega) ⟨⟨by omega, by omega⟩, fun z => ?_, fun z => ?_⟩
  rotate_left
  · rw [p14]
    refine fun _ S33 e33 => bad S33 r r (by rw [e33, e14']) (by omega) ?_
    rw [hetg, if_neg z]
  have rn : r < n := hX.in (by omega)
  rw [p14]
  refine fun _ => ⟨⟨by omega, by omega⟩, fun S22 e22 => ?_⟩
  have e22' : S22 = pI S 220 3 (r + 1) := by rw [e22, e14', pI_pI]
  have o22 : S22.1 220 4 = k := by rw [e22', pI_j (by decide)]; exact e4
  have hE22 : cXe S22 E := by rw [e22']; exact hE'
  rw [o22]
  refine fun _ => ?_
  unfold wX6_parent
  intro _
  refine k_has hE22.1 (fun r' hr' => ?_)
  rcases hr' with ⟨rfl, -, -⟩ | ⟨rfl, h⟩
  rotate_left
  · exact absurd ⟨by omega, by omega⟩ h
  have z22 : S22.2 = S.2 := by rw [e22']; rfl
  rw [z22, mk.2.2.2.1]
  refine ⟨⟨by decide, by decide⟩, fun z => absurd z (by decide), fun _ => ⟨by omega, by omega, fun _ => ⟨⟨by omega, by omega⟩, fun S27 e27 => ?_⟩⟩⟩
  have d27 : S27.1 220 5 = d := by rw [e27, pI_j (by decide), e22', pI_j (by decide)]; exact e5
  rw [d27]
  refine fun _ => ⟨⟨by omega, by omega⟩, fun S30 e30 => hK S30 ?_ (Or.inl ⟨r + 1, by rw [hetg, if_pos z], ?_, by omega, by omega⟩)⟩
  · rw [e30, e27, e22']
    exact (CF.pi.tr CF.pi).tr CF.pi
  · rw [e30, e27, e22']
    refine ⟨⟨hE', hA, hV⟩, hkd, hs, ht, hod, hw.le (by omega), ?_, ?_, ?_, ?_, fun o0 => ⟨?_, fun hz => absurd ?_ hz⟩, hnb⟩
    · rw [pI_j (by decide), pI_j (by decide)]
      exact pI_v
    · rw [pI_j (by decide)]
      exact pI_v
    · exact pI_v
    · rw [pI_j (by decide), pI_j (by decide), pI_j (by decide)]
      exact e6'
    · show e.2.2.1 < (E.length : Int)
      omega
    · have := (hkd e.2.2.1.toNat (by show e.2.2.1.toNat < E.length; omega)).2.2
      rw [show ((e.2.2.1.toNat : Nat) : Int) = e.2.2.1 by omega] at this
      exact this.mpr ⟨k, hk, by rw [← he]⟩
end YE

