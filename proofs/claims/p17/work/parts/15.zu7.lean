/-! READING XML: the class reads a text -/
def QJ (T : Int → Int) (n : Int) (S0 : St) (l1 : Int) (S' : St) : Prop := CF S0 S' ∧ ((∃ (E : List Xe) (A : List Xa) (V : List (Int × Int)) (k f : Nat) (p d : Int), PY T n S' (E, A, V) p (k : Int) d ∧ k < E.length ∧ E.length ≤ 200 ∧ 0 ≤ l1 ∧ l1 + 3 ≤ p ∧ p ≤ n ∧ -p ≤ d ∧ d ≤ 40 ∧ n + 1 - p ≤ f ∧ pX T = pF T (prs T f (E, A, V) p k d)) ∨ (∃ (E : List Xe) (A : List Xa) (V : List (Int × Int)) (p d : Int), PY T n S' (E, A, V) p (-1) d ∧ 0 < E.length ∧ E.length ≤ 200 ∧ 0 ≤ l1 ∧ l1 ≤ p ∧ p ≤ n ∧ pX T = if T (rBl T p) = -1 then some (E, A, V) else none) ∨ (0 ≤ l1 ∧ l1 ≤ 3000 ∧ pX T = none ∧ ¬ S'.1 220 6 = -1))
def mQ (n : Int) (S' : St) : Nat := if S'.1 220 6 = -1 then (if S'.1 220 4 = -1 then 1 else (n + 3 - S'.1 220 3).toNat + 2) else 0
/-- what the class's reading leaves -/
def XcO (T : Int → Int) (n : Int) (S' : St) (r : Int) : Prop := (∃ s : Xs, pX T = some s ∧ r = -1 ∧ 0 < s.1.length ∧ s.1.length ≤ 200 ∧ cX S' s ∧ KD S' s.1 ∧ SD S' s.1 s.2.2 ∧ TD S' s.2.2 s.1.length ∧ OD s.1 s.2.2 ∧ WX n s n ∧ nBE T s.1) ∨ (pX T = none ∧ ¬ r = -1 ∧ rng r)
section YF
variable {S S0 : St} {K : Int → St → Prop} {T : Int → Int} {n p o d : Int}
theorem k_214 (hX : TX T n) (hC0 : rTx S0 T n) (hF : CF S0 S) (hc : (∃ (E : List Xe) (A : List Xa) (V : List (Int × Int)) (p d : Int), PY T n S (E, A, V) p (-1) d ∧ 0 < E.length ∧ E.length ≤ 200 ∧ 0 ≤ p ∧ p ≤ n ∧ pX T = if T (rBl T p) = -1 then some (E, A, V) else none) ∨ (pX T = none ∧ ¬ S.1 220 6 = -1)) (hK : ∀ r S', CF S0 S' → XcO T n S' r → K r S') : wX9_firstWrong_214 S K := by
  have hn := hX.1
  have hC := hC0.cf hF
  unfold wX9_firstWrong_214
  intro hv6
  rcases hc with ⟨E, A, V, p, d, hP, hE0, hE, p0, pn, hp⟩ | ⟨hp, hb⟩
  · have e3 := hP.2.2.2.2.2.2.1
    have e6' := hP.2.2.2.2.2.2.2.2.2.1
    have hB := rBl_b (p := p) hX pn
    refine ⟨fun _ => k_blanks hX hC e3 p0 pn ?_, fun z => absurd e6' z⟩
    have p3 : (pI S 220 3 (rBl T p)).1 220 3 = rBl T p := pI_v
    rw [p3]
    refine fun _ => k_len hC.pi ⟨⟨by omega, by omega⟩, fun z => hK _ _ (hF.tr CF.pi) (Or.inl ⟨(E, A, V), ?_, rfl, hE0, hE, hP.1, hP.2.1, hP.2.2.1, hP.2.2.2.1, hP.2.2.2.2.1, hP.2.2.2.2.2.1.le pn, hP.2.2.2.2.2.2.2.2.2.2.2⟩), fun z => ?_⟩
    · rw [hp, if_pos (hX.2.2 _ z)]
    · rw [p3]
      refine fun hv => hK _ _ (hF.tr CF.pi) (Or.inr ⟨?_, by omega, ⟨by omega, by omega⟩⟩)
      have := hX.2.1 (rBl T p) (by omega) (by omega)
      rw [hp, if_neg (by omega)]
  · exact ⟨fun z => absurd z hb, fun _ => hK _ _ hF (Or.inr ⟨hp, hb, ⟨by omega, by omega⟩⟩)⟩
theorem k_42 (hX : TX T n) (hC0 : rTx S0 T n) (hK : ∀ r S', CF S0 S' → XcO T n S' r → K r S') {l1 : Int} (h0 : QJ T n S0 l1 S) : wX9_firstWrong_42 l1 S K := by
  have hn := hX.1
  refine ⟨QJ T n S0, fun _ S' => mQ n S', h0, ?_⟩
  clear h0
  rintro l1 S' ⟨hF, hc⟩
  have hC := hC0.cf hF
  unfold wX9_firstWrong_42'
  rcases hc with ⟨E, A, V, k, f, p, d, hP, hk, hE, l0, lp, pn, d0, d1, ff, hp⟩ | ⟨E, A, V, p, d, hP, hE0, hE, l0, lp, pn, hp⟩ | ⟨l0, l3, hp, hb⟩
  · obtain ⟨f', rfl⟩ : ∃ f', f = f' + 1 := ⟨f - 1, by omega⟩
    rw [prs_eq] at hp
    have e3 := hP.2.2.2.2.2.2.1
    have e4 := hP.2.2.2.2.2.2.2.1
    have e5 := hP.2.2.2.2.2.2.2.2.1
    have e6' := hP.2.2.2.2.2.2.2.2.2.1
    have vl : (V.length : Int) ≤ p := hP.2.2.2.2.2.1.1
    have bt := tx_rng hX (show 0 ≤ p by omega)
    have bt1 := tx_rng hX (show 0 ≤ p + 1 by omega)
    have h16 : S'.1 3 16 = E.length := hP.1.1.1
    have m0 : mQ n S' = (n + 3 - p).toNat + 2 := by
      unfold mQ
      rw [if_pos e6', if_neg (by rw [e4]; omega), e3]
    -- goes on, ends, or fails
    have toB : ∀ (S2 : St) (E' : List Xe) (A' : List Xa) (V' : List (Int × Int)) (k' : Nat) (q d' : Int), CF S' S2 → PY T n S2 (E', A', V') q (k' : Int) d' → k' < E'.length → E'.length ≤ 200 → p < q → q ≤ n → -q ≤ d' → d' ≤ 40 → pX T = pF T (prs T f' (E', A', V') q k' d') → wX9_firstWrong_208 l1 S2 K (fun ml1 T1 => QJ T n S0 ml1 T1 ∧ mQ n T1 < mQ n S') := fun S2 E' A' V' k' q d' h1 h2 h3 h4 h5 h6 h7 h8 h9 => by
      refine ⟨⟨hF.tr h1, Or.inl ⟨E', A', V', k', f', q, d', h2, h3, h4, by omega, by omega, h6, h7, h8, by omega, h9⟩⟩, ?_⟩
      rw [m0]
      unfold mQ
      rw [if_pos h2.2.2.2.2.2.2.2.2.2.1, if_neg (by rw [h2.2.2.2.2.2.2.2.1]; omega), h2.2.2.2.2.2.2.1]
      omega
    have toC : ∀ (S2 : St) (E' : List Xe) (A' : List Xa) (V' : List (Int × Int)) (q d' : Int), CF S' S2 → PY T n S2 (E', A', V') q (-1) d' → 0 < E'.length → E'.length ≤ 200 → p < q → q ≤ n → (pX T = if T (rBl T q) = -1 then some (E', A', V') else none) → wX9_firstWrong_208 l1 S2 K (fun ml1 T1 => QJ T n S0 ml1 T1 ∧ mQ n T1 < mQ n S') := fun S2 E' A' V' q d' h1 h2 h3 h4 h5 h6 h7 => by
      refine ⟨⟨hF.tr h1, Or.inr (Or.inl ⟨E', A', V', q, d', h2, h3, h4, by omega, by omega, h6, h7⟩)⟩, ?_⟩
      rw [m0]
      unfold mQ
      rw [if_pos h2.2.2.2.2.2.2.2.2.2.1, if_pos h2.2.2.2.2.2.2.2.1]
      omega
    have toD : ∀ (S2 : St), CF S' S2 → pX T = none → ¬ S2.1 220 6 = -1 → wX9_firstWrong_208 l1 S2 K (fun ml1 T1 => QJ T n S0 ml1 T1 ∧ mQ n T1 < mQ n S') := fun S2 h1 h2 h3 => by
      refine ⟨⟨hF.tr h1, Or.inr (Or.inr ⟨by omega, by omega, h2, h3⟩)⟩, ?_⟩
      rw [m0]
      unfold mQ
      rw [if_neg h3]
      omega
    refine ⟨⟨by omega, by omega⟩, fun z => absurd z (by omega), fun _ _ => ⟨fun z => absurd e6' z, fun _ _ => ⟨fun z => absurd z (by rw [e4]; omega), fun _ => ?_⟩⟩⟩
    rw [e3]
    refine fun _ => k_at hX hC (by omega) ⟨⟨by omega, by omega⟩, fun z1 => ?_, fun z1 => ?_⟩
    rotate_left
    · rw [e3]
      refine fun _ S48 e48 => toD S48 (by rw [e48]; exact CF.pi) ?_ ?_
      · rw [hp, if_pos (Classical.not_not.mp z1)]
        rfl
      · rw [e48, pI_v]
        omega
    have p1 : p < n := hX.in z1
    rw [if_neg z1] at hp
    rw [e3]
    refine fun _ => k_at hX hC (by omega) ⟨⟨by omega, by omega⟩, fun h60 => ?_, fun h60 => ?_⟩
    rotate_left
    · -- a sign
      rw [if_pos h60] at hp
      refine k_txs hX hC hP hk hE (by omega) p1 (fun S2 g1 g2 => ?_)
      rcases g2 with ⟨u, q, hd, hP2, pq, qn⟩ | ⟨hd, hb⟩
      · rw [hd] at hp
        exact toB S2 E A _ k q d g1 hP2 hk hE pq qn (by omega) d1 hp
      · rw [hd] at hp
        exact toD S2 g1 hp hb
    rw [if_neg (fun z => z h60)] at hp
    rw [e3]
    refine fun _ => ⟨⟨by omega, by omega⟩, k_at hX hC (by omega) ⟨⟨by omega, by omega⟩, fun h47 => ?_, fun h47 => ?_⟩⟩
    rotate_left
    · -- an end tag
      have h47 := Classical.not_not.mp h47
      have l1n : p + 1 < n := hX.in (by omega)
      rw [if_pos h47, show ((k : Int)).toNat = k from Int.toNat_natCast _] at hp
      have hp : pX T = pF T (match etg T p (E.getD k e6) with | none => none | some q => if (E.getD k e6).2.2.1 < 0 then some ((E, A, V), q) else prs T f' (E, A, V) q (E.getD k e6).2.2.1 (d - 1)) := hp
      have wk := hP.2.2.2.2.2.1.2.2.1 k hk
      have wk4 : -1 ≤ (E.getD k e6).2.2.1 ∧ (E.getD k e6).2.2.1 < (k : Int) := ⟨wk.2.2.2.1, wk.2.2.2.2.1⟩
      refine k_et hX hC hP hk hE ⟨by omega, by omega⟩ (by omega) l1n (fun S2 g1 g2 => ?_)
      rcases g2 with ⟨q, hd, hP2, pq, qn⟩ | ⟨hd, hb⟩
      · rw [hd] at hp
        have hp : pX T = pF T (if (E.getD k e6).2.2.1 < 0 then some ((E, A, V), q) else prs T f' (E, A, V) q (E.getD k e6).2.2.1 (d - 1)) := hp
        by_cases c : (E.getD k e6).2.2.1 < 0
        · rw [if_pos c] at hp
          rw [show (E.getD k e6).2.2.1 = -1 by omega] at hP2
          exact toC S2 E A V q (d - 1) g1 hP2 (by omega) hE pq qn hp
        · rw [if_neg c] at hp
          rw [show (E.getD k e6).2.2.1 = (((E.getD k e6).2.2.1.toNat : Nat) : Int) by omega] at hP2 hp
          exact toB S2 E A V _ q (d - 1) g1 hP2 (by omega) hE pq qn (by omega) (by omega) hp
      · rw [hd] at hp
        exact toD S2 g1 hp hb
    rw [if_neg h47] at hp
    refine k_X9_comes hX hC e3 (by omega) pn (fun r hr => ?_)
    rw [cm_tl h60] at hr
    rcases hr with ⟨rfl, hcm⟩ | ⟨rfl, hcm⟩
    · refine ⟨⟨by decide, by decide⟩, fun z => absurd z (by decide), fun _ => ?_⟩
      rw [if_pos hcm] at hp
      have b4 := cm_b hX hcm (by decide) (by decide)
      have b4 : p + 1 + 3 ≤ n := b4
      refine k_com hX hC hP (by omega) (by omega) (fun S2 g1 g2 => ?_)
      rcases g2 with ⟨q, hd, hP2, pq, qn⟩ | ⟨hd, hb⟩
      · rw [hd] at hp
        exact toB S2 E A V k q d g1 hP2 hk hE pq qn (by omega) d1 hp
      · rw [hd] at hp
        exact toD S2 g1 hp hb
    rw [if_neg (by rw [hcm]; decide)] at hp
    refine ⟨⟨by decide, by decide⟩, fun _ => k_X9_comes_b hX hC e3 (by omega) pn (fun r hr => ?_), fun z => absurd rfl z⟩
    rw [cm_tl h60] at hr
    rcases hr with ⟨rfl, hcm2⟩ | ⟨rfl, hcm2⟩
    · refine ⟨⟨by decide, by decide⟩, fun z => absurd z (by decide), fun _ => ?_⟩
      rw [if_pos hcm2] at hp
      have b4 := cm_b hX hcm2 (by decide) (by decide)
      have b4 : p + 1 + 8 ≤ n := b4
      refine k_cda hX hC hP hk hE (by omega) (by omega) (fun S2 g1 g2 => ?_)
      rcases g2 with ⟨l, q, hd, hP2, pq, qn⟩ | ⟨hd, hb⟩
      · rw [hd] at hp
        exact toB S2 E A _ k q d g1 hP2 hk hE pq qn (by omega) d1 hp
      · rw [hd] at hp
        exact toD S2 g1 hp hb
    rw [if_neg (by rw [hcm2]; decide)] at hp
    refine ⟨⟨by decide, by decide⟩, fun _ => ?_, fun z => absurd rfl z⟩
    have full : (200 ≤ E.length ∨ 40 ≤ d) → wX9_firstWrong_193 l1 S' K (fun ml1 T1 => QJ T n S0 ml1 T1 ∧ mQ n T1 < mQ n S') := fun hf => by
      unfold wX9_firstWrong_193
      rw [e3]
      refine fun _ S2 e2 => toD S2 (by rw [e2]; exact CF.pi) ?_ ?_
      · rw [hp, if_pos hf]
        rfl
      · rw [e2, pI_v]
        omega
    unfold wX6_size
    rw [h16]
    refine fun _ => ⟨⟨by omega, by omega⟩, fun z => full (Or.inl (by omega)), fun z => ?_⟩
    rw [e5]
    refine fun _ => ⟨fun z2 => ?_, fun z2 => full (Or.inr (by omega))⟩
    rw [if_neg (by show ¬ (200 ≤ E.length ∨ 40 ≤ d); omega)] at hp
    refine k_start hX hC hP (by omega) ⟨by omega, by omega⟩ (by omega) (by omega) (by omega) p1 (fun S2 g => ?_)
    obtain ⟨g1, g2⟩ := g
    rcases g2 with ⟨s', q, b, hd, hP2, hl, pq, qn⟩ | ⟨hd, hb⟩
    · rw [hd] at hp
      cases b with
      | true =>
        rw [if_pos rfl, if_pos rfl] at hP2
        exact toB S2 s'.1 s'.2.1 s'.2.2 E.length q (d + 1) g1 hP2 (by omega) (by omega) (by omega) qn (by omega) (by omega) hp
      | false =>
        rw [if_neg (by decide), if_neg (by decide)] at hP2
        exact toB S2 s'.1 s'.2.1 s'.2.2 k q d g1 hP2 (by omega) (by omega) (by omega) qn (by omega) d1 hp
    · rw [hd] at hp
      exact toD S2 g1 hp hb
  · have e4 := hP.2.2.2.2.2.2.2.1
    have e6' := hP.2.2.2.2.2.2.2.2.2.1
    have out := k_214 hX hC0 hF (Or.inl ⟨E, A, V, p, d, hP, hE0, hE, by omega, pn, hp⟩) hK
    exact ⟨⟨by omega, by omega⟩, fun _ => out, fun _ _ => ⟨fun _ => out, fun _ _ => ⟨fun _ => out, fun z => absurd e4 z⟩⟩⟩
  · have out := k_214 hX hC0 hF (Or.inr ⟨hp, hb⟩) hK
    exact ⟨⟨by omega, by omega⟩, fun _ => out, fun _ _ => ⟨fun _ => out, fun z => absurd hb z⟩⟩
theorem k_xml (hX : TX T n) (hC : rTx S T n) (h16 : S.1 3 16 = 0) (h17 : S.1 3 17 = 0) (h41 : S.1 4 1 = 0) (e3 : S.1 220 3 = 0) (e4 : S.1 220 4 = -1) (e5 : S.1 220 5 = 0) (e6' : S.1 220 6 = -1) (hK : ∀ r S', CF S S' → XcO T n S' r → K r S') : wX9_firstWrong_11 S K := by
  have hn := hX.1
  have hB := rBl_b (p := 0) hX (by omega)
  have bt := tx_rng hX (show 0 ≤ rBl T 0 by omega)
  have p3 : (pI S 220 3 (rBl T 0)).1 220 3 = rBl T 0 := pI_v
  unfold wX9_firstWrong_11
  refine k_blanks hX hC e3 (Int.le_refl _) (by omega) ?_
  rw [p3]
  refine fun _ => k_at hX hC.pi (by omega) ⟨⟨by omega, by omega⟩, fun z => ?_, fun z => ?_⟩
  · have p1 : rBl T 0 < n := hX.in (by omega)
    have hP : PY T n (pI S 220 3 (rBl T 0)) ([], [], []) (rBl T 0) (-1) 0 := ⟨⟨⟨h16, fun k hk => absurd hk (Nat.not_lt_zero _)⟩, ⟨h17, fun k hk => absurd hk (Nat.not_lt_zero _)⟩, ⟨h41, fun k hk => absurd hk (Nat.not_lt_zero _)⟩⟩, fun k hk => absurd hk (Nat.not_lt_zero _), fun k hk => absurd hk (Nat.not_lt_zero _), fun k hk => absurd hk (Nat.not_lt_zero _), fun k hk => absurd hk (Nat.not_lt_zero _), ⟨by show ((0 : Nat) : Int) ≤ _; omega, by show 5 * ((0 : Nat) : Int) ≤ _; omega, fun k hk => absurd hk (Nat.not_lt_zero _), fun k hk => absurd hk (Nat.not_lt_zero _)⟩, p3, by rw [pI_j (by decide)]; exact e4, by rw [pI_j (by decide)]; exact e5, by rw [pI_j (by decide)]; exact e6', fun h => absurd h (by decide), fun k hk => absurd hk (Nat.not_lt_zero _)⟩
    have hp : pX T = match stg T ([], [], []) (rBl T 0) (-1) with | none => none | some r => if r.2.2 then pF T (prs T 3001 r.1 r.2.1 0 1) else if T (rBl T r.2.1) = -1 then some r.1 else none := by
      unfold pX
      rw [if_pos z]
      rfl
    refine k_start hX hC.pi hP (by decide) ⟨by decide, by decide⟩ (by decide) (by decide) (by omega) p1 (fun S2 g => k_42 hX hC (fun r S' f h => hK r S' f h) ?_)
    obtain ⟨g1, g2⟩ := g
    refine ⟨CF.pi.tr g1, ?_⟩
    rcases g2 with ⟨s', q, b, hd, hP2, hl, pq, qn⟩ | ⟨hd, hb⟩
    · rw [hd] at hp
      have hl : s'.1.length = 1 := hl
      cases b with
      | true =>
        rw [if_pos rfl, if_pos rfl] at hP2
        exact Or.inl ⟨s'.1, s'.2.1, s'.2.2, 0, 3001, q, 1, hP2, by omega, by omega, by decide, by omega, qn, by omega, by decide, by omega, hp⟩
      | false =>
        rw [if_neg (by decide), if_neg (by decide)] at hP2
        exact Or.inr (Or.inl ⟨s'.1, s'.2.1, s'.2.2, q, 0, hP2, by omega, by omega, by decide, by omega, qn, hp⟩)
    · rw [hd] at hp
      exact Or.inr (Or.inr ⟨by decide, by decide, hp, hb⟩)
  · rw [p3]
    refine fun hv => hK _ _ CF.pi (Or.inr ⟨?_, by omega, ⟨by omega, by omega⟩⟩)
    unfold pX
    rw [if_neg z]
end YF

