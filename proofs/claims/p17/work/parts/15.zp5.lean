/-! THE CLASS READS CLASSES: fields, a class -/
section FG
variable {S S' S2 : St} {K : Int → St → Prop} {T : Int → Int} {n p c f d at1 im rb x q : Int} {e : Env} {nm : List Int} {kd mk : Int}
theorem qK_n {u : Int} (h : ¬ qK u = -1) : ¬ u = -1 := fun q => h (by rw [q]; rfl)
theorem qM_n (h : qM T e q = 1) : ¬ T (q + 2) = -1 := fun z => by
  unfold qM at h
  rw [if_neg (by omega)] at h
  exact absurd h (by decide)
theorem qF_ok (hX : TX T n) (hV : PV e) (h0 : 0 ≤ p) (hn : p ≤ n) (hc : 1 ≤ eC e) (hf : nF e < 4) : (p ≤ (qF T e p).2.1 ∧ (qF T e p).2.1 ≤ n) ∧ ((qF T e p).2.2 = 0 ∨ ((qF T e p).2.2 = 1 ∧ PV (qF T e p).1 ∧ eC (qF T e p).1 = eC e ∧ nF (qF T e p).1 = nF e + 1)) := by
  have hq := qR_in hX hn
  have h8 := qR_8 (T := T) (p := p)
  unfold qF
  by_cases h1 : qR T p = []
  · rw [if_pos h1]
    exact ⟨⟨Int.le_refl _, hn⟩, Or.inl rfl⟩
  · rw [if_neg h1]
    obtain ⟨q, hqq⟩ : ∃ q, q = p + ((qR T p).length : Int) := ⟨_, rfl⟩
    rw [← hqq] at hq ⊢
    by_cases h2 : T q = 58
    · rw [if_pos h2]
      have h3 : q < n := hX.in (by omega)
      by_cases h4 : qK (T (q + 1)) = -1
      · rw [if_pos h4]
        exact ⟨⟨by show p ≤ q + 1; omega, by show q + 1 ≤ n; omega⟩, Or.inl rfl⟩
      · rw [if_neg h4]
        have h5 : q + 1 < n := hX.in (qK_n h4)
        have hm := qM_iv T e q
        have hk := qK_iv (T (q + 1))
        have h6 : q + 2 + qM T e q ≤ n := by
          by_cases z : qM T e q = 1
          · have : q + 2 < n := hX.in (qM_n z)
            omega
          · omega
        have hl : 1 ≤ (qR T p).length := List.length_pos_iff.mpr h1
        refine ⟨⟨by show p ≤ q + 2 + qM T e q; omega, h6⟩, Or.inr ⟨rfl, PV_AF hV hc hf hl h8 ⟨by omega, by omega⟩ hm (fun k1 k2 => ?_), eC_AF, ?_⟩⟩
        · unfold qM at k2
          by_cases z : (T (q + 2) = 64 ∧ qK (T (q + 1)) ≤ 1) ∨ (T (q + 2) = 42 ∧ qK (T (q + 1)) = 3 ∧ eI e (nC e) = -1)
          · rcases z with z | z
            · omega
            · exact z.2.2
          · rw [if_neg z] at k2
            exact absurd k2 (by decide)
        · show eF (eAF e _ _ _) (nC e) = _
          rw [eF_AF, if_pos rfl]
    · rw [if_neg h2]
      exact ⟨⟨by show p ≤ q; omega, hq⟩, Or.inl rfl⟩
theorem c_end (hX : TX T n) (hT : cTx S T n) (hP : cP S e) (hp : S.1 200 2 = p) (h0 : 0 ≤ p) (hK : ∀ S', Cq S S' → S'.1 200 2 = (qE T e p).2.1 → ((qE T e p).2.2 = 1 → cP S' (qE T e p).1) → K (qE T e p).2.2 S') : wX0_isClassRight_89 S K := by
  unfold qE at hK
  refine c_sk hX hT hp h0 (by decide) (fun h => ⟨⟨by decide, by decide⟩, ?_⟩) (fun h => ⟨⟨by decide, by decide⟩, ?_⟩)
  · rw [if_pos h] at hK
    exact hK _ ⟨fun a j _ q => if_neg q, fun _ _ => rfl⟩ rfl (fun _ => hP)
  · rw [if_neg h] at hK
    exact hK S Cq.rf hp (fun _ => hP)
theorem c_flds (hX : TX T n) (hT : cTx S T n) (hP : cP S e) (hV : PV e) (hp : S.1 200 2 = p) (h0 : 0 ≤ p) (hn : p ≤ n) (hc : 1 ≤ eC e) (hf : nF e = 0) (hK : ∀ S', Cq S S' → S'.1 200 2 = (qFs T 4 e p).2.1 → ((qFs T 4 e p).2.2 = 1 → cP S' (qFs T 4 e p).1) → K (qFs T 4 e p).2.2 S') : wX0_isClassRight_41 (nC e) 1 0 S K := by
  have hC : iv 0 5 (nC e) := by
    have := hV.1
    unfold nC
    exact ⟨by omega, by omega⟩
  refine ⟨fun l1 l2 l3 S' => l1 = nC e ∧ iv 0 4 l3 ∧ ∃ e' p', Cq S S' ∧ S'.1 200 2 = p' ∧ 0 ≤ p' ∧ p' ≤ n ∧ cP S' e' ∧ PV e' ∧ eC e' = eC e ∧ nF e' = l3 ∧ ((l2 = 1 ∧ l3 < 4 ∧ qFs T 4 e p = qFs T (4 - l3).toNat e' p') ∨ (l2 = 0 ∧ qFs T 4 e p = qE T e' p')), fun l1 l2 l3 S' => (4 - l3).toNat, ⟨rfl, ⟨by decide, by decide⟩, e, p, Cq.rf, hp, h0, hn, hP, hV, rfl, hf, Or.inl ⟨rfl, by decide, rfl⟩⟩, fun l1 l2 l3 S' hI => ?_⟩
  obtain ⟨i1, i2, e', p', i3, i4, i5, i5', i6, i7, i8, i9, i10⟩ := hI
  have ec : nC e' = nC e := by
    unfold nC
    rw [i8]
  have fin : qFs T 4 e p = qE T e' p' → wX0_isClassRight_89 S' K := fun z => by
    rw [z] at hK
    exact c_end hX (hT.cq i3) i6 i4 i5 (fun S2 f2 => hK S2 (i3.tr f2))
  refine ⟨⟨by omega, by omega⟩, fun h => ?_, fun h => ?_⟩
  · rcases i10 with ⟨-, z, -⟩ | ⟨-, z⟩
    · omega
    · exact fin z
  have g2 : rng l2 := by
    rcases i10 with ⟨z, -⟩ | ⟨z, -⟩ <;> exact ⟨by omega, by omega⟩
  refine ⟨g2, fun h2 => ?_, fun h2 => ⟨⟨by omega, by omega⟩, ?_⟩⟩
  · rcases i10 with ⟨z, -⟩ | ⟨-, z⟩
    · omega
    · exact fin z
  rcases i10 with ⟨-, h4, z⟩ | ⟨z, -⟩
  · have hs : (4 - l3).toNat = (4 - (l3 + 1)).toNat + 1 := by omega
    rw [hs] at z
    have ok := qF_ok hX i7 i5 i5' (by omega : 1 ≤ eC e') (by omega : nF e' < 4)
    have z2 : qFs T 4 e p = if (qF T e' p').2.2 = 0 then qF T e' p' else if (4 - (l3 + 1)).toNat ≠ 0 ∧ T (qF T e' p').2.1 = 44 then qFs T (4 - (l3 + 1)).toNat (qF T e' p').1 ((qF T e' p').2.1 + 1) else qE T (qF T e' p').1 (qF T e' p').2.1 := z
    clear z
    rw [i1, ← ec, ← i9]
    refine c_field hX (hT.cq i3) i6 i7 i4 i5 (by omega) (by omega) (fun S5 f5 p5 c5 => ?_)
    obtain ⟨ok1, ok2⟩ := ok
    have f6 := i3.tr f5
    rcases ok2 with ok2 | ⟨ok2, ok3, ok4, ok5⟩
    · rw [ok2]
      rw [if_pos ok2] at z2
      refine ⟨⟨by decide, by decide⟩, fun h3 => absurd rfl h3, fun _ => ?_⟩
      rw [z2, ok2] at hK
      exact hK S5 f6 p5 (fun h => absurd h (by decide))
    · have c6 := c5 ok2
      rw [ok2]
      rw [if_neg (by omega)] at z2
      refine ⟨⟨by decide, by decide⟩, fun _ => ⟨⟨by omega, by omega⟩, fun h3 => ?_, fun h3 => ?_⟩, fun h3 => absurd (by decide) h3⟩
      · rw [if_neg (fun y => y.1 (by omega))] at z2
        refine ⟨⟨by omega, ⟨by omega, by omega⟩, _, _, f6, p5, by omega, ok1.2, c6, ok3, by omega, by omega, Or.inr ⟨rfl, z2⟩⟩, by dsimp only; omega⟩
      · refine c_sk hX (hT.cq f6) p5 (by omega) (by decide) (fun h5 => ⟨⟨by decide, by decide⟩, fun h => absurd h (by decide), fun _ => ?_⟩) (fun h5 => ⟨⟨by decide, by decide⟩, fun _ => ?_, fun h => absurd rfl h⟩)
        · rw [if_pos ⟨by omega, h5⟩] at z2
          have hq : (qF T e' p').2.1 < n := hX.in (by omega)
          refine ⟨⟨by omega, ⟨by omega, by omega⟩, (qF T e' p').1, (qF T e' p').2.1 + 1, f6.tr ⟨fun a j _ q => if_neg q, fun _ _ => rfl⟩, rfl, by omega, by omega, c6, ok3, by omega, by omega, Or.inl ⟨rfl, by omega, ?_⟩⟩, by dsimp only; omega⟩
          rw [z2, i9]
        · rw [if_neg (fun y => h5 y.2)] at z2
          refine ⟨⟨by omega, ⟨by omega, by omega⟩, _, _, f6, p5, by omega, ok1.2, c6, ok3, by omega, by omega, Or.inr ⟨rfl, z2⟩⟩, by dsimp only; omega⟩
  · exact absurd z h2
/-- a class begins -/
theorem c_begC (hP : cP S e) (hV : PV e) (hc : eC e < 6) (hK : ∀ S', Cq S S' → S'.1 33 8 = eC e + 1 → S'.1 200 2 = S.1 200 2 → S'.2 34 = S.2 34 → S'.2 36 = S.2 36 → S'.2 37 = S.2 37 → (∀ j, S'.2 35 j = if j = eC e then 0 else S.2 35 j) → (∀ j, S'.2 38 j = if j = eC e then 0 else S.2 38 j) → (∀ j, S'.2 39 j = if j = eC e then -1 else S.2 39 j) → (∀ j, S'.2 40 j = if j = eC e then 0 else S.2 40 j) → (∀ j, S'.2 41 j = if j = eC e then 0 else S.2 41 j) → K 0 S') : wX4_beginClass S K := by
  have p1 := hP.1
  have v1 := hV.1
  unfold wX4_beginClass
  intro _
  rw [p1]
  refine ⟨fun _ => ⟨by omega, by omega, fun S1 h1 => ?_⟩, fun h => absurd hc h⟩
  have s1 : S1.1 = S.1 := by rw [h1]; rfl
  rw [s1, p1]
  refine fun _ => ⟨by omega, by omega, fun S2 h2 => ?_⟩
  have s2 : S2.1 = S.1 := by rw [h2]; exact s1
  rw [s2, p1]
  refine fun _ => ⟨by omega, by omega, fun S3 h3 => ?_⟩
  have s3 : S3.1 = S.1 := by rw [h3]; exact s2
  rw [s3, p1]
  refine fun _ => ⟨by omega, by omega, fun S4 h4 => ?_⟩
  have s4 : S4.1 = S.1 := by rw [h4]; exact s3
  rw [s4, p1]
  refine fun _ => ⟨by omega, by omega, fun S5 h5 => ?_⟩
  have s5 : S5.1 = S.1 := by rw [h5]; exact s4
  rw [s5, p1]
  refine fun _ => ⟨⟨by omega, by omega⟩, fun S6 h6 => ?_⟩
  have t6 : S6.2 = S5.2 := by rw [h6]; rfl
  have o : ∀ a, a ≠ 35 → a ≠ 38 → a ≠ 39 → a ≠ 40 → a ≠ 41 → S6.2 a = S.2 a := fun a w1 w2 w3 w4 w5 => by
    rw [t6, h5, (pA_ne a w5).2, h4, (pA_ne a w4).2, h3, (pA_ne a w3).2, h2, (pA_ne a w2).2, h1, (pA_ne a w1).2]
  have u6 : ∀ a j, S6.1 a j = if a = 33 ∧ j = 8 then eC e + 1 else S.1 a j := fun a j => by
    rw [h6, ← s5]
    rfl
  refine hK S6 ⟨fun a j q1 q2 => by rw [u6, if_neg q1], fun a q => o a (by omega) (by omega) (by omega) (by omega) (by omega)⟩ (by rw [u6, if_pos ⟨rfl, rfl⟩]) (by rw [u6, if_neg (by decide)]) (o 34 (by decide) (by decide) (by decide) (by decide) (by decide)) (o 36 (by decide) (by decide) (by decide) (by decide) (by decide)) (o 37 (by decide) (by decide) (by decide) (by decide) (by decide)) (fun j => ?_) (fun j => ?_) (fun j => ?_) (fun j => ?_) (fun j => ?_)
  · rw [t6, h5, (pA_ne 35 (by decide)).2, h4, (pA_ne 35 (by decide)).2, h3, (pA_ne 35 (by decide)).2, h2, (pA_ne 35 (by decide)).2, h1, pA_if]
  · rw [t6, h5, (pA_ne 38 (by decide)).2, h4, (pA_ne 38 (by decide)).2, h3, (pA_ne 38 (by decide)).2, h2, pA_if, h1, (pA_ne 38 (by decide)).2]
  · rw [t6, h5, (pA_ne 39 (by decide)).2, h4, (pA_ne 39 (by decide)).2, h3, pA_if, h2, (pA_ne 39 (by decide)).2, h1, (pA_ne 39 (by decide)).2]
  · rw [t6, h5, (pA_ne 40 (by decide)).2, h4, pA_if, h3, (pA_ne 40 (by decide)).2, h2, (pA_ne 40 (by decide)).2, h1, (pA_ne 40 (by decide)).2]
  · rw [t6, h5, pA_if, h4, (pA_ne 41 (by decide)).2, h3, (pA_ne 41 (by decide)).2, h2, (pA_ne 41 (by decide)).2, h1, (pA_ne 41 (by decide)).2]
theorem c_class (hX : TX T n) (hT : cTx S T n) (hP : cP S e) (hV : PV e) (hp : S.1 200 2 = p) (h0 : 0 ≤ p) (hn : p ≤ n) (hc : eC e < 6) (hK : ∀ S', Cq S S' → S'.1 200 2 = (qO T e p).2.1 → ((qO T e p).2.2 = 1 → cP S' (qO T e p).1) → K (qO T e p).2.2 S') : wX0_isClassRight (eC e) S K := by
  have v1 := hV.1
  obtain ⟨p1, p2, p3, p4⟩ := id hP
  have hqn := qR_in hX hn
  have h8 := qR_8 (T := T) (p := p)
  unfold wX0_isClassRight
  intro _
  refine c_begC hP hV hc (fun S1 f1 b33 b200 b34 b36 b37 b35 b38 b39 b40 b41 => ?_)
  refine c_name hX (hT.cq f1) (b200.trans hp) h0 ⟨by omega, by omega⟩ (by rw [b35, if_pos rfl]) (fun hr => ⟨⟨by decide, by decide⟩, fun _ => ?_, fun h => absurd rfl h⟩) (fun S2 p2' l2 q2 r2 w2 hr => ⟨⟨by decide, by decide⟩, fun h => absurd h (by decide), fun _ => ?_⟩)
  · have eO1 : qO T e p = (e, p, 0) := by
      unfold qO
      rw [if_pos hr]
    rw [eO1] at hK
    exact hK S1 f1 (b200.trans hp) (fun h => absurd (show (0 : Int) = 1 from h) (by decide))
  have f2 : Cq S S2 := f1.tr ⟨fun a j _ q => p2' a j q, fun a q => l2.1 a (by omega) (by omega)⟩
  obtain ⟨q, hq⟩ : ∃ q, q = p + ((qR T p).length : Int) := ⟨_, rfl⟩
  rw [← hq] at q2 hqn
  have eO1 : qO T e p = if T q = 40 then (if T (q + 1) = 41 then (eAC e (qR T p), q + 2, 1) else qFs T 4 (eAC e (qR T p)) (q + 1)) else (e, q, 0) := by
    unfold qO
    rw [if_neg hr, hq]
  have hl : 1 ≤ (qR T p).length := List.length_pos_iff.mpr hr
  have V2 : PV (eAC e (qR T p)) := PV_AC hV hc hl h8
  have P2 : cP S2 (eAC e (qR T p)) := by
    refine ⟨(p2' 33 8 (by decide)).trans b33, fun c hc' => ?_, fun c f hf => ?_, fun k hk => ?_⟩
    · rw [eF_AC, eI_AC, l2.1 38 (by decide) (by decide), l2.1 39 (by decide) (by decide), l2.1 41 (by decide) (by decide), b38, b39, b41]
      unfold RB
      rw [l2.1 40 (by decide) (by decide), b40]
      by_cases z : c = eC e
      · rw [if_pos z, if_pos z, if_pos z, if_pos z, if_pos z, if_pos z]
        refine ⟨rfl, rfl, rfl, ⟨by decide, by decide⟩, fun g g1 g2 => ?_⟩
        rw [eF_AC, if_pos z]
        have := bits0 ⟨g.toNat, by omega⟩
        dsimp only at this
        rw [show ((g.toNat : Nat) : Int) = g by omega] at this
        exact ⟨fun h => absurd this h, fun h => absurd h.1 (by omega)⟩
      · rw [if_neg z, if_neg z, if_neg z, if_neg z, if_neg z, if_neg z]
        obtain ⟨a1, a2, a3, a4, a5⟩ := p2 c ((okC_AC hc').resolve_left z)
        refine ⟨a1, a2, a3, a4, fun g g1 g2 => ?_⟩
        rw [eF_AC, if_neg z, eD_AC]
        exact a5 g g1 g2
    · rw [eD_AC, eM_AC, l2.1 36 (by decide) (by decide), l2.1 37 (by decide) (by decide), b36, b37]
      exact p3 c f (okF_AC hf).1
    · rw [eL_AC]
      rcases okN_AC hV hc hk with z | ⟨z, z2⟩
      · rw [if_pos z, z]
        exact ⟨w2, r2⟩
      · have z3 := okN_lt hV z
        obtain ⟨a1, a2⟩ := p4 k z
        have a3 : S1.2 35 k = S.2 35 k := by rw [b35, if_neg z2]
        rw [if_neg z2, if_neg (by omega), l2.2.1 k z2, a3]
        refine ⟨a1, ?_⟩
        rw [l2.row z2 (by rw [a3]; exact a1), ← a2]
        unfold cRow
        rw [a3, b34]
  refine c_sk hX (hT.cq f2) q2 (by omega) (by decide) (fun h3 => ⟨⟨by decide, by decide⟩, fun _ => ?_, fun h4 => absurd (by decide) h4⟩) (fun h3 => ⟨⟨by decide, by decide⟩, fun h4 => absurd rfl h4, fun _ => ?_⟩)
  · rw [if_pos h3] at eO1
    have h4 : q < n := hX.in (by omega)
    have f3 : Cq S (pI S2 200 2 (q + 1)) := f2.tr ⟨fun a j _ q => if_neg q, fun _ _ => rfl⟩
    refine c_sk hX (hT.cq f3) (p := q + 1) rfl (by omega) (by decide) (fun h5 => ⟨⟨by decide, by decide⟩, fun h => absurd h (by decide), fun _ => ?_⟩) (fun h5 => ⟨⟨by decide, by decide⟩, fun _ => ?_, fun h => absurd rfl h⟩)
    · rw [if_pos h5] at eO1
      rw [eO1] at hK
      refine hK _ (f3.tr ⟨fun a j _ q => if_neg q, fun _ _ => rfl⟩) ?_ (fun _ => P2)
      show q + 1 + 1 = q + 2
      omega
    · rw [if_neg h5] at eO1
      rw [eO1] at hK
      have ec : nC (eAC e (qR T p)) = eC e := by
        show eC e + 1 - 1 = eC e
        omega
      rw [← ec]
      refine c_flds (p := q + 1) hX (hT.cq f3) P2 V2 rfl (by omega) (by omega) ?_ ?_ (fun S4 f4 => hK S4 (f3.tr f4))
      · rw [eC_AC]
        omega
      · show eF (eAC e (qR T p)) (nC (eAC e (qR T p))) = 0
        rw [ec, eF_AC, if_pos rfl]
  · rw [if_neg h3] at eO1
    rw [eO1] at hK
    exact hK S2 f2 q2 (fun h => absurd (show (0 : Int) = 1 from h) (by decide))
end FG

