/-! READING XML: the model's tags -/
section XD
variable {S : St} {K : Int → St → Prop} {T : Int → Int} {n p u o : Int} {V : List (Int × Int)} {A : List Xa} {L E : List Xe} {e : Xe}
theorem n_bt {par a2 dp : Int} (hX : TX T n) (hD : dTx S T n) (hM : mX S (E, A, V)) (hO : mO S T E) (hw : WX n (E, A, V) p) (hb : S.1 54 59 = -2) (hl : E.length < 200) (hd : ¬ dp = 40) (p0 : 0 ≤ p) (p1 : p < n) (ha : (par = -1 ∧ a2 = -2) ∨ (0 ≤ par ∧ a2 = par)) (hpar : par < E.length) (hK : ∀ r S', BtO T n p S S' E.length (stg T (E, A, V) p par) r → K r S') : wX11_beginTag p a2 dp S K := by
  have hn := hX.1
  obtain ⟨⟨m1, m2⟩, ⟨a1, aa⟩, hV⟩ := hM
  obtain ⟨w1, w2, w3, w4⟩ := hw
  have m1 : S.1 54 43 = E.length := m1
  have a1 : S.1 54 51 = A.length := a1
  have w1 : (V.length : Int) ≤ p := w1
  have w2 : 5 * (A.length : Int) ≤ p := w2
  unfold wX11_beginTag
  intro _ _ _ x1 e1
  subst e1
  have b1 := tx_rng hX (show 0 ≤ p + 1 by omega)
  refine ⟨⟨by omega, by omega⟩, n_doc hX hD (by omega) ⟨⟨by omega, by omega⟩, n_nBg (fun r hr => ?_)⟩⟩
  rcases hr with ⟨rfl, hg⟩ | ⟨rfl, hg⟩
  · rw [m1]
    refine ⟨⟨by decide, by decide⟩, fun _ _ => ⟨fun z => absurd z (by omega), fun _ => ⟨fun _ => ⟨⟨by omega, by omega⟩, fun S13 e13 => ⟨by omega, by omega, ⟨by omega, by omega⟩, fun S16 e16 => ⟨by omega, by omega, ⟨by omega, by omega⟩, fun S19 e19 => ?_⟩⟩⟩, fun z => absurd hd z⟩⟩, fun z => absurd (by decide) z⟩
    have d19 : dTx S19 T n := hD.mv (by rw [e19, e16, e13]; rfl) (by rw [e19, e16, e13, (pA_ne 84 (by decide)).2, (pA_ne 84 (by decide)).2]; rfl)
    refine n_names hX d19 (by omega) (by omega) ?_
    have pn : p + 1 < n := Int.lt_of_not_ge (fun z => by
      have := hX.2.2 _ z
      omega)
    have hN := rNm_b hX (by omega) (show nIn (T (p + 1)) by omega)
    obtain ⟨to, hto⟩ : ∃ to, to = rNm T (p + 1) := ⟨_, rfl⟩
    rw [← hto] at hN ⊢
    have a86 : S19.2 86 E.length = p + 1 := by rw [e19, pA_if, if_pos rfl]
    rw [a86]
    refine ⟨by omega, by omega, fun _ => ⟨by omega, by omega, ⟨by omega, by omega⟩, fun S26 e26 => ⟨by omega, by omega, ⟨by omega, by omega⟩, fun S29 e29 => ⟨by omega, by omega, fun S32 e32 => ?_⟩⟩⟩⟩
    have f43 : S32.1 54 43 = (E.length : Int) + 1 := by rw [e32, e29, e26, e19, e16, e13]; rfl
    have f1 : ∀ j, j ≠ 43 → S32.1 54 j = S.1 54 j := fun j hj => by
      rw [e32, e29, e26, e19, e16, e13]
      exact if_neg (fun z => hj z.2)
    have f85 : ∀ y, S32.2 85 y = if y = (E.length : Int) then p else S.2 85 y := fun y => by
      rw [e32, (pA_ne 85 (by decide)).2, e29, (pA_ne 85 (by decide)).2, e26, (pA_ne 85 (by decide)).2, e19, (pA_ne 85 (by decide)).2, e16, pA_if, e13]
      rfl
    have f86 : ∀ y, S32.2 86 y = if y = (E.length : Int) then p + 1 else S.2 86 y := fun y => by
      rw [e32, (pA_ne 86 (by decide)).2, e29, (pA_ne 86 (by decide)).2, e26, (pA_ne 86 (by decide)).2, e19, pA_if, e16, (pA_ne 86 (by decide)).2, e13]
      rfl
    have f87 : ∀ y, S32.2 87 y = if y = (E.length : Int) then to - (p + 1) else S.2 87 y := fun y => by
      rw [e32, (pA_ne 87 (by decide)).2, e29, (pA_ne 87 (by decide)).2, e26, pA_if, e19, (pA_ne 87 (by decide)).2, e16, (pA_ne 87 (by decide)).2, e13]
      rfl
    have f88 : ∀ y, S32.2 88 y = if y = (E.length : Int) then a2 else S.2 88 y := fun y => by
      rw [e32, (pA_ne 88 (by decide)).2, e29, pA_if, e26, (pA_ne 88 (by decide)).2, e19, (pA_ne 88 (by decide)).2, e16, (pA_ne 88 (by decide)).2, e13]
      rfl
    have f89 : ∀ y, S32.2 89 y = if y = (E.length : Int) then 1 else S.2 89 y := fun y => by
      rw [e32, pA_if, e29, (pA_ne 89 (by decide)).2, e26, (pA_ne 89 (by decide)).2, e19, (pA_ne 89 (by decide)).2, e16, (pA_ne 89 (by decide)).2, e13]
      rfl
    have f2 : ∀ k, k ≠ 85 → k ≠ 86 → k ≠ 87 → k ≠ 88 → k ≠ 89 → S32.2 k = S.2 k := fun k k1 k2 k3 k4 k5 => by
      rw [e32, (pA_ne k k5).2, e29, (pA_ne k k4).2, e26, (pA_ne k k3).2, e19, (pA_ne k k2).2, e16, (pA_ne k k1).2, e13]
      rfl
    clear e13 e16 e19 e26 e29 e32 a86 d19
    refine ⟨fun l2 l4 l5 l6 S' => l2 = a2 ∧ l4 = to ∧ l5 = E.length ∧ 0 ≤ l6 ∧ l6 ≤ E.length ∧ S'.1 = S32.1 ∧ (∀ k, k ≠ 89 → S'.2 k = S32.2 k) ∧ ∀ y, S'.2 89 y = if y = (E.length : Int) then ocn T (E ++ [(p, to, par, (A.length : Int), 0, 0)]) E.length l6.toNat else S.2 89 y, fun l2 l4 l5 l6 S' => ((E.length : Int) - l6).toNat, ⟨rfl, rfl, rfl, by decide, by omega, rfl, fun _ _ => rfl, f89⟩, ?_⟩
    rintro l2 l4 l5 l6 S' ⟨rfl, rfl, rfl, i0, i1, i2, i3, i4⟩
    have hD' : dTx S' T n := hD.mv (by rw [i2]; exact f1 41 (by decide)) (by rw [i3 84 (by decide)]; exact f2 84 (by decide) (by decide) (by decide) (by decide) (by decide))
    have ob := ocn_b (T := T) (E := E ++ [(p, l4, par, (A.length : Int), 0, 0)]) (k := E.length) l6.toNat
    refine ⟨⟨by omega, by omega⟩, ⟨by omega, by omega⟩, fun q _ => ⟨by omega, by omega, fun S6 e6' => ⟨by omega, by omega, fun S8 e8 => ?_⟩⟩, fun q => ?_⟩
    · -- behind the counting
      have l6e : l6 = E.length := by omega
      have g1 : S8.1 = S32.1 := by rw [e8, e6']; exact i2
      have g90 : ∀ y, S8.2 90 y = if y = (E.length : Int) then (A.length : Int) else S.2 90 y := fun y => by
        rw [e8, (pA_ne 90 (by decide)).2, e6', pA_if, i3 90 (by decide), f2 90 (by decide) (by decide) (by decide) (by decide) (by decide), i2, f1 51 (by decide), a1]
      have g91 : ∀ y, S8.2 91 y = if y = (E.length : Int) then 0 else S.2 91 y := fun y => by
        rw [e8, pA_if, e6', (pA_ne 91 (by decide)).2, i3 91 (by decide), f2 91 (by decide) (by decide) (by decide) (by decide) (by decide)]
      have g2 : ∀ k, k ≠ 90 → k ≠ 91 → S8.2 k = S'.2 k := fun k k1 k2 => by
        rw [e8, (pA_ne k k2).2, e6', (pA_ne k k1).2]
      have g3 : ∀ k, k ≠ 85 → k ≠ 86 → k ≠ 87 → k ≠ 88 → k ≠ 89 → k ≠ 90 → k ≠ 91 → S8.2 k = S.2 k := fun k k1 k2 k3 k4 k5 k6 k7 => by
        rw [g2 k k6 k7, i3 k k5, f2 k k1 k2 k3 k4 k5]
      have hP : PF S S8 := ⟨fun j q1 _ _ _ _ => by rw [g1]; exact f1 j q1, fun k q => g3 k (by omega) (by omega) (by omega) (by omega) (by omega) (by omega) (by omega)⟩
      have hlen := len1 (L := E) (e := ((p, l4, par, (A.length : Int), 0, 0) : Xe))
      have hm8 : mX S8 (E ++ [(p, l4, par, (A.length : Int), 0, 0)], A, V) := by
        refine ⟨⟨?_, fun k hk => ?_⟩, ⟨?_, fun k hk => ?_⟩, ?_⟩
        · show S8.1 54 43 = ((E ++ [(p, l4, par, (A.length : Int), 0, 0)]).length : Int)
          rw [g1, f43, hlen]
          rfl
        · have hk : k < (E ++ [((p, l4, par, (A.length : Int), 0, 0) : Xe)]).length := hk
          rw [hlen] at hk
          rw [g2 85 (by decide) (by decide), g2 86 (by decide) (by decide), g2 87 (by decide) (by decide), g2 88 (by decide) (by decide), i3 85 (by decide), i3 86 (by decide), i3 87 (by decide), i3 88 (by decide), f85, f86, f87, f88, g90, g91]
          show _ = ((E ++ [((p, l4, par, (A.length : Int), 0, 0) : Xe)]).getD k e6).1 ∧ _ = ((E ++ [((p, l4, par, (A.length : Int), 0, 0) : Xe)]).getD k e6).1 + 1 ∧ _ = ((E ++ [((p, l4, par, (A.length : Int), 0, 0) : Xe)]).getD k e6).2.1 - (((E ++ [((p, l4, par, (A.length : Int), 0, 0) : Xe)]).getD k e6).1 + 1) ∧ _ = (if ((E ++ [((p, l4, par, (A.length : Int), 0, 0) : Xe)]).getD k e6).2.2.1 < 0 then -2 else ((E ++ [((p, l4, par, (A.length : Int), 0, 0) : Xe)]).getD k e6).2.2.1) ∧ _ = ((E ++ [((p, l4, par, (A.length : Int), 0, 0) : Xe)]).getD k e6).2.2.2.1 ∧ _ = ((E ++ [((p, l4, par, (A.length : Int), 0, 0) : Xe)]).getD k e6).2.2.2.2.1
          by_cases c : k = E.length
          · rw [gD_r c, if_pos (show (k : Int) = E.length by omega), if_pos (show (k : Int) = E.length by omega), if_pos (show (k : Int) = E.length by omega), if_pos (show (k : Int) = E.length by omega), if_pos (show (k : Int) = E.length by omega), if_pos (show (k : Int) = E.length by omega)]
            refine ⟨rfl, rfl, rfl, ?_, rfl, rfl⟩
            show l2 = if par < 0 then -2 else par
            rcases ha with h | h
            · rw [if_pos (by omega)]
              exact h.2
            · rw [if_neg (by omega)]
              exact h.2
          · rw [gD_l (by omega), if_neg (show ¬ (k : Int) = E.length by omega), if_neg (show ¬ (k : Int) = E.length by omega), if_neg (show ¬ (k : Int) = E.length by omega), if_neg (show ¬ (k : Int) = E.length by omega), if_neg (show ¬ (k : Int) = E.length by omega), if_neg (show ¬ (k : Int) = E.length by omega)]
            exact m2 k (by show k < E.length; omega)
        · show S8.1 54 51 = (A.length : Int)
          rw [g1]
          exact (f1 51 (by decide)).trans a1
        · rw [g3 92 (by decide) (by decide) (by decide) (by decide) (by decide) (by decide) (by decide), g3 93 (by decide) (by decide) (by decide) (by decide) (by decide) (by decide) (by decide), g3 94 (by decide) (by decide) (by decide) (by decide) (by decide) (by decide) (by decide), g3 95 (by decide) (by decide) (by decide) (by decide) (by decide) (by decide) (by decide)]
          exact aa k hk
        · exact hV.mv (by rw [g1]; exact f1 56 (by decide)) (g3 96 (by decide) (by decide) (by decide) (by decide) (by decide) (by decide) (by decide)) (g3 97 (by decide) (by decide) (by decide) (by decide) (by decide) (by decide) (by decide))
      have hw8 : WX n (E ++ [(p, l4, par, (A.length : Int), 0, 0)], A, V) l4 := by
        refine ⟨by show (V.length : Int) ≤ l4; omega, by show 5 * (A.length : Int) ≤ l4; omega, fun k hk => ?_, w4⟩
        have hk : k < (E ++ [((p, l4, par, (A.length : Int), 0, 0) : Xe)]).length := hk
        rw [hlen] at hk
        show 0 ≤ ((E ++ [((p, l4, par, (A.length : Int), 0, 0) : Xe)]).getD k e6).1 ∧ ((E ++ [((p, l4, par, (A.length : Int), 0, 0) : Xe)]).getD k e6).1 + 1 < ((E ++ [((p, l4, par, (A.length : Int), 0, 0) : Xe)]).getD k e6).2.1 ∧ ((E ++ [((p, l4, par, (A.length : Int), 0, 0) : Xe)]).getD k e6).2.1 ≤ n ∧ -1 ≤ ((E ++ [((p, l4, par, (A.length : Int), 0, 0) : Xe)]).getD k e6).2.2.1 ∧ ((E ++ [((p, l4, par, (A.length : Int), 0, 0) : Xe)]).getD k e6).2.2.1 < k ∧ 0 ≤ ((E ++ [((p, l4, par, (A.length : Int), 0, 0) : Xe)]).getD k e6).2.2.2.1 ∧ 0 ≤ ((E ++ [((p, l4, par, (A.length : Int), 0, 0) : Xe)]).getD k e6).2.2.2.2.1 ∧ ((E ++ [((p, l4, par, (A.length : Int), 0, 0) : Xe)]).getD k e6).2.2.2.1 + ((E ++ [((p, l4, par, (A.length : Int), 0, 0) : Xe)]).getD k e6).2.2.2.2.1 ≤ A.length
        by_cases c : k = E.length
        · rw [gD_r c]
          exact ⟨p0, hN.1, hN.2, by show -1 ≤ par; omega, by show par < k; omega, by show (0 : Int) ≤ A.length; omega, Int.le_refl _, by show (A.length : Int) + 0 ≤ A.length; omega⟩
        · rw [gD_l (by omega)]
          exact w3 k (by show k < E.length; omega)
      have h59 : S8.1 54 59 = -2 := by rw [g1]; exact (f1 59 (by decide)).trans hb
      refine n_234 (L := E) (e := (p, l4, par, (A.length : Int), 0, 0)) hX (hD.pf hP) hm8 hw8 h59 hl (by omega) hN.2 (by show (A.length : Int) + 0 = A.length; omega) (fun r S2 h1 h2 h3 => ?_)
      rcases h3 with ⟨e', A', V', ax, eqs, m', w', pr, rn, b'⟩ | ⟨ax, b', b2, b3⟩
      · have ax : ats T A.length 3001 (E ++ [(p, l4, par, (A.length : Int), 0, 0)], A, V) l4 = some ((E ++ [e'], A', V'), r) := ax
        refine n_302 (S0 := S) (p := p) hX (hP.tr h1) (hD.pf (hP.tr h1)) m' w' (fun k hk => ?_) b' (by omega) p0 rn (fun r' S3 h3 => hK r' S3 ?_)
        · rw [len1] at hk
          rw [h2, g2 89 (by decide) (by decide), i4]
          by_cases c : k = E.length
          · rw [if_pos (by omega), c, show l6.toNat = E.length by omega]
            refine ocn_cg (fun i hi => ?_) E.length (Nat.le_refl _)
            by_cases ci : i = E.length
            · rw [gD_r ci, gD_r ci]
              exact ⟨eqs.1.symm, eqs.2.1.symm, eqs.2.2.1.symm⟩
            · rw [gD_l (by omega), gD_l (by omega)]
              exact ⟨rfl, rfl, rfl⟩
          · rw [if_neg (by omega)]
            refine (hO k (by omega)).trans (ocn_cg (fun i hi => ?_) k (Nat.le_refl _))
            rw [gD_l (by omega)]
            exact ⟨rfl, rfl, rfl⟩
        · have hs : stg T (E, A, V) p par = (if T r = 62 then some ((up2 (E ++ [e']) V'.length, A', V'), r + 1, true) else if T r = 47 ∧ T (r + 1) = 62 then some ((up2 (E ++ [e']) V'.length, A', V'), r + 2, false) else none) := by
            unfold stg
            rw [if_pos hg, ← hto]
            show (match ats T A.length 3001 (E ++ [(p, l4, par, (A.length : Int), 0, 0)], A, V) l4 with | none => none | some r => _) = _
            rw [ax]
          rw [hs]
          exact h3
      · have ax : ats T A.length 3001 (E ++ [(p, l4, par, (A.length : Int), 0, 0)], A, V) l4 = none := ax
        have hs : stg T (E, A, V) p par = none := by
          unfold stg
          rw [if_pos hg, ← hto]
          show (match ats T A.length 3001 (E ++ [(p, l4, par, (A.length : Int), 0, 0)], A, V) l4 with | none => none | some r => _) = _
          rw [ax]
        unfold wX11_beginTag_302
        refine fun _ => ⟨fun z => absurd z b', fun _ => hK r S2 ⟨hP.tr h1, Or.inr ⟨hs, b', b2, by omega, by omega⟩⟩⟩
    · -- one more of the same name
      have mk := m2 l6.toNat (by show l6.toNat < E.length; omega)
      have wk := w3 l6.toNat (by show l6.toNat < E.length; omega)
      have mk : S.2 85 (l6.toNat : Int) = (E.getD l6.toNat e6).1 ∧ S.2 86 (l6.toNat : Int) = (E.getD l6.toNat e6).1 + 1 ∧ S.2 87 (l6.toNat : Int) = (E.getD l6.toNat e6).2.1 - ((E.getD l6.toNat e6).1 + 1) ∧ S.2 88 (l6.toNat : Int) = (if (E.getD l6.toNat e6).2.2.1 < 0 then -2 else (E.getD l6.toNat e6).2.2.1) ∧ _ := mk
      have wk : 0 ≤ (E.getD l6.toNat e6).1 ∧ (E.getD l6.toNat e6).1 + 1 < (E.getD l6.toNat e6).2.1 ∧ (E.getD l6.toNat e6).2.1 ≤ n ∧ -1 ≤ (E.getD l6.toNat e6).2.2.1 ∧ (E.getD l6.toNat e6).2.2.1 < (l6.toNat : Int) ∧ _ := wk
      rw [show ((l6.toNat : Nat) : Int) = l6 by omega] at mk wk
      have hoc : ocn T (E ++ [(p, l4, par, (A.length : Int), 0, 0)]) E.length (l6.toNat + 1) = ocn T (E ++ [(p, l4, par, (A.length : Int), 0, 0)]) E.length l6.toNat + (if (E.getD l6.toNat e6).2.2.1 = par ∧ nQ T ((E.getD l6.toNat e6).1 + 1) (E.getD l6.toNat e6).2.1 (p + 1) l4 = true then 1 else 0) := by
        show ocn T (E ++ [(p, l4, par, (A.length : Int), 0, 0)]) E.length l6.toNat + (if ((E ++ [((p, l4, par, (A.length : Int), 0, 0) : Xe)]).getD l6.toNat e6).2.2.1 = ((E ++ [((p, l4, par, (A.length : Int), 0, 0) : Xe)]).getD E.length e6).2.2.1 ∧ nQ T (((E ++ [((p, l4, par, (A.length : Int), 0, 0) : Xe)]).getD l6.toNat e6).1 + 1) ((E ++ [((p, l4, par, (A.length : Int), 0, 0) : Xe)]).getD l6.toNat e6).2.1 (((E ++ [((p, l4, par, (A.length : Int), 0, 0) : Xe)]).getD E.length e6).1 + 1) ((E ++ [((p, l4, par, (A.length : Int), 0, 0) : Xe)]).getD E.length e6).2.1 = true then 1 else 0) = _
        rw [gD_l (by omega), gD_r rfl]
      have ob2 := ocn_b (T := T) (E := E ++ [(p, l4, par, (A.length : Int), 0, 0)]) (k := E.length) (l6.toNat + 1)
      have fin : ∀ c, c = ocn T (E ++ [(p, l4, par, (A.length : Int), 0, 0)]) E.length (l6.toNat + 1) → wX11_beginTag_205 l2 l4 (E.length : Int) l6 c (E.length : Int) S' K (fun ml2 ml4 ml5 ml6 T1 => (ml2 = l2 ∧ ml4 = l4 ∧ ml5 = E.length ∧ 0 ≤ ml6 ∧ ml6 ≤ E.length ∧ T1.1 = S32.1 ∧ (∀ k, k ≠ 89 → T1.2 k = S32.2 k) ∧ ∀ y, T1.2 89 y = if y = (E.length : Int) then ocn T (E ++ [(p, l4, par, (A.length : Int), 0, 0)]) E.length ml6.toNat else S.2 89 y) ∧ ((E.length : Int) - ml6).toNat < ((E.length : Int) - l6).toNat) := fun c hc => by
        refine ⟨by omega, by omega, ⟨by omega, by omega⟩, fun S2 e2 => ⟨⟨rfl, rfl, rfl, by omega, by omega, by rw [e2]; exact i2, fun k hk => by rw [e2, (pA_ne k hk).2]; exact i3 k hk, fun y => ?_⟩, by omega⟩⟩
        rw [e2, pA_if]
        by_cases c1 : y = (E.length : Int)
        · rw [if_pos c1, if_pos c1, hc, show (l6 + 1).toNat = l6.toNat + 1 by omega]
        · rw [if_neg c1, if_neg c1, i4, if_neg c1]
      have e89 : S'.2 89 (E.length : Int) = ocn T (E ++ [(p, l4, par, (A.length : Int), 0, 0)]) E.length l6.toNat := by rw [i4, if_pos rfl]
      have e88 : S'.2 88 l6 = (if (E.getD l6.toNat e6).2.2.1 < 0 then -2 else (E.getD l6.toNat e6).2.2.1) := by rw [i3 88 (by decide), f88, if_neg (by omega)]; exact mk.2.2.2.1
      have pe : S'.2 88 l6 = l2 ↔ (E.getD l6.toNat e6).2.2.1 = par := by
        rw [e88]
        rcases ha with h | h <;> (split <;> omega)
      have no : ¬ ((E.getD l6.toNat e6).2.2.1 = par ∧ nQ T ((E.getD l6.toNat e6).1 + 1) (E.getD l6.toNat e6).2.1 (p + 1) l4 = true) → wX11_beginTag_198 l2 l4 (E.length : Int) l6 (E.length : Int) S' K (fun ml2 ml4 ml5 ml6 T1 => (ml2 = l2 ∧ ml4 = l4 ∧ ml5 = E.length ∧ 0 ≤ ml6 ∧ ml6 ≤ E.length ∧ T1.1 = S32.1 ∧ (∀ k, k ≠ 89 → T1.2 k = S32.2 k) ∧ ∀ y, T1.2 89 y = if y = (E.length : Int) then ocn T (E ++ [(p, l4, par, (A.length : Int), 0, 0)]) E.length ml6.toNat else S.2 89 y) ∧ ((E.length : Int) - ml6).toNat < ((E.length : Int) - l6).toNat) := fun h => by
        refine ⟨by omega, by omega, fun _ => fin _ ?_⟩
        rw [e89, hoc, if_neg h]
        omega
      have e86 : S'.2 86 l6 = (E.getD l6.toNat e6).1 + 1 := by rw [i3 86 (by decide), f86, if_neg (by omega)]; exact mk.2.1
      have e87 : S'.2 87 l6 = (E.getD l6.toNat e6).2.1 - ((E.getD l6.toNat e6).1 + 1) := by rw [i3 87 (by decide), f87, if_neg (by omega)]; exact mk.2.2.1
      have e86' : S'.2 86 (E.length : Int) = p + 1 := by rw [i3 86 (by decide), f86, if_pos rfl]
      have e87' : S'.2 87 (E.length : Int) = l4 - (p + 1) := by rw [i3 87 (by decide), f87, if_pos rfl]
      refine ⟨by omega, by omega, fun _ => ⟨⟨by omega, by omega⟩, fun z => no (fun w => z (pe.mpr w.1)), fun z => ?_⟩⟩
      rw [e86, e87, e86', e87']
      refine ⟨by omega, by omega, fun _ => ⟨by omega, by omega, fun _ => ⟨by omega, by omega, fun _ => ⟨by omega, by omega, fun _ => n_sameN hX hD' (by omega) (by omega) wk.2.2.1 (by omega) (by omega) hN.2 (fun r hr => ?_)⟩⟩⟩⟩
      rcases hr with ⟨rfl, h⟩ | ⟨rfl, h⟩
      · refine ⟨⟨by decide, by decide⟩, fun w => absurd w (by decide), fun _ => ⟨by omega, by omega, fun _ => fin _ ?_⟩⟩
        rw [e89, hoc, if_pos ⟨pe.mp (Classical.not_not.mp z), h⟩]
      · exact ⟨⟨by decide, by decide⟩, fun _ => no (fun w => by rw [h] at w; cases w.2), fun w => absurd rfl w⟩
  · refine ⟨⟨by decide, by decide⟩, fun z => absurd rfl z, fun _ => n_fail (by rw [hb]; exact ⟨by decide, by decide⟩) ⟨by omega, by omega⟩ (fun S2 f1 f2 f3 f4 f5 => hK (p + 1) S2 ⟨f1.pf, Or.inr ⟨?_, f4, f5, by omega, by omega⟩⟩)⟩
    unfold stg
    rw [if_neg hg]
end XD

