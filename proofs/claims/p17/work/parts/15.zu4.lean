/-! READING XML: the class reads an attribute -/
theorem cXv.mv {S S' : St} {V : List (Int × Int)} (h : cXv S V) (h1 : S'.1 4 1 = S.1 4 1) (h2 : S'.2 4 = S.2 4) : cXv S' V := by
  unfold cXv at h ⊢
  rw [h1, h2]
  exact h
theorem cXe.mv {S S' : St} {E : List Xe} (h : cXe S E) (h1 : S'.1 3 16 = S.1 3 16) (h2 : ∀ a, 6 ≤ a → a ≤ 12 → S'.2 a = S.2 a) : cXe S' E := by
  unfold cXe at h ⊢
  rw [h1, h2 6 (by decide) (by decide), h2 7 (by decide) (by decide), h2 8 (by decide) (by decide), h2 9 (by decide) (by decide), h2 11 (by decide) (by decide), h2 12 (by decide) (by decide)]
  exact h
theorem cXa.mv {S S' : St} {A : List Xa} (h : cXa S A) (h1 : S'.1 3 17 = S.1 3 17) (h2 : ∀ a, 16 ≤ a → a ≤ 19 → S'.2 a = S.2 a) : cXa S' A := by
  unfold cXa at h ⊢
  rw [h1, h2 16 (by decide) (by decide), h2 17 (by decide) (by decide), h2 18 (by decide) (by decide), h2 19 (by decide) (by decide)]
  exact h
section YA
variable {S : St} {K : Int → St → Prop} {T : Int → Int} {n p u i : Int} {L E : List Xe} {A : List Xa} {V : List (Int × Int)} {e : Xe}
theorem k_put {o : Int} (hV : cXv S V) (hl : V.length < 3000) (hu : iv 0 65535 u) (hK : ∀ r S', (∀ a j, ¬ (a = 4 ∧ j = 1) → S'.1 a j = S.1 a j) → (∀ a, a ≠ 4 → S'.2 a = S.2 a) → cXv S' (V ++ [(u, o)]) → K r S') : wX5_put 4 u S K := by
  refine ⟨hu, fun r S' _ e => ?_⟩
  have e2 : S' = pI (pA S 4 V.length u) 4 1 (V.length + 1) := by
    rw [e]
    unfold sPut
    rw [hV.1, if_pos (by omega)]
  refine hK r S' (fun a j h => by rw [e2]; exact pI_j h) (fun a ha => by rw [e2]; exact (pA_ne a ha).2) ⟨?_, fun k hk => ?_⟩
  · rw [e2, len1]
    exact pI_v
  · rw [len1] at hk
    have e4 : S'.2 4 k = if (k : Int) = V.length then u else S.2 4 k := by
      rw [e2]
      exact pA_if
    rw [e4]
    by_cases c : k = V.length
    · rw [if_pos (by omega), gD_r c]
    · rw [if_neg (by omega), gD_l (by omega)]
      exact hV.2 k (by omega)
theorem k_spelt {a b c d : Int} (hX : TX T n) (hC : rTx S T n) (a0 : 0 ≤ a) (ab : a ≤ b) (bn : b ≤ n) (c0 : 0 ≤ c) (cd : c ≤ d) (dn : d ≤ n) (hK : ∀ r, (r = 1 ∧ nQ T a b c d = true) ∨ (r = 0 ∧ nQ T a b c d = false) → K r S) : wX6_isSpelt a b c d S K := by
  have hn := hX.1
  unfold wX6_isSpelt
  intro _ _ _ _
  refine ⟨⟨by omega, by omega⟩, ⟨by omega, by omega⟩, fun z => ?_, fun z => hK 0 (Or.inr ⟨rfl, nQ_f (fun w => z w.1)⟩)⟩
  refine ⟨fun l1 l2 l4 l6 S' => l1 = a ∧ l2 = b ∧ l4 = c ∧ S' = S ∧ 0 ≤ l6 ∧ l6 ≤ b - a ∧ ∀ i, 0 ≤ i → i < l6 → T (a + i) = T (c + i), fun l1 l2 l4 l6 S' => (b - a - l6).toNat, ⟨rfl, rfl, rfl, rfl, by decide, by omega, fun i i0 i1 => by omega⟩, ?_⟩
  rintro l1 l2 l4 l6 S' ⟨rfl, rfl, rfl, rfl, i0, i1, i2⟩
  have b1 := tx_rng hX (show 0 ≤ l1 + l6 by omega)
  have b2 := tx_rng hX (show 0 ≤ l4 + l6 by omega)
  refine ⟨⟨by omega, by omega⟩, ⟨by omega, by omega⟩, fun y => hK 1 (Or.inl ⟨rfl, nQ_iff.mpr ⟨z, fun i j0 j1 => i2 i j0 (by omega)⟩⟩), fun y => ⟨⟨by omega, by omega⟩, k_at hX hC (by omega) ⟨⟨by omega, by omega⟩, k_at hX hC (by omega) ⟨⟨by omega, by omega⟩, ⟨by omega, by omega⟩, fun w => ⟨⟨rfl, rfl, rfl, rfl, by omega, by omega, fun i j0 j1 => ?_⟩, ?_⟩, fun w => hK 0 (Or.inr ⟨rfl, nQ_f (fun v => w (v.2 l6 i0 (by omega)))⟩)⟩⟩⟩⟩
  · by_cases q : i = l6
    · rw [q]
      exact w
    · exact i2 i j0 (by omega)
  · show (l2 - l1 - (l6 + 1)).toNat < (l2 - l1 - l6).toNat
    omega
theorem k_hasKey {to : Int} (hX : TX T n) (hC : rTx S T n) (hE : cXe S (L ++ [e])) (hA : cXa S A) (hw : WX n (L ++ [e], A, V) p) (hL : L.length < 200) (hl : A.length < 600) (he : e.2.2.2.1 + e.2.2.2.2.1 = A.length) (p0 : 0 ≤ p) (pt : p ≤ to) (tn : to ≤ n) (hK : ∀ r, (r = 1 ∧ (A.drop e.2.2.2.1.toNat).any (fun a => nQ T a.1 a.2.1 p to) = true) ∨ (r = 0 ∧ (A.drop e.2.2.2.1.toNat).any (fun a => nQ T a.1 a.2.1 p to) = false) → K r S) : wX6_hasKey (L.length : Int) p to S K := by
  have hn := hX.1
  have h16 : S.1 3 16 = ((L ++ [e]).length : Int) := hE.1
  have me := hE.2 L.length (by rw [len1]; omega)
  have we := hw.2.2.1 L.length (by show L.length < (L ++ [e]).length; rw [len1]; omega)
  rw [gD_r rfl] at me
  rw [show ((L ++ [e], A, V) : Xs).1 = L ++ [e] from rfl, gD_r rfl] at we
  have we6 := we.2.2.2.2.2.1
  have we7 := we.2.2.2.2.2.2.1
  have hlen : (L ++ [e]).length = L.length + 1 := len1
  have cnt : ∀ (K : Int → St → Prop), K e.2.2.2.2.1 S → wX6_attributeCount (L.length : Int) S K := fun K hK => by
    unfold wX6_attributeCount
    intro _
    refine k_has h16 (fun r hr => ?_)
    rcases hr with ⟨rfl, -, -⟩ | ⟨rfl, h⟩
    · rw [me.2.2.2.2.2]
      exact ⟨⟨by decide, by decide⟩, fun z => absurd z (by decide), fun _ => ⟨by omega, by omega, fun _ => hK⟩⟩
    · exact absurd ⟨by omega, by omega⟩ h
  unfold wX6_hasKey
  intro _ _ _
  have first : ∀ (K : Int → St → Prop), K e.2.2.2.1 S → wX6_firstAttribute (L.length : Int) S K := fun K hK => by
    unfold wX6_firstAttribute
    intro _
    refine k_has h16 (fun r hr => ?_)
    rcases hr with ⟨rfl, -, -⟩ | ⟨rfl, h⟩
    · rw [me.2.2.2.2.1]
      exact ⟨⟨by decide, by decide⟩, fun z => absurd z (by decide), fun _ => ⟨by omega, by omega, fun _ => hK⟩⟩
    · exact absurd ⟨by omega, by omega⟩ h
  refine first _ ?_
  refine ⟨fun l1 l2 l3 l4 l5 S' => l1 = L.length ∧ l2 = p ∧ l3 = to ∧ l4 = e.2.2.2.1 ∧ S' = S ∧ e.2.2.2.1 ≤ l5 ∧ l5 ≤ A.length ∧ ∀ i : Nat, e.2.2.2.1 ≤ i → (i : Int) < l5 → nQ T (A.getD i a4).1 (A.getD i a4).2.1 p to = false, fun l1 l2 l3 l4 l5 S' => ((A.length : Int) - l5).toNat, ⟨rfl, rfl, rfl, rfl, rfl, Int.le_refl _, by omega, fun i i0 i1 => by omega⟩, ?_⟩
  rintro l1 l2 l3 l4 l5 S' ⟨rfl, rfl, rfl, rfl, rfl, i0, i1, i2⟩
  refine ⟨⟨by omega, by omega⟩, cnt _ ⟨⟨by omega, by omega⟩, ⟨by omega, by omega⟩, fun z => hK 0 (Or.inr ⟨rfl, ?_⟩), fun z => ?_⟩⟩
  · cases hc : (A.drop e.2.2.2.1.toNat).any (fun a => nQ T a.1 a.2.1 l2 l3) with
    | false => rfl
    | true =>
      obtain ⟨i, j0, j1, j2⟩ := any_drop.mp hc
      have := i2 i (by omega) (by omega)
      rw [this] at j2
      cases j2
  · have ha := hA.2 l5.toNat (by omega)
    have wa := hw.2.2.2 l5.toNat (by show l5.toNat < A.length; omega)
    have wa : 0 ≤ (A.getD l5.toNat a4).1 ∧ (A.getD l5.toNat a4).1 < (A.getD l5.toNat a4).2.1 ∧ (A.getD l5.toNat a4).2.1 ≤ n ∧ _ := wa
    rw [show ((l5.toNat : Nat) : Int) = l5 by omega] at ha
    rw [ha.1, ha.2.1]
    refine ⟨by omega, by omega, fun _ => ⟨by omega, by omega, fun _ => ⟨⟨by omega, by omega⟩, ⟨by omega, by omega⟩, k_spelt hX hC wa.1 (by omega) wa.2.2.1 p0 pt tn (fun r hr => ?_)⟩⟩⟩
    rcases hr with ⟨rfl, h⟩ | ⟨rfl, h⟩
    · refine ⟨⟨by decide, by decide⟩, fun w => absurd w (by decide), fun _ => hK 1 (Or.inl ⟨rfl, any_drop.mpr ⟨l5.toNat, by omega, by omega, h⟩⟩)⟩
    · refine ⟨⟨by decide, by decide⟩, fun _ => ⟨⟨rfl, rfl, rfl, rfl, rfl, by omega, by omega, fun i j0 j1 => ?_⟩, ?_⟩, fun w => absurd rfl w⟩
      · by_cases c : i = l5.toNat
        · rw [c]
          exact h
        · exact i2 i j0 (by omega)
      · show ((A.length : Int) - (l5 + 1)).toNat < ((A.length : Int) - l5).toNat
        omega
/-- what an attribute leaves -/
def AcO (S S' : St) (x : Option (Xs × Int)) : Prop := CF S S' ∧ (∀ a, (a = 6 ∨ a = 7 ∨ a = 8 ∨ a = 9 ∨ a = 10 ∨ a = 11 ∨ a = 13 ∨ a = 14 ∨ a = 15) → S'.2 a = S.2 a) ∧ S'.1 3 16 = S.1 3 16 ∧ (∀ j, j ≠ 3 → j ≠ 6 → S'.1 220 j = S.1 220 j) ∧ ((∃ s' r, x = some (s', r) ∧ cX S' s' ∧ S'.1 220 3 = r ∧ S'.1 220 6 = -1) ∨ (x = none ∧ ¬ S'.1 220 6 = -1))
theorem k_att {q : Int} (hX : TX T n) (hC : rTx S T n) (hM : cX S (L ++ [e], A, V)) (hw : WX n (L ++ [e], A, V) q) (hp : S.1 220 3 = q) (hwr : S.1 220 6 = -1) (hL : L.length < 200) (he : e.2.2.2.1 + e.2.2.2.2.1 = A.length) (q0 : 0 ≤ q) (q1 : q < n) (hq : nBg (T q)) (hK : ∀ S', AcO S S' (rAt T (L ++ [e], A, V) e.2.2.2.1.toNat q) → K 0 S') : wX9_attribute (L.length : Int) S K := by
  have hn := hX.1
  obtain ⟨hE, hA, hV⟩ := hM
  have hE : cXe S (L ++ [e]) := hE
  have hA : cXa S A := hA
  have hV : cXv S V := hV
  have w1 : (V.length : Int) ≤ q := hw.1
  have w2 : 5 * (A.length : Int) ≤ q := hw.2.1
  have hlen : (L ++ [e]).length = L.length + 1 := len1
  have hN := rNm_b hX (by omega) (show nIn (T q) by omega)
  obtain ⟨to, hto⟩ : ∃ to, to = rNm T q := ⟨_, rfl⟩
  rw [← hto] at hN
  have hatt : rAt T (L ++ [e], A, V) e.2.2.2.1.toNat q = if (A.drop e.2.2.2.1.toNat).any (fun a => nQ T a.1 a.2.1 q to) then none else if T to = 61 ∧ (T (to + 1) = 34 ∨ T (to + 1) = 39) then (match xV T (T (to + 1)) 3001 (to + 2) [] with | none => none | some r => some ((up1 (L ++ [e]), A ++ [(q, to, (V.length : Int), (V.length : Int) + (r.1.length : Int))], V ++ r.1.map (fun u => (u, -2))), r.2)) else none := by
    rw [hto]
    rfl
  obtain ⟨x, hx⟩ : ∃ x, x = rAt T (L ++ [e], A, V) e.2.2.2.1.toNat q := ⟨_, rfl⟩
  rw [← hx] at hK hatt
  -- a fault: only where it stands is another
  have bad : ∀ S' z, x = none → (∃ w y, S' = pI (pI S 220 3 w) 220 6 y ∧ 0 ≤ y) → z = (0 : Int) → K z S' := fun S' z hx0 hS hz => by
    obtain ⟨w, y, rfl, y0⟩ := hS
    rw [hz]
    refine hK _ ⟨CF.pi.tr CF.pi, fun a _ => rfl, rfl, fun j j3 j6 => ?_, Or.inr ⟨hx0, ?_⟩⟩
    · rw [pI_j (fun z => j6 z.2), pI_j (fun z => j3 z.2)]
    · rw [pI_v]
      omega
  unfold wX9_attribute
  intro _ _
  rw [hp]
  refine k_name hX hC hp q0 (by omega) ?_
  rw [if_pos hq, ← hto]
  obtain ⟨S2, hS2⟩ : ∃ S2, S2 = pI S 220 3 to := ⟨_, rfl⟩
  rw [← hS2]
  have p2 : S2.1 220 3 = to := by rw [hS2]; exact pI_v
  have hC2 : rTx S2 T n := by rw [hS2]; exact hC.pi
  rw [p2]
  refine fun _ => k_hasKey hX hC2 (by rw [hS2]; exact hE) (by rw [hS2]; exact hA) hw hL (by omega) he q0 (by omega) hN.2 (fun r hr => ?_)
  rcases hr with ⟨rfl, hany⟩ | ⟨rfl, hany⟩
  · refine ⟨⟨by decide, by decide⟩, fun z => absurd z (by decide), fun _ S21 e21 => bad S21 0 ?_ ⟨to, q, by rw [e21, hS2], q0⟩ rfl⟩
    rw [hatt, if_pos hany]
  rw [if_neg (by rw [hany]; decide)] at hatt
  refine ⟨⟨by decide, by decide⟩, fun _ => ?_, fun z => absurd rfl z⟩
  have bt := tx_rng hX (show 0 ≤ to by omega)
  have bt1 := tx_rng hX (show 0 ≤ to + 1 by omega)
  unfold wX9_skipsToValue
  intro _
  rw [p2]
  refine k_at hX hC2 (by omega) ⟨⟨by omega, by omega⟩, fun z => ?_, fun z => ?_⟩
  rotate_left
  · refine ⟨⟨by decide, by decide⟩, fun w => absurd rfl w, fun _ => ?_⟩
    rw [p2]
    refine fun _ S20 e20 => bad S20 0 ?_ ⟨to, to, by rw [e20, hS2], by omega⟩ rfl
    rw [hatt, if_neg (fun w => z w.1)]
  rw [p2]
  refine fun _ => ⟨⟨by omega, by omega⟩, fun S7 e7 => ?_⟩
  have e7' : S7 = pI S 220 3 (to + 1) := by rw [e7, hS2, pI_pI]
  have p7 : S7.1 220 3 = to + 1 := by rw [e7']; exact pI_v
  have hC7 : rTx S7 T n := by rw [e7']; exact hC.pi
  rw [p7]
  have good : ∀ S15 : St, S15 = pI S 220 3 (to + 2) → (T (to + 1) = 34 ∨ T (to + 1) = 39) → (rng 1 ∧ ((¬ (1 : Int) = 0 → (iv (-2147483648) 2147483647 (S15.1 220 3) → (rng ((S15.1 220 3 - 1)) ∧ (wX5_at 1 ((S15.1 220 3 - 1)) S15 (fun r15 S14 => (wX5_length 4 S14 (fun r18 S17 => wX9_attribute_76 q to r15 r18 0 S17 K))))))) ∧ ((¬ (¬ (1 : Int) = 0)) → (iv (-2147483648) 2147483647 (S15.1 220 3) → (∀ S20, S20 = pI S15 220 6 (S15.1 220 3) → K 0 S20))))) := fun S15 e15 hqt => by
    have p15 : S15.1 220 3 = to + 2 := by rw [e15]; exact pI_v
    have hC15 : rTx S15 T n := by rw [e15]; exact hC.pi
    rw [if_pos ⟨z, hqt⟩] at hatt
    have t1 : to + 1 < n := hX.in (by omega)
    refine ⟨⟨by decide, by decide⟩, fun _ => ?_, fun w => absurd (by decide) w⟩
    rw [p15, show to + 2 - 1 = to + 1 by omega]
    refine fun _ => ⟨⟨by omega, by omega⟩, k_at hX hC15 (by omega) (fun gv => ?_)⟩
    have v15 : S15.1 4 1 = V.length := by rw [e15]; exact hV.1
    rw [v15]
    obtain ⟨qt, hqt'⟩ : ∃ qt, qt = T (to + 1) := ⟨_, rfl⟩
    rw [← hqt'] at hqt hatt ⊢
    refine ⟨fun l2 l3 l4 l5 l6 S' => l2 = q ∧ l3 = to ∧ l4 = qt ∧ l5 = V.length ∧ CF S S' ∧ (∀ a, 6 ≤ a → a ≤ 19 → S'.2 a = S.2 a) ∧ S'.1 3 = S.1 3 ∧ (∀ j, j ≠ 3 → S'.1 220 j = S.1 220 j) ∧ ∃ (l : List Int) (pp : Int) (f : Nat), S'.1 220 3 = pp ∧ cXv S' (V ++ l.map (fun v => (v, -2))) ∧ l6 = l.length ∧ to + 2 + l.length ≤ pp ∧ pp ≤ n ∧ n + 1 - pp ≤ f ∧ xV T qt f pp l = xV T qt 3001 (to + 2) [], fun l2 l3 l4 l5 l6 S' => (n + 1 - S'.1 220 3).toNat, ⟨rfl, rfl, rfl, rfl, ?_, ?_, ?_, ?_, [], to + 2, 3001, p15, ?_, rfl, ?_, by omega, by omega, rfl⟩, ?_⟩
    · rw [e15]
      exact CF.pi
    · rw [e15]
      exact fun _ _ _ => rfl
    · rw [e15]
      exact funext fun j' => pI_j (fun z => absurd z.1 (by decide))
    · rw [e15]
      exact fun j hj => pI_j (fun z => hj z.2)
    · rw [List.map_nil, List.append_nil, e15]
      exact hV
    · show to + 2 + ((0 : Nat) : Int) ≤ to + 2
      omega
    rintro l2 l3 l4 l5 l6 S' ⟨rfl, rfl, rfl, rfl, hF, h2, h3, h220, l, pp, f, hpp, hv, rfl, b1, b2, b3, b4⟩
    have hC' := hC.cf hF
    have bp := tx_rng hX (show 0 ≤ pp by omega)
    obtain ⟨f', rfl⟩ : ∃ f', f = f' + 1 := ⟨f - 1, by omega⟩
    have hvl : (V ++ l.map (fun v => (v, (-2 : Int)))).length = V.length + l.length := by rw [List.length_append, List.length_map]
    -- behind the value
    have at122 : (T pp = l4 ∨ T pp = 60 ∨ T pp = -1) → wX9_attribute_122 l2 l3 l4 (V.length : Int) S' K := fun hend => by
      unfold wX9_attribute_122
      intro _
      rw [hpp]
      refine k_at hX hC' (by omega) ⟨⟨by omega, by omega⟩, ⟨by omega, by omega⟩, fun y => ?_, fun y => ?_⟩
      · have ppn : pp < n := hX.in (by omega)
        have xv : xV T l4 3001 (l3 + 2) [] = some (l, pp + 1) := by
          rw [← b4]
          unfold xV
          rw [if_pos y]
        rw [xv] at hatt
        rw [hpp]
        refine fun _ => ⟨⟨by omega, by omega⟩, fun S8 e8 => ⟨⟨by omega, by omega⟩, ⟨by omega, by omega⟩, ⟨by omega, by omega⟩, ?_⟩⟩
        have hE8 : cXe S8 (L ++ [e]) := by rw [e8]; exact hE.mv (show S'.1 3 16 = _ by rw [h3]) (fun a k1 k2 => h2 a k1 (by omega))
        have hA8 : cXa S8 A := by rw [e8]; exact hA.mv (show S'.1 3 17 = _ by rw [h3]) (fun a k1 k2 => h2 a (by omega) k2)
        have hV8 : cXv S8 (V ++ l.map (fun v => (v, -2))) := by rw [e8]; exact hv
        have me := hE8.2 L.length (by omega)
        have we := hw.2.2.1 L.length (by show L.length < (L ++ [e]).length; omega)
        rw [gD_r rfl] at me
        rw [show ((L ++ [e], A, V) : Xs).1 = L ++ [e] from rfl, gD_r rfl] at we
        have we6 := we.2.2.2.2.2.1
        have we7 := we.2.2.2.2.2.2.1
        have t8 : TRS S8 := trs_of hE8 hA8 hw
        refine k_addA (E := L ++ [e]) (A := A) (V := V ++ l.map (fun v => (v, -2))) hE8.1 hA8.1 hV8.1 t8 (by omega) (by omega) (by omega) ?_ ?_ (fun S9 h9 => hK S9 ?_)
        · rw [show ((L ++ [e]).length : Int) - 1 = L.length by omega, me.2.2.2.2.2]
          exact we7
        · rw [show ((L ++ [e]).length : Int) - 1 = L.length by omega, me.2.2.2.2.1]
          exact we6
        obtain ⟨g17, g1, g12, g16, g17', g18, g19, g2⟩ := h9
        have c1 : ∀ a, a ≠ 3 → S9.1 a = S8.1 a := fun a ha => funext fun j => g1 a j (fun z => ha z.1)
        have c8 : ∀ a j, ¬ (a = 220 ∧ j = 3) → S8.1 a j = S'.1 a j := fun a j h => by rw [e8]; exact pI_j h
        have c82 : S8.2 = S'.2 := by rw [e8]; rfl
        refine ⟨⟨fun a k1 k2 k3 => ?_, fun a k1 k2 => ?_⟩, fun a ha => ?_, ?_, fun j j3 j6 => ?_, Or.inl ⟨_, pp + 1, hatt, ⟨⟨?_, fun k hk => ?_⟩, ⟨?_, fun k hk => ?_⟩, ?_⟩, ?_, ?_⟩⟩
        · rw [c1 a k1]
          refine (funext fun j => c8 a j (fun z => k3 z.1)).trans (hF.1 a k1 k2 k3)
        · rw [g2 a (by omega) (by omega) (by omega) (by omega) (by omega), c82]
          exact hF.2 a k1 k2
        · rw [g2 a (by omega) (by omega) (by omega) (by omega) (by omega), c82]
          exact h2 a (by omega) (by omega)
        · rw [g1 3 16 (by decide), c8 3 16 (by decide), h3]
        · rw [g1 220 j (fun z => absurd z.1 (by decide)), c8 220 j (fun z => j3 z.2)]
          exact h220 j j3
        · show S9.1 3 16 = ((up1 (L ++ [e])).length : Int)
          rw [g1 3 16 (by decide), hE8.1, up1_s, len1, len1]
        · have hk : k < (up1 (L ++ [e])).length := hk
          rw [up1_s, len1] at hk
          have mk := hE8.2 k (by omega)
          show S9.2 6 k = ((up1 (L ++ [e])).getD k e6).1 ∧ S9.2 7 k = ((up1 (L ++ [e])).getD k e6).1 + 1 ∧ S9.2 8 k = ((up1 (L ++ [e])).getD k e6).2.1 ∧ S9.2 9 k = ((up1 (L ++ [e])).getD k e6).2.2.1 ∧ S9.2 11 k = ((up1 (L ++ [e])).getD k e6).2.2.2.1 ∧ S9.2 12 k = ((up1 (L ++ [e])).getD k e6).2.2.2.2.1
          rw [up1_s, g2 6 (by decide) (by decide) (by decide) (by decide) (by decide), g2 7 (by decide) (by decide) (by decide) (by decide) (by decide), g2 8 (by decide) (by decide) (by decide) (by decide) (by decide), g2 9 (by decide) (by decide) (by decide) (by decide) (by decide), g2 11 (by decide) (by decide) (by decide) (by decide) (by decide), g12]
          by_cases c : k = L.length
          · rw [gD_r c] at mk ⊢
            rw [if_pos (show (k : Int) = ((L ++ [e]).length : Int) - 1 by omega), mk.2.2.2.2.2]
            exact ⟨mk.1, mk.2.1, mk.2.2.1, mk.2.2.2.1, mk.2.2.2.2.1, rfl⟩
          · rw [gD_l (by omega)] at mk ⊢
            rw [if_neg (show ¬ (k : Int) = ((L ++ [e]).length : Int) - 1 by omega)]
            exact mk
        · show S9.1 3 17 = ((A ++ [_]).length : Int)
          rw [g17, len1]
          rfl
        · have hk : k < (A ++ [(l2, l3, (V.length : Int), (V.length : Int) + (l.length : Int))]).length := hk
          rw [len1] at hk
          show S9.2 16 k = ((A ++ [(l2, l3, (V.length : Int), (V.length : Int) + (l.length : Int))]).getD k a4).1 ∧ S9.2 17 k = ((A ++ [(l2, l3, (V.length : Int), (V.length : Int) + (l.length : Int))]).getD k a4).2.1 ∧ S9.2 18 k = ((A ++ [(l2, l3, (V.length : Int), (V.length : Int) + (l.length : Int))]).getD k a4).2.2.1 ∧ S9.2 19 k = ((A ++ [(l2, l3, (V.length : Int), (V.length : Int) + (l.length : Int))]).getD k a4).2.2.2
          rw [g16, g17', g18, g19]
          by_cases c : k = A.length
          · rw [gD_r c, if_pos (show (k : Int) = A.length by omega), if_pos (show (k : Int) = A.length by omega), if_pos (show (k : Int) = A.length by omega), if_pos (show (k : Int) = A.length by omega)]
            refine ⟨rfl, rfl, rfl, ?_⟩
            show ((V ++ l.map (fun v => (v, (-2 : Int)))).length : Int) = (V.length : Int) + l.length
            omega
          · rw [gD_l (by omega), if_neg (show ¬ (k : Int) = A.length by omega), if_neg (show ¬ (k : Int) = A.length by omega), if_neg (show ¬ (k : Int) = A.length by omega), if_neg (show ¬ (k : Int) = A.length by omega)]
            exact hA8.2 k (by omega)
        · exact hV8.mv (by rw [g1 4 1 (by decide)]) (g2 4 (by decide) (by decide) (by decide) (by decide) (by decide))
        · rw [g1 220 3 (by decide), e8]
          exact pI_v
        · rw [g1 220 6 (by decide), c8 220 6 (by decide), h220 6 (by decide)]
          exact hwr
      · have xv : xV T l4 3001 (l3 + 2) [] = none := by
          rw [← b4]
          unfold xV
          rw [if_neg y, if_pos (by omega)]
        rw [xv] at hatt
        rw [hpp]
        refine fun _ S16 e16 => hK S16 ⟨hF.tr (by rw [e16]; exact CF.pi), fun a ha => by rw [e16]; exact h2 a (by omega) (by omega), by rw [e16]; exact (show S'.1 3 16 = _ by rw [h3]), fun j j3 j6 => by rw [e16, pI_j (fun z => j6 z.2)]; exact h220 j j3, Or.inr ⟨hatt, ?_⟩⟩
        rw [e16, pI_v]
        omega
    refine ⟨⟨by omega, by omega⟩, fun y => absurd y (by omega), fun _ => ⟨⟨by omega, by omega⟩, ?_⟩⟩
    unfold wX9_endsValue
    intro _ _
    rw [hpp]
    refine k_at hX hC' (by omega) ⟨⟨by omega, by omega⟩, fun y => ⟨⟨by decide, by decide⟩, fun _ => at122 (Or.inl y), fun w => absurd (by decide) w⟩, fun y => ⟨fun y2 => ⟨⟨by decide, by decide⟩, fun _ => at122 (Or.inr (Or.inl y2)), fun w => absurd (by decide) w⟩, fun y2 => ⟨fun y3 => ⟨⟨by decide, by decide⟩, fun w => absurd rfl w, fun _ => ?_⟩, fun y3 => ⟨⟨by decide, by decide⟩, fun _ => at122 (Or.inr (Or.inr (Classical.not_not.mp y3))), fun w => absurd (by decide) w⟩⟩⟩⟩
    have ppn : pp < n := hX.in y3
    have e1 : xV T l4 (f' + 1) pp l = match dec T pp with | none => none | some r => xV T l4 f' r.2 (l ++ [r.1]) := by
      show (if T pp = l4 then some (l, pp + 1) else if T pp = 60 ∨ T pp = -1 then none else match dec T pp with | none => none | some r => xV T l4 f' r.2 (l ++ [r.1])) = _
      rw [if_neg y, if_neg (by omega)]
    refine k_dec hX hC' hpp (by omega) ppn ⟨fun u q' hd hu pq qn => ?_, fun hd => ?_⟩
    · refine ⟨⟨by omega, by omega⟩, fun _ => ?_, fun w => absurd (by omega) w⟩
      refine k_put (V := V ++ l.map (fun v => (v, -2))) (o := -2) hv (by omega) hu (fun r S12 g1 g2 g3 => ?_)
      have p12 : S12.1 220 3 = q' := by rw [g1 220 3 (by decide)]; exact pI_v
      refine ⟨⟨rfl, rfl, rfl, rfl, ⟨fun a k1 k2 k3 => ?_, fun a k1 k2 => ?_⟩, fun a k1 k2 => ?_, ?_, fun j hj => ?_, l ++ [u], q', f', p12, ?_, ?_, ?_, qn, by omega, ?_⟩, ?_⟩
      · refine (funext fun j => ?_ : S12.1 a = S'.1 a).trans (hF.1 a k1 k2 k3)
        rw [g1 a j (fun z => k2 z.1)]
        exact pI_j (fun z => k3 z.1)
      · rw [g2 a k1]
        exact hF.2 a k1 k2
      · rw [g2 a (by omega)]
        exact h2 a k1 k2
      · refine (funext fun j => ?_ : S12.1 3 = S'.1 3).trans h3
        rw [g1 3 j (fun z => absurd z.1 (by decide))]
        exact pI_j (fun z => absurd z.1 (by decide))
      · rw [g1 220 j (fun z => absurd z.1 (by decide)), pI_j (fun z => hj z.2)]
        exact h220 j hj
      · rw [map_snoc2]
        exact g3
      · rw [len1]
        rfl
      · rw [len1]
        show l3 + 2 + ((l.length + 1 : Nat) : Int) ≤ q'
        omega
      · rw [← b4, e1, hd]
      · show (n + 1 - S12.1 220 3).toNat < (n + 1 - S'.1 220 3).toNat
        rw [p12, hpp]
        omega
    · have xv : xV T l4 3001 (l3 + 2) [] = none := by rw [← b4, e1, hd]
      rw [xv] at hatt
      refine ⟨⟨by decide, by decide⟩, fun w => absurd rfl w, fun _ => hK _ ⟨hF.tr CF.pi, fun a ha => h2 a (by omega) (by omega), (show S'.1 3 16 = _ by rw [h3]), fun j j3 j6 => by rw [pI_j (fun z => j6 z.2)]; exact h220 j j3, Or.inr ⟨hatt, ?_⟩⟩⟩
      rw [pI_v]
      omega
  refine fun _ => k_at hX hC7 (by omega) ⟨⟨by omega, by omega⟩, fun y => ?_, fun y => ?_⟩
  · rw [p7]
    refine fun _ => ⟨⟨by omega, by omega⟩, fun S15 e15 => good S15 (by rw [e15, e7', pI_pI, show to + 1 + 1 = to + 2 by omega]) (Or.inl y)⟩
  · rw [p7]
    refine fun _ => k_at hX hC7 (by omega) ⟨⟨by omega, by omega⟩, fun y2 => ?_, fun y2 => ?_⟩
    · rw [p7]
      refine fun _ => ⟨⟨by omega, by omega⟩, fun S15 e15 => good S15 (by rw [e15, e7', pI_pI, show to + 1 + 1 = to + 2 by omega]) (Or.inr y2)⟩
    · refine ⟨⟨by decide, by decide⟩, fun w => absurd rfl w, fun _ => ?_⟩
      rw [p7]
      refine fun _ S20 e20 => bad S20 0 ?_ ⟨to + 1, to + 1, by rw [e20, e7'], by omega⟩ rfl
      rw [hatt, if_neg (fun w => w.2.elim y y2)]
end YA

