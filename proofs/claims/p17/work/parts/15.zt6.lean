/-! READING XML: the model reads a tag that begins -/
def ocn (T : Int → Int) (E : List Xe) (k : Nat) : Nat → Int
  | 0 => 1
  | j + 1 => ocn T E k j + (if (E.getD j e6).2.2.1 = (E.getD k e6).2.2.1 ∧ nQ T ((E.getD j e6).1 + 1) (E.getD j e6).2.1 ((E.getD k e6).1 + 1) (E.getD k e6).2.1 = true then 1 else 0)
theorem ocn_cg {T : Int → Int} {E E' : List Xe} {k : Nat} (h : ∀ i, i ≤ k → (E.getD i e6).1 = (E'.getD i e6).1 ∧ (E.getD i e6).2.1 = (E'.getD i e6).2.1 ∧ (E.getD i e6).2.2.1 = (E'.getD i e6).2.2.1) : ∀ j, j ≤ k → ocn T E k j = ocn T E' k j
  | 0, _ => rfl
  | j + 1, hj => by
    show ocn T E k j + (if (E.getD j e6).2.2.1 = (E.getD k e6).2.2.1 ∧ nQ T ((E.getD j e6).1 + 1) (E.getD j e6).2.1 ((E.getD k e6).1 + 1) (E.getD k e6).2.1 = true then 1 else 0) = ocn T E' k j + (if (E'.getD j e6).2.2.1 = (E'.getD k e6).2.2.1 ∧ nQ T ((E'.getD j e6).1 + 1) (E'.getD j e6).2.1 ((E'.getD k e6).1 + 1) (E'.getD k e6).2.1 = true then 1 else 0)
    rw [ocn_cg h j (by omega), (h j (by omega)).1, (h j (by omega)).2.1, (h j (by omega)).2.2, (h k (Nat.le_refl _)).1, (h k (Nat.le_refl _)).2.1, (h k (Nat.le_refl _)).2.2]
theorem ocn_b {T : Int → Int} {E : List Xe} {k : Nat} : ∀ j, 1 ≤ ocn T E k j ∧ ocn T E k j ≤ 1 + j
  | 0 => ⟨Int.le_refl _, Int.le_refl _⟩
  | j + 1 => by
    have := ocn_b (T := T) (E := E) (k := k) j
    unfold ocn
    split <;> exact ⟨by omega, by omega⟩
def mO (S : St) (T : Int → Int) (E : List Xe) : Prop := ∀ k : Nat, k < E.length → S.2 89 k = ocn T E k k
theorem WX.le {n p q : Int} {s : Xs} (h : WX n s p) (hp : p ≤ q) : WX n s q := ⟨Int.le_trans h.1 hp, Int.le_trans h.2.1 hp, h.2.2⟩
theorem mX.mv {S S' : St} {s : Xs} (h : mX S s) (h1 : S'.1 54 43 = S.1 54 43) (h2 : S'.1 54 51 = S.1 54 51) (h3 : S'.1 54 56 = S.1 54 56) (h4 : S'.2 = S.2) : mX S' s := by
  unfold mX mXe mXa mV at h ⊢
  rw [h1, h2, h3, h4]
  exact h
theorem up2_k {L : List Xe} {e : Xe} {t : Int} {k : Nat} (hk : k < L.length + 1) : ((up2 (L ++ [e]) t).getD k e6).1 = ((L ++ [e]).getD k e6).1 ∧ ((up2 (L ++ [e]) t).getD k e6).2.1 = ((L ++ [e]).getD k e6).2.1 ∧ ((up2 (L ++ [e]) t).getD k e6).2.2.1 = ((L ++ [e]).getD k e6).2.2.1 ∧ ((up2 (L ++ [e]) t).getD k e6).2.2.2.1 = ((L ++ [e]).getD k e6).2.2.2.1 ∧ ((up2 (L ++ [e]) t).getD k e6).2.2.2.2.1 = ((L ++ [e]).getD k e6).2.2.2.2.1 := by
  rw [up2_s]
  by_cases q : k = L.length
  · rw [gD_r q, gD_r q]
    exact ⟨rfl, rfl, rfl, rfl, rfl⟩
  · rw [gD_l (by omega), gD_l (by omega)]
    exact ⟨rfl, rfl, rfl, rfl, rfl⟩
theorem up2_len {L : List Xe} {e : Xe} {t : Int} : (up2 (L ++ [e]) t).length = L.length + 1 := by
  rw [up2_s, List.length_append]
  rfl
theorem len1 {α : Type} {L : List α} {e : α} : (L ++ [e]).length = L.length + 1 := by
  rw [List.length_append]
  rfl
theorem mX_up2 {S : St} {L : List Xe} {e : Xe} {A : List Xa} {V : List (Int × Int)} {t : Int} (h : mX S (L ++ [e], A, V)) : mX S (up2 (L ++ [e]) t, A, V) := by
  obtain ⟨⟨h1, h2⟩, h3⟩ := h
  refine ⟨⟨?_, fun k hk => ?_⟩, h3⟩
  · show S.1 54 43 = ((up2 (L ++ [e]) t).length : Int)
    rw [up2_len, h1]
    show (((L ++ [e]).length : Nat) : Int) = _
    rw [len1]
  · have hk : k < (up2 (L ++ [e]) t).length := hk
    rw [up2_len] at hk
    obtain ⟨g1, g2, g3, g4, g5⟩ := up2_k (L := L) (e := e) (t := t) hk
    have := h2 k (by show k < (L ++ [e]).length; rw [len1]; exact hk)
    show S.2 85 k = ((up2 (L ++ [e]) t).getD k e6).1 ∧ S.2 86 k = ((up2 (L ++ [e]) t).getD k e6).1 + 1 ∧ S.2 87 k = ((up2 (L ++ [e]) t).getD k e6).2.1 - (((up2 (L ++ [e]) t).getD k e6).1 + 1) ∧ S.2 88 k = (if ((up2 (L ++ [e]) t).getD k e6).2.2.1 < 0 then -2 else ((up2 (L ++ [e]) t).getD k e6).2.2.1) ∧ S.2 90 k = ((up2 (L ++ [e]) t).getD k e6).2.2.2.1 ∧ S.2 91 k = ((up2 (L ++ [e]) t).getD k e6).2.2.2.2.1
    rw [g1, g2, g3, g4, g5]
    exact this
theorem WX_up2 {n p : Int} {L : List Xe} {e : Xe} {A : List Xa} {V : List (Int × Int)} {t : Int} (h : WX n (L ++ [e], A, V) p) : WX n (up2 (L ++ [e]) t, A, V) p := by
  obtain ⟨h1, h2, h3, h4⟩ := h
  refine ⟨h1, h2, fun k hk => ?_, h4⟩
  have hk : k < (up2 (L ++ [e]) t).length := hk
  rw [up2_len] at hk
  obtain ⟨g1, g2, g3, g4, g5⟩ := up2_k (L := L) (e := e) (t := t) hk
  have := h3 k (by show k < (L ++ [e]).length; rw [len1]; exact hk)
  show 0 ≤ ((up2 (L ++ [e]) t).getD k e6).1 ∧ ((up2 (L ++ [e]) t).getD k e6).1 + 1 < ((up2 (L ++ [e]) t).getD k e6).2.1 ∧ ((up2 (L ++ [e]) t).getD k e6).2.1 ≤ n ∧ -1 ≤ ((up2 (L ++ [e]) t).getD k e6).2.2.1 ∧ ((up2 (L ++ [e]) t).getD k e6).2.2.1 < k ∧ 0 ≤ ((up2 (L ++ [e]) t).getD k e6).2.2.2.1 ∧ 0 ≤ ((up2 (L ++ [e]) t).getD k e6).2.2.2.2.1 ∧ ((up2 (L ++ [e]) t).getD k e6).2.2.2.1 + ((up2 (L ++ [e]) t).getD k e6).2.2.2.2.1 ≤ A.length
  rw [g1, g2, g3, g4, g5]
  exact this
section XC
variable {S : St} {K : Int → St → Prop} {T : Int → Int} {n p u o : Int} {V : List (Int × Int)} {A : List Xa} {L E : List Xe} {e : Xe}
/-- the attributes of a tag -/
theorem n_234 (hX : TX T n) (hD : dTx S T n) (hM : mX S (L ++ [e], A, V)) (hw : WX n (L ++ [e], A, V) p) (hb : S.1 54 59 = -2) (hL : L.length < 200) (p0 : 0 ≤ p) (p1 : p ≤ n) (he : e.2.2.2.1 + e.2.2.2.2.1 = A.length) (hK : ∀ r S', PF S S' → S'.2 89 = S.2 89 → ((∃ (e' : Xe) (A' : List Xa) (V' : List (Int × Int)), ats T e.2.2.2.1.toNat 3001 (L ++ [e], A, V) p = some ((L ++ [e'], A', V'), r) ∧ (e'.1 = e.1 ∧ e'.2.1 = e.2.1 ∧ e'.2.2.1 = e.2.2.1 ∧ e'.2.2.2.1 = e.2.2.2.1) ∧ mX S' (L ++ [e'], A', V') ∧ WX n (L ++ [e'], A', V') r ∧ p ≤ r ∧ r ≤ n ∧ S'.1 54 59 = -2) ∨ (ats T e.2.2.2.1.toNat 3001 (L ++ [e], A, V) p = none ∧ ¬ S'.1 54 59 = -2 ∧ iv (-2) 4000 (S'.1 54 59) ∧ iv 0 3020 r)) → wX11_beginTag_302 r S' K) : wX11_beginTag_234 p (L.length : Int) 1 S K := by
  have hn := hX.1
  obtain ⟨x, hx⟩ : ∃ x, x = ats T e.2.2.2.1.toNat 3001 (L ++ [e], A, V) p := ⟨_, rfl⟩
  rw [← hx] at hK
  refine ⟨fun l4 l5 l6 S' => l5 = L.length ∧ PF S S' ∧ S'.2 89 = S.2 89 ∧ ((l6 = 1 ∧ S'.1 54 59 = -2 ∧ ∃ (e' : Xe) (A' : List Xa) (V' : List (Int × Int)), ∃ f : Nat, mX S' (L ++ [e'], A', V') ∧ WX n (L ++ [e'], A', V') l4 ∧ e'.2.2.2.1 + e'.2.2.2.2.1 = A'.length ∧ (e'.1 = e.1 ∧ e'.2.1 = e.2.1 ∧ e'.2.2.1 = e.2.2.1 ∧ e'.2.2.2.1 = e.2.2.2.1) ∧ p ≤ l4 ∧ l4 ≤ n ∧ n + 1 - l4 ≤ f ∧ x = ats T e.2.2.2.1.toNat f (L ++ [e'], A', V') l4) ∨ (l6 = 0 ∧ S'.1 54 59 = -2 ∧ ∃ (e' : Xe) (A' : List Xa) (V' : List (Int × Int)), x = some ((L ++ [e'], A', V'), l4) ∧ (e'.1 = e.1 ∧ e'.2.1 = e.2.1 ∧ e'.2.2.1 = e.2.2.1 ∧ e'.2.2.2.1 = e.2.2.2.1) ∧ mX S' (L ++ [e'], A', V') ∧ WX n (L ++ [e'], A', V') l4 ∧ p ≤ l4 ∧ l4 ≤ n) ∨ (l6 = 1 ∧ x = none ∧ ¬ S'.1 54 59 = -2 ∧ iv (-2) 4000 (S'.1 54 59) ∧ iv 0 3020 l4)), fun l4 l5 l6 S' => (if S'.1 54 59 = -2 then (if l6 = 0 then 1 else (n + 3 - l4).toNat + 2) else 0), ⟨rfl, PF.rf, rfl, Or.inl ⟨rfl, hb, e, A, V, 3001, hM, hw, he, ⟨rfl, rfl, rfl, rfl⟩, Int.le_refl _, p1, by omega, hx⟩⟩, ?_⟩
  rintro l4 l5 l6 S' ⟨rfl, hP, h89, hc⟩
  have hD' := hD.pf hP
  unfold wX11_beginTag_234'
  rcases hc with ⟨rfl, b, e', A', V', f, m, w, he', eqs, pl, ln, ff, fx⟩ | ⟨rfl, b, e', A', V', fx, eqs, m, w, pl, ln⟩ | ⟨rfl, fx, b, b2, b3⟩
  · obtain ⟨f', rfl⟩ : ∃ f', f = f' + 1 := ⟨f - 1, by omega⟩
    have hB := rBl_b (p := l4) hX ln
    have bt := tx_rng hX (show 0 ≤ rBl T l4 by omega)
    have fx2 : x = (if l4 < rBl T l4 ∧ nBg (T (rBl T l4)) then (match rAt T (L ++ [e'], A', V') e.2.2.2.1.toNat (rBl T l4) with | none => none | some r => ats T e.2.2.2.1.toNat f' r.1 r.2) else some ((L ++ [e'], A', V'), rBl T l4)) := fx
    have stop : ¬ (l4 < rBl T l4 ∧ nBg (T (rBl T l4))) → wX11_beginTag_292 (L.length : Int) (rBl T l4) S' K (fun ml4 ml5 ml6 T1 => (ml5 = L.length ∧ PF S T1 ∧ T1.2 89 = S.2 89 ∧ ((ml6 = 1 ∧ T1.1 54 59 = -2 ∧ ∃ (e' : Xe) (A' : List Xa) (V' : List (Int × Int)), ∃ f : Nat, mX T1 (L ++ [e'], A', V') ∧ WX n (L ++ [e'], A', V') ml4 ∧ e'.2.2.2.1 + e'.2.2.2.2.1 = A'.length ∧ (e'.1 = e.1 ∧ e'.2.1 = e.2.1 ∧ e'.2.2.1 = e.2.2.1 ∧ e'.2.2.2.1 = e.2.2.2.1) ∧ p ≤ ml4 ∧ ml4 ≤ n ∧ n + 1 - ml4 ≤ f ∧ x = ats T e.2.2.2.1.toNat f (L ++ [e'], A', V') ml4) ∨ (ml6 = 0 ∧ T1.1 54 59 = -2 ∧ ∃ (e' : Xe) (A' : List Xa) (V' : List (Int × Int)), x = some ((L ++ [e'], A', V'), ml4) ∧ (e'.1 = e.1 ∧ e'.2.1 = e.2.1 ∧ e'.2.2.1 = e.2.2.1 ∧ e'.2.2.2.1 = e.2.2.2.1) ∧ mX T1 (L ++ [e'], A', V') ∧ WX n (L ++ [e'], A', V') ml4 ∧ p ≤ ml4 ∧ ml4 ≤ n) ∨ (ml6 = 1 ∧ x = none ∧ ¬ T1.1 54 59 = -2 ∧ iv (-2) 4000 (T1.1 54 59) ∧ iv 0 3020 ml4))) ∧ (if T1.1 54 59 = -2 then (if ml6 = 0 then 1 else (n + 3 - ml4).toNat + 2) else 0) < (if S'.1 54 59 = -2 then (if (1 : Int) = 0 then 1 else (n + 3 - l4).toNat + 2) else 0)) := fun hno => by
      rw [if_neg hno] at fx2
      refine ⟨⟨rfl, hP, h89, Or.inr (Or.inl ⟨rfl, b, e', A', V', fx2, eqs, m, w.le hB.1, by omega, hB.2⟩)⟩, ?_⟩
      rw [if_pos b, if_pos b, if_pos rfl, if_neg (by decide)]
      omega
    refine ⟨⟨by decide, by decide⟩, fun z => absurd z (by decide), fun _ _ => ⟨fun z => absurd b z, fun _ => ⟨⟨by omega, by omega⟩, n_blanks hX hD' (by omega) (by omega) ⟨⟨by omega, by omega⟩, n_doc hX hD' (by omega) ⟨fun q => stop (fun z => by omega), fun q => ⟨⟨by omega, by omega⟩, n_nBg (fun r hr => ?_)⟩⟩⟩⟩⟩⟩
    rcases hr with ⟨rfl, hg⟩ | ⟨rfl, hg⟩
    · refine ⟨⟨by decide, by decide⟩, fun z => absurd z (by decide), fun _ => ⟨⟨by omega, by omega⟩, ?_⟩⟩
      have qn : rBl T l4 < n := Int.lt_of_not_ge (fun z => by
        have := hX.2.2 _ z
        omega)
      refine n_att hX hD' m (w.le hB.1) b hL (by omega) qn hg (fun r S2 h2 => ?_)
      obtain ⟨g1, g2, g3, g4⟩ := h2
      rw [if_pos ⟨by omega, hg⟩] at fx2
      rw [eqs.2.2.2] at g4
      rcases g4 with ⟨s', h1, h2, h3⟩ | ⟨h1, h2, h3, h4⟩
      · obtain ⟨l, hs, w', q4, rn⟩ := att_ok hX w (by omega) (show l4 < rBl T l4 by omega) qn hg he' (s' := s') (r := r) (by rw [eqs.2.2.2]; exact h1)
        rw [hs] at h2 w' h1
        rw [h1] at fx2
        refine ⟨⟨rfl, hP.tr g1, g2.trans h89, Or.inl ⟨rfl, h3, _, _, _, f', h2, w', ?_, eqs, by omega, rn, by omega, fx2⟩⟩, ?_⟩
        · rw [len1]
          show e'.2.2.2.1 + (e'.2.2.2.2.1 + 1) = ((A'.length + 1 : Nat) : Int)
          omega
        · show (if S2.1 54 59 = -2 then (if (1 : Int) = 0 then 1 else (n + 3 - r).toNat + 2) else 0) < (if S'.1 54 59 = -2 then (if (1 : Int) = 0 then 1 else (n + 3 - l4).toNat + 2) else 0)
          rw [if_pos h3, if_pos b, if_neg (by decide), if_neg (by decide)]
          omega
      · rw [h1] at fx2
        refine ⟨⟨rfl, hP.tr g1, g2.trans h89, Or.inr (Or.inr ⟨rfl, fx2, h2, h3, h4⟩)⟩, ?_⟩
        show (if S2.1 54 59 = -2 then _ else 0) < (if S'.1 54 59 = -2 then (if (1 : Int) = 0 then 1 else (n + 3 - l4).toNat + 2) else 0)
        rw [if_neg h2, if_pos b, if_neg (by decide)]
        omega
    · exact ⟨⟨by decide, by decide⟩, fun _ => stop (fun z => hg z.2), fun z => absurd rfl z⟩
  · exact ⟨⟨by decide, by decide⟩, fun _ => hK l4 S' hP h89 (Or.inl ⟨e', A', V', fx, eqs, m, w, pl, ln, b⟩), fun z => absurd rfl z⟩
  · exact ⟨⟨by decide, by decide⟩, fun z => absurd z (by decide), fun _ _ => ⟨fun _ => hK l4 S' hP h89 (Or.inr ⟨fx, b, b2, b3⟩), fun z => absurd b z⟩⟩
/-- what a tag leaves -/
def BtO (T : Int → Int) (n p : Int) (S S' : St) (m : Nat) (x : Option (Xs × Int × Bool)) (r : Int) : Prop := PF S S' ∧ ((∃ s' b, x = some (s', r, b) ∧ mX S' s' ∧ mO S' T s'.1 ∧ WX n s' r ∧ s'.1.length = m + 1 ∧ p < r ∧ r ≤ n ∧ S'.1 54 59 = -2 ∧ S'.1 54 60 = (if b = true then 1 else 0)) ∨ (x = none ∧ ¬ S'.1 54 59 = -2 ∧ iv (-2) 4000 (S'.1 54 59) ∧ iv 0 3030 r))
/-- the end of the tag -/
theorem n_302 {S0 : St} {e' : Xe} {A' : List Xa} {V' : List (Int × Int)} {r : Int} (hX : TX T n) (hP0 : PF S0 S) (hD : dTx S T n) (hm : mX S (E ++ [e'], A', V')) (hw : WX n (E ++ [e'], A', V') r) (hO : mO S T (E ++ [e'])) (hb : S.1 54 59 = -2) (pr : p < r) (p0 : 0 ≤ p) (rn : r ≤ n) (hK : ∀ r' S', BtO T n p S0 S' E.length (if T r = 62 then some ((up2 (E ++ [e']) V'.length, A', V'), r + 1, true) else if T r = 47 ∧ T (r + 1) = 62 then some ((up2 (E ++ [e']) V'.length, A', V'), r + 2, false) else none) r' → K r' S') : wX11_beginTag_302 r S K := by
  have hn := hX.1
  have bt := tx_rng hX (show 0 ≤ r by omega)
  have bt1 := tx_rng hX (show 0 ≤ r + 1 by omega)
  have good : ∀ (S1 : St) (c r' : Int) (b : Bool), S1 = pI S 54 60 c → c = (if b = true then 1 else 0) → r < r' → r' ≤ n → (if T r = 62 then some ((up2 (E ++ [e']) V'.length, A', V'), r + 1, true) else if T r = 47 ∧ T (r + 1) = 62 then some ((up2 (E ++ [e']) V'.length, A', V'), r + 2, false) else none) = some ((up2 (E ++ [e']) V'.length, A', V'), r', b) → K r' S1 := fun S1 c r' b e1 hc h1 h2 hx => by
    refine hK r' S1 ⟨hP0.tr ?_, Or.inl ⟨_, b, hx, ?_, fun k hk => ?_, (WX_up2 hw).le (by omega), up2_len, by omega, h2, ?_, ?_⟩⟩
    · rw [e1]
      exact ⟨fun j _ _ _ _ q => if_neg (fun z => q z.2), fun _ _ => rfl⟩
    · rw [e1]
      exact (mX_up2 hm).mv rfl rfl rfl rfl
    · have hk : k < (up2 (E ++ [e']) V'.length).length := hk
      rw [up2_len] at hk
      rw [e1]
      refine (hO k (by rw [len1]; exact hk)).trans (ocn_cg (fun i hi => ?_) k (Nat.le_refl _))
      obtain ⟨g1, g2, g3, -⟩ := up2_k (L := E) (e := e') (t := V'.length) (k := i) (by omega)
      exact ⟨g1.symm, g2.symm, g3.symm⟩
    · rw [e1]
      exact hb
    · rw [e1, ← hc]
      rfl
  have no : ∀ (S1 : St) (z : Int), S1 = pI S 54 60 0 → ¬ T r = 62 → ¬ (T r = 47 ∧ T (r + 1) = 62) → iv 0 4000 z → wX11_fail z S1 (fun _ S2 => K (r + 2) S2) := fun S1 z e1 h1 h2 hz => by
    refine n_fail (by rw [e1]; show iv (-2) 4000 (S.1 54 59); rw [hb]; exact ⟨by decide, by decide⟩) hz (fun S2 f1 f2 f3 f4 f5 => hK (r + 2) S2 ⟨hP0.tr (PF.tr ?_ f1.pf), Or.inr ⟨?_, f4, f5, by omega, by omega⟩⟩)
    · rw [e1]
      exact ⟨fun j _ _ _ _ q => if_neg (fun z => q z.2), fun _ _ => rfl⟩
    · rw [if_neg h1, if_neg h2]
  unfold wX11_beginTag_302
  refine fun _ => ⟨fun _ => ⟨⟨by omega, by omega⟩, n_doc hX hD (by omega) ⟨⟨by omega, by omega⟩, fun z => ?_, fun z => ?_⟩⟩, fun z => absurd hb z⟩
  · unfold wX11_beginTag_331
    refine ⟨⟨by decide, by decide⟩, fun S1 e1 _ => ?_⟩
    have h60 : S1.1 54 60 = 0 := by rw [e1]; rfl
    have d1 : dTx S1 T n := hD.mv (by rw [e1]; rfl) (by rw [e1]; rfl)
    refine ⟨fun _ => ⟨⟨by omega, by omega⟩, n_doc hX d1 (by omega) ⟨⟨by omega, by omega⟩, fun z2 => ⟨⟨by omega, by omega⟩, n_doc hX d1 (by omega) ⟨⟨by omega, by omega⟩, fun z3 => ?_, fun z3 => no S1 (r + 1) e1 z (fun w => z3 w.2) ⟨by omega, by omega⟩⟩⟩, fun z2 => no S1 r e1 z (fun w => z2 w.1) ⟨by omega, by omega⟩⟩⟩, fun w => absurd h60 w⟩
    have q2 : r + 1 < n := Int.lt_of_not_ge (fun w => by
      have := hX.2.2 _ w
      omega)
    refine good S1 0 (r + 2) false e1 rfl (by omega) (by omega) ?_
    rw [if_neg z, if_pos ⟨z2, z3⟩]
  · have z := Classical.not_not.mp z
    unfold wX11_beginTag_331
    refine ⟨⟨by decide, by decide⟩, fun S1 e1 _ => ?_⟩
    have h60 : S1.1 54 60 = 1 := by rw [e1]; rfl
    have q2 : r < n := Int.lt_of_not_ge (fun w => by
      have := hX.2.2 _ w
      omega)
    refine ⟨fun w => absurd (h60.symm.trans w) (by decide), fun _ => good S1 1 (r + 1) true e1 rfl (by omega) (by omega) ?_⟩
    rw [if_pos z]
end XC

