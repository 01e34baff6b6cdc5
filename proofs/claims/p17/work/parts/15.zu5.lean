/-! READING XML: the class reads a tag that begins -/
/-- names begin as names do -/
def nBE (T : Int → Int) (E : List Xe) : Prop := ∀ k : Nat, k < E.length → nBg (T ((E.getD k e6).1 + 1))
def PY (T : Int → Int) (n : Int) (S : St) (s : Xs) (p o d : Int) : Prop := cX S s ∧ KD S s.1 ∧ SD S s.1 s.2.2 ∧ TD S s.2.2 s.1.length ∧ OD s.1 s.2.2 ∧ WX n s p ∧ S.1 220 3 = p ∧ S.1 220 4 = o ∧ S.1 220 5 = d ∧ S.1 220 6 = -1 ∧ (0 ≤ o → o < s.1.length ∧ (¬ 0 < S.2 10 o → S.2 14 o = s.2.2.length)) ∧ nBE T s.1
theorem cX_up2 {S : St} {L : List Xe} {e : Xe} {A : List Xa} {V : List (Int × Int)} {t : Int} (h : cX S (L ++ [e], A, V)) : cX S (up2 (L ++ [e]) t, A, V) := by
  obtain ⟨⟨h1, h2⟩, h3⟩ := h
  refine ⟨⟨?_, fun k hk => ?_⟩, h3⟩
  · show S.1 3 16 = ((up2 (L ++ [e]) t).length : Int)
    rw [up2_len, h1]
    show (((L ++ [e]).length : Nat) : Int) = _
    rw [len1]
  · have hk : k < (up2 (L ++ [e]) t).length := hk
    rw [up2_len] at hk
    obtain ⟨g1, g2, g3, g4, g5⟩ := up2_k (L := L) (e := e) (t := t) hk
    have := h2 k (by show k < (L ++ [e]).length; rw [len1]; exact hk)
    show S.2 6 k = ((up2 (L ++ [e]) t).getD k e6).1 ∧ S.2 7 k = ((up2 (L ++ [e]) t).getD k e6).1 + 1 ∧ S.2 8 k = ((up2 (L ++ [e]) t).getD k e6).2.1 ∧ S.2 9 k = ((up2 (L ++ [e]) t).getD k e6).2.2.1 ∧ S.2 11 k = ((up2 (L ++ [e]) t).getD k e6).2.2.2.1 ∧ S.2 12 k = ((up2 (L ++ [e]) t).getD k e6).2.2.2.2.1
    rw [g1, g2, g3, g4, g5]
    exact this
theorem gD_a {α : Type} {L M : List α} {d : α} {k : Nat} (h : k < L.length) : (L ++ M).getD k d = L.getD k d := by
  rw [List.getD_eq_getElem?_getD, List.getElem?_append_left h, ← List.getD_eq_getElem?_getD]
theorem gD_b {α : Type} {L M : List α} {d : α} {k : Nat} (h : L.length ≤ k) : (L ++ M).getD k d = M.getD (k - L.length) d := by
  rw [List.getD_eq_getElem?_getD, List.getElem?_append_right h, ← List.getD_eq_getElem?_getD]
/-- signs of values are nobody's -/
def nOw (W : List (Int × Int)) : Prop := ∀ k : Nat, k < W.length → (W.getD k (0, 0)).2 = -2
theorem nOw.map (l : List Int) : nOw (l.map (fun u => (u, (-2 : Int)))) := fun k hk => by
  rw [List.length_map] at hk
  rw [List.getD_eq_getElem?_getD, List.getElem?_map, List.getElem?_eq_getElem hk]
  rfl
theorem nOw.app {W W' : List (Int × Int)} (h : nOw W) (g : nOw W') : nOw (W ++ W') := fun k hk => by
  rw [List.length_append] at hk
  by_cases c : k < W.length
  · rw [gD_a c]
    exact h k c
  · rw [gD_b (by omega)]
    exact g _ (by omega)
theorem ow_app {V W : List (Int × Int)} (h : nOw W) {i : Nat} (hi : i < (V ++ W).length) {k : Int} (k0 : 0 ≤ k) (e : ((V ++ W).getD i (0, 0)).2 = k) : i < V.length := by
  refine Nat.lt_of_not_le (fun c => ?_)
  rw [gD_b c] at e
  rw [List.length_append] at hi
  have := h (i - V.length) (by omega)
  omega
/-- a new element is there, and more signs that are nobody's -/
theorem KD_new {S S' : St} {n p o : Int} {E : List Xe} {A : List Xa} {V : List (Int × Int)} {e : Xe} (h : KD S E) (hw : WX n (E, A, V) p) (h10 : ∀ y, S'.2 10 y = if 0 ≤ o ∧ y = o then S.2 10 y + 1 else if y = (E.length : Int) then 0 else S.2 10 y) (ho : o < E.length) (he : e.2.2.1 = o) : KD S' (E ++ [e]) := by
  have par : ∀ j, j < E.length → (E.getD j e6).2.2.1 < (j : Int) := fun j hj => (hw.2.2.1 j hj).2.2.2.2.1
  intro k hk
  rw [len1] at hk ⊢
  rw [h10]
  by_cases c : k = E.length
  · rw [if_neg (by omega), if_pos (by omega)]
    refine ⟨Int.le_refl _, by omega, ⟨fun z => absurd z (by decide), fun ⟨j, hj, ej⟩ => ?_⟩⟩
    by_cases cj : j = E.length
    · rw [gD_r cj, he] at ej
      omega
    · rw [gD_l (by omega)] at ej
      have := par j (by omega)
      omega
  · obtain ⟨a1, a2, a3⟩ := h k (by omega)
    by_cases co : 0 ≤ o ∧ (k : Int) = o
    · rw [if_pos co]
      exact ⟨by omega, by omega, ⟨fun _ => ⟨E.length, by omega, by rw [gD_r rfl, he]; omega⟩, fun _ => by omega⟩⟩
    · have ck : ¬ (k : Int) = (E.length : Int) := by
        clear a3
        omega
      rw [if_neg co, if_neg ck]
      refine ⟨a1, by clear a3; omega, a3.trans ⟨fun ⟨j, hj, ej⟩ => ⟨j, by omega, by rw [gD_l hj]; exact ej⟩, fun ⟨j, hj, ej⟩ => ?_⟩⟩
      by_cases cj : j = E.length
      · rw [gD_r cj, he] at ej
        exact absurd ⟨by omega, ej.symm⟩ co
      · rw [gD_l (by omega)] at ej
        exact ⟨j, by omega, ej⟩
theorem SD_new {S S' : St} {E E' : List Xe} {V W : List (Int × Int)} (h : SD S E V) (hO : OD E V) (hW : nOw W) (h15 : ∀ y, S'.2 15 y = if y = (E.length : Int) then 0 else S.2 15 y) (hl : E'.length = E.length + 1) : SD S' E' (V ++ W) := by
  intro k hk
  rw [hl] at hk
  rw [h15]
  by_cases c : k = E.length
  · rw [if_pos (by omega)]
    refine Or.inr ⟨rfl, fun i hi ei => ?_⟩
    have hi' := ow_app hW hi (by omega) ei
    rw [gD_a hi'] at ei
    have := hO i hi'
    omega
  · rw [if_neg (by omega)]
    rcases h k (by omega) with ⟨a1, i, a2, a3, a4⟩ | ⟨a1, a2⟩
    · exact Or.inl ⟨a1, i, by rw [List.length_append]; omega, by rw [gD_a a2]; exact a3, by rw [gD_a a2]; exact a4⟩
    · refine Or.inr ⟨a1, fun i hi ei => ?_⟩
      have hi' := ow_app hW hi (by omega) ei
      rw [gD_a hi'] at ei ⊢
      exact a2 i hi' ei
theorem TD_new {S S' : St} {E : List Xe} {V W : List (Int × Int)} {o : Int} (h : TD S V E.length) (hO : OD E V) (hK : KD S E) (hW : nOw W) (h10 : ∀ y, S'.2 10 y = if 0 ≤ o ∧ y = o then S.2 10 y + 1 else if y = (E.length : Int) then 0 else S.2 10 y) (h13 : ∀ y, S'.2 13 y = if y = (E.length : Int) then ((V ++ W).length : Int) else S.2 13 y) (h14 : ∀ y, S'.2 14 y = if y = (E.length : Int) then ((V ++ W).length : Int) else S.2 14 y) : TD S' (V ++ W) (E.length + 1) := by
  have hlen : (V ++ W).length = V.length + W.length := List.length_append
  intro k hk
  rw [h13, h14]
  by_cases c : k = E.length
  · rw [if_pos (by omega), if_pos (by omega)]
    refine ⟨by omega, Int.le_refl _, Int.le_refl _, fun _ i hi => ⟨fun ei => ?_, fun z => by omega⟩⟩
    have hi' := ow_app hW hi (by omega) ei
    rw [gD_a hi'] at ei
    have := hO i hi'
    omega
  · rw [if_neg (by omega), if_neg (by omega)]
    obtain ⟨a1, a2, a3, a4⟩ := h k (by omega)
    refine ⟨a1, a2, by omega, fun hz i hi => ?_⟩
    have hz' : ¬ 0 < S.2 10 k := by
      rw [h10] at hz
      by_cases co : 0 ≤ o ∧ (k : Int) = o
      · rw [if_pos co] at hz
        omega
      · rw [if_neg co, if_neg (by omega)] at hz
        exact hz
    refine ⟨fun ei => ?_, fun z => ?_⟩
    · have hi' := ow_app hW hi (by omega) ei
      rw [gD_a hi'] at ei
      exact (a4 hz' i hi').mp ei
    · have hi' : i < V.length := by omega
      rw [gD_a hi']
      exact (a4 hz' i hi').mpr z
section YB
variable {S : St} {K : Int → St → Prop} {T : Int → Int} {n p o d : Int} {L E : List Xe} {A : List Xa} {V : List (Int × Int)} {e : Xe}
/-- what a tag leaves -/
def BcO (T : Int → Int) (n p o d : Int) (S S' : St) (m : Nat) (x : Option (Xs × Int × Bool)) : Prop := CF S S' ∧ ((∃ s' r b, x = some (s', r, b) ∧ PY T n S' s' r (if b = true then (m : Int) else o) (if b = true then d + 1 else d) ∧ s'.1.length = m + 1 ∧ p + 2 < r ∧ r ≤ n) ∨ (x = none ∧ ¬ S'.1 220 6 = -1))
set_option maxHeartbeats 1000000 in
theorem k_start (hX : TX T n) (hC : rTx S T n) (hP : PY T n S (E, A, V) p o d) (hl : E.length < 200) (hd : iv (-4000) 4000 d) (ho : -1 ≤ o) (ho' : o < E.length) (p0 : 0 ≤ p) (p1 : p < n) (hK : ∀ S', BcO T n p o d S S' E.length (stg T (E, A, V) p o) → K 0 S') : wX9_startTag S K := by
  have hn := hX.1
  obtain ⟨⟨hE, hA, hV⟩, hk, hs, ht, hod, hw, e3, e4, e5, e6', h4, hnb⟩ := hP
  have hE : cXe S E := hE
  have hA : cXa S A := hA
  have hV : cXv S V := hV
  have hk : KD S E := hk
  have hs : SD S E V := hs
  have ht : TD S V E.length := ht
  have hod : OD E V := hod
  have w1 : (V.length : Int) ≤ p := hw.1
  have w2 : 5 * (A.length : Int) ≤ p := hw.2.1
  have b1 := tx_rng hX (show 0 ≤ p + 1 by omega)
  obtain ⟨x, hx⟩ : ∃ x, x = stg T (E, A, V) p o := ⟨_, rfl⟩
  rw [← hx] at hK
  unfold wX9_startTag
  intro _
  rw [e3]
  refine ⟨⟨by omega, by omega⟩, fun S2 e2 => ?_⟩
  have p2 : S2.1 220 3 = p + 1 := by rw [e2]; exact pI_v
  have hC2 : rTx S2 T n := by rw [e2]; exact hC.pi
  refine k_name hX hC2 p2 (by omega) (by omega) ?_
  by_cases hg : nBg (T (p + 1))
  rotate_left
  · rw [if_neg hg]
    have p4 : (pI S2 220 3 (p + 1)).1 220 3 = p + 1 := pI_v
    rw [p4]
    refine fun _ => ⟨fun z => absurd rfl z, fun _ S11 e11 => hK S11 ⟨?_, Or.inr ⟨?_, ?_⟩⟩⟩
    · rw [e11, e2]
      exact (CF.pi.tr CF.pi).tr CF.pi
    · rw [hx]
      unfold stg
      rw [if_neg hg]
    · rw [e11, pI_v]
      omega
  rw [if_pos hg]
  have pn : p + 1 < n := hX.in (by omega)
  have hN := rNm_b hX (by omega) (show nIn (T (p + 1)) by omega)
  obtain ⟨to, hto⟩ : ∃ to, to = rNm T (p + 1) := ⟨_, rfl⟩
  rw [← hto] at hN ⊢
  obtain ⟨S4, hS4⟩ : ∃ S4, S4 = pI S2 220 3 to := ⟨_, rfl⟩
  rw [← hS4]
  have e4' : S4 = pI S 220 3 to := by rw [hS4, e2, pI_pI]
  have p4 : S4.1 220 3 = to := by rw [e4']; exact pI_v
  have o4 : S4.1 220 4 = o := by rw [e4', pI_j (by decide)]; exact e4
  have q4 : ∀ a j, ¬ (a = 220 ∧ j = 3) → S4.1 a j = S.1 a j := fun a j h => by rw [e4']; exact pI_j h
  have z4 : S4.2 = S.2 := by rw [e4']; rfl
  rw [p4]
  refine fun _ => ⟨fun _ => ?_, fun z => absurd (by omega) z⟩
  rw [o4]
  refine fun _ => ?_
  have hE4 : cXe S4 E := hE.mv (q4 3 16 (by decide)) (fun a _ _ => by rw [z4])
  have hA4 : cXa S4 A := hA.mv (q4 3 17 (by decide)) (fun a _ _ => by rw [z4])
  refine k_begin hE4.1 hA4.1 (trs_of hE4 hA4 hw) hl ho ho' (fun o0 => ?_) ⟨by omega, by omega⟩ (fun S9 h9 => ?_)
  · have := hk o.toNat (by omega)
    rw [show ((o.toNat : Nat) : Int) = o by omega] at this
    rw [z4]
    exact ⟨this.1, by omega⟩
  obtain ⟨g16, g1, g6, g7, g8, g9, g10, g11, g12, g15, g2⟩ := h9
  rw [z4] at g6 g7 g8 g9 g10 g11 g12 g15 g2
  have c9 : ∀ a j, ¬ (a = 3 ∧ j = 16) → ¬ (a = 220 ∧ j = 3) → S9.1 a j = S.1 a j := fun a j h h' => (g1 a j h).trans (q4 a j h')
  have hF9 : CF S S9 := ⟨fun a k1 k2 k3 => funext fun j => c9 a j (fun z => k1 z.1) (fun z => k3 z.1), fun a k1 k2 => g2 a (by omega) (by omega) (by omega) (by omega) (by omega) (by omega) (by omega) (by omega)⟩
  have hlen := len1 (L := E) (e := ((p, to, o, (A.length : Int), 0, 0) : Xe))
  have hM9 : cX S9 (E ++ [(p, to, o, (A.length : Int), 0, 0)], A, V) := by
    refine ⟨⟨?_, fun k hk => ?_⟩, hA.mv (c9 3 17 (by decide) (by decide)) (fun a k1 k2 => g2 a (by omega) (by omega) (by omega) (by omega) (by omega) (by omega) (by omega) (by omega)), hV.mv (c9 4 1 (by decide) (by decide)) (g2 4 (by decide) (by decide) (by decide) (by decide) (by decide) (by decide) (by decide) (by decide))⟩
    · show S9.1 3 16 = ((E ++ [(p, to, o, (A.length : Int), 0, 0)]).length : Int)
      rw [g16, hlen]
      rfl
    · have hk : k < (E ++ [((p, to, o, (A.length : Int), 0, 0) : Xe)]).length := hk
      rw [hlen] at hk
      show S9.2 6 k = ((E ++ [((p, to, o, (A.length : Int), 0, 0) : Xe)]).getD k e6).1 ∧ S9.2 7 k = ((E ++ [((p, to, o, (A.length : Int), 0, 0) : Xe)]).getD k e6).1 + 1 ∧ S9.2 8 k = ((E ++ [((p, to, o, (A.length : Int), 0, 0) : Xe)]).getD k e6).2.1 ∧ S9.2 9 k = ((E ++ [((p, to, o, (A.length : Int), 0, 0) : Xe)]).getD k e6).2.2.1 ∧ S9.2 11 k = ((E ++ [((p, to, o, (A.length : Int), 0, 0) : Xe)]).getD k e6).2.2.2.1 ∧ S9.2 12 k = ((E ++ [((p, to, o, (A.length : Int), 0, 0) : Xe)]).getD k e6).2.2.2.2.1
      rw [g6, g7, g8, g9, g11, g12]
      by_cases c : k = E.length
      · rw [gD_r c, if_pos (show (k : Int) = E.length by omega), if_pos (show (k : Int) = E.length by omega), if_pos (show (k : Int) = E.length by omega), if_pos (show (k : Int) = E.length by omega), if_pos (show (k : Int) = E.length by omega), if_pos (show (k : Int) = E.length by omega)]
        exact ⟨rfl, rfl, rfl, rfl, rfl, rfl⟩
      · rw [gD_l (by omega), if_neg (show ¬ (k : Int) = E.length by omega), if_neg (show ¬ (k : Int) = E.length by omega), if_neg (show ¬ (k : Int) = E.length by omega), if_neg (show ¬ (k : Int) = E.length by omega), if_neg (show ¬ (k : Int) = E.length by omega), if_neg (show ¬ (k : Int) = E.length by omega)]
        exact hE.2 k (by omega)
  have hw9 : WX n (E ++ [(p, to, o, (A.length : Int), 0, 0)], A, V) to := by
    refine ⟨by show (V.length : Int) ≤ to; omega, by show 5 * (A.length : Int) ≤ to; omega, fun k hk => ?_, hw.2.2.2⟩
    have hk : k < (E ++ [((p, to, o, (A.length : Int), 0, 0) : Xe)]).length := hk
    rw [hlen] at hk
    show 0 ≤ ((E ++ [((p, to, o, (A.length : Int), 0, 0) : Xe)]).getD k e6).1 ∧ ((E ++ [((p, to, o, (A.length : Int), 0, 0) : Xe)]).getD k e6).1 + 1 < ((E ++ [((p, to, o, (A.length : Int), 0, 0) : Xe)]).getD k e6).2.1 ∧ ((E ++ [((p, to, o, (A.length : Int), 0, 0) : Xe)]).getD k e6).2.1 ≤ n ∧ -1 ≤ ((E ++ [((p, to, o, (A.length : Int), 0, 0) : Xe)]).getD k e6).2.2.1 ∧ ((E ++ [((p, to, o, (A.length : Int), 0, 0) : Xe)]).getD k e6).2.2.1 < k ∧ 0 ≤ ((E ++ [((p, to, o, (A.length : Int), 0, 0) : Xe)]).getD k e6).2.2.2.1 ∧ 0 ≤ ((E ++ [((p, to, o, (A.length : Int), 0, 0) : Xe)]).getD k e6).2.2.2.2.1 ∧ ((E ++ [((p, to, o, (A.length : Int), 0, 0) : Xe)]).getD k e6).2.2.2.1 + ((E ++ [((p, to, o, (A.length : Int), 0, 0) : Xe)]).getD k e6).2.2.2.2.1 ≤ A.length
    by_cases c : k = E.length
    · rw [gD_r c]
      exact ⟨p0, hN.1, hN.2, ho, by show o < k; omega, by show (0 : Int) ≤ A.length; omega, Int.le_refl _, by show (A.length : Int) + 0 ≤ A.length; omega⟩
    · rw [gD_l (by omega)]
      exact hw.2.2.1 k (by show k < E.length; omega)
  have hst : x = match ats T A.length 3001 (E ++ [(p, to, o, (A.length : Int), 0, 0)], A, V) to with | none => none | some r => if T r.2 = 62 then some ((up2 r.1.1 r.1.2.2.length, r.1.2), r.2 + 1, true) else if T r.2 = 47 ∧ T (r.2 + 1) = 62 then some ((up2 r.1.1 r.1.2.2.length, r.1.2), r.2 + 2, false) else none := by
    rw [hx]
    unfold stg
    rw [if_pos hg, ← hto]
    rfl
  have h13 : S9.2 13 = S.2 13 := g2 13 (by decide) (by decide) (by decide) (by decide) (by decide) (by decide) (by decide) (by decide)
  have h14 : S9.2 14 = S.2 14 := g2 14 (by decide) (by decide) (by decide) (by decide) (by decide) (by decide) (by decide) (by decide)
  refine ⟨fun l2 l3 S' => l2 = E.length ∧ CF S S' ∧ S'.2 10 = S9.2 10 ∧ S'.2 13 = S.2 13 ∧ S'.2 14 = S.2 14 ∧ S'.2 15 = S9.2 15 ∧ S'.1 220 4 = o ∧ S'.1 220 5 = d ∧ S'.1 220 6 = -1 ∧ ∃ (e' : Xe) (A' : List Xa) (W : List (Int × Int)) (pp : Int) (f : Nat), cX S' (E ++ [e'], A', V ++ W) ∧ WX n (E ++ [e'], A', V ++ W) pp ∧ S'.1 220 3 = pp ∧ e'.1 = p ∧ e'.2.2.1 = o ∧ e'.2.2.2.1 = A.length ∧ e'.2.2.2.1 + e'.2.2.2.2.1 = A'.length ∧ l3 = (A'.length : Int) - A.length ∧ 0 ≤ l3 ∧ p + 1 < pp ∧ pp ≤ n ∧ nOw W ∧ n + 1 - pp ≤ f ∧ ats T A.length f (E ++ [e'], A', V ++ W) pp = ats T A.length 3001 (E ++ [(p, to, o, (A.length : Int), 0, 0)], A, V) to, fun l2 l3 S' => (n + 1 - S'.1 220 3).toNat, ⟨rfl, hF9, rfl, h13, h14, rfl, (c9 220 4 (by decide) (by decide)).trans e4, (c9 220 5 (by decide) (by decide)).trans e5, (c9 220 6 (by decide) (by decide)).trans e6', (p, to, o, (A.length : Int), 0, 0), A, [], to, 3001, by rw [List.append_nil]; exact hM9, by rw [List.append_nil]; exact hw9, by rw [g1 220 3 (by decide)]; exact p4, rfl, rfl, rfl, by show (A.length : Int) + 0 = A.length; omega, by omega, by decide, hN.1, hN.2, fun k hk => absurd hk (Nat.not_lt_zero _), by omega, by rw [List.append_nil]⟩, ?_⟩
  rintro l2 l3 S' ⟨rfl, hF, f10, f13, f14, f15, f4, f5, f6, e', A', W, pp, f, hM, hW, hpp, e1p, ep, ef, ec, rfl, l0, pp1, ppn, hnW, ff, hats⟩
  have hC' := hC.cf hF
  obtain ⟨f', rfl⟩ : ∃ f', f = f' + 1 := ⟨f - 1, by omega⟩
  have hB := rBl_b (p := pp) hX ppn
  have wl : ((V ++ W).length : Int) ≤ pp := hW.1
  have wa : 5 * (A'.length : Int) ≤ pp := hW.2.1
  have hats2 : ats T A.length 3001 (E ++ [(p, to, o, (A.length : Int), 0, 0)], A, V) to = (if pp < rBl T pp ∧ nBg (T (rBl T pp)) then (match rAt T (E ++ [e'], A', V ++ W) A.length (rBl T pp) with | none => none | some r => ats T A.length f' r.1 r.2) else some ((E ++ [e'], A', V ++ W), rBl T pp)) := hats.symm
  refine ⟨⟨by omega, by omega⟩, fun z => absurd z (by omega), fun _ => k_s2n hX hC' hpp (by omega) ppn (fun r hr => ?_)⟩
  obtain ⟨S3, hS3⟩ : ∃ S3, S3 = pI S' 220 3 (rBl T pp) := ⟨_, rfl⟩
  rw [← hS3]
  have p3 : S3.1 220 3 = rBl T pp := by rw [hS3]; exact pI_v
  have q3 : ∀ a j, ¬ (a = 220 ∧ j = 3) → S3.1 a j = S'.1 a j := fun a j h => by rw [hS3]; exact pI_j h
  have z3 : S3.2 = S'.2 := by rw [hS3]; rfl
  have hF3 : CF S S3 := hF.tr (by rw [hS3]; exact CF.pi)
  have hM3 : cX S3 (E ++ [e'], A', V ++ W) := by rw [hS3]; exact hM
  have hC3 := hC.cf hF3
  rcases hr with ⟨rfl, h1, h2⟩ | ⟨rfl, h1⟩
  · refine ⟨⟨by decide, by decide⟩, fun z => absurd z (by decide), fun _ => ⟨⟨by omega, by omega⟩, ?_⟩⟩
    rw [if_pos ⟨h1, h2⟩] at hats2
    have qn : rBl T pp < n := hX.in (by omega)
    refine k_att hX hC3 hM3 (hW.le hB.1) p3 (by rw [q3 220 6 (by decide)]; exact f6) hl ec (by omega) qn h2 (fun S7 h7 => ?_)
    obtain ⟨i1, i2, i3, i4, i5⟩ := h7
    rw [ef, show ((A.length : Nat) : Int).toNat = A.length from Int.toNat_natCast _] at i5
    have hF7 := hF3.tr i1
    refine fun _ => ?_
    rcases i5 with ⟨s', r, j1, j2, j3, j4⟩ | ⟨j1, j2⟩
    · refine ⟨fun _ => ?_, fun z => absurd j4 z⟩
      rw [j1] at hats2
      obtain ⟨l, hs', w', q4', rn⟩ := att_ok hX hW (by omega) h1 qn h2 ec (s' := s') (r := r) (by rw [ef, show ((A.length : Nat) : Int).toNat = A.length from Int.toNat_natCast _]; exact j1)
      rw [hs', List.append_assoc] at j2 w' hats2
      refine ⟨⟨rfl, hF7, by rw [i2 10 (by decide), z3]; exact f10, by rw [i2 13 (by decide), z3]; exact f13, by rw [i2 14 (by decide), z3]; exact f14, by rw [i2 15 (by decide), z3]; exact f15, by rw [i4 4 (by decide) (by decide), q3 220 4 (by decide)]; exact f4, by rw [i4 5 (by decide) (by decide), q3 220 5 (by decide)]; exact f5, j4, _, _, W ++ l.map (fun u => (u, -2)), r, f', j2, w', j3, e1p, ep, ef, ?_, ?_, ?_, by omega, rn, hnW.app (nOw.map l), by omega, hats2.symm⟩, ?_⟩
      · rw [len1]
        show e'.2.2.2.1 + (e'.2.2.2.2.1 + 1) = ((A'.length + 1 : Nat) : Int)
        omega
      · rw [len1]
        omega
      · omega
      · show (n + 1 - S7.1 220 3).toNat < (n + 1 - S'.1 220 3).toNat
        rw [j3, hpp]
        omega
    · refine ⟨fun z => absurd z j2, fun _ => hK S7 ⟨hF7, Or.inr ⟨?_, j2⟩⟩⟩
      rw [j1] at hats2
      rw [hst, hats2]
  · refine ⟨⟨by decide, by decide⟩, fun _ => ?_, fun z => absurd rfl z⟩
    rw [if_neg h1] at hats2
    rw [hats2] at hst
    obtain ⟨r, hr⟩ : ∃ r, r = rBl T pp := ⟨_, rfl⟩
    rw [← hr] at hst p3 hB hS3
    have hst : x = if T r = 62 then some ((up2 (E ++ [e']) (V ++ W).length, A', V ++ W), r + 1, true) else if T r = 47 ∧ T (r + 1) = 62 then some ((up2 (E ++ [e']) (V ++ W).length, A', V ++ W), r + 2, false) else none := hst
    have bt := tx_rng hX (show 0 ≤ r by omega)
    have bt1 := tx_rng hX (show 0 ≤ r + 1 by omega)
    -- behind >
    have fin : ∀ (S5 : St) (c q : Int) (b : Bool), S5 = pI S' 220 3 q → T q = 62 → r ≤ q → q ≤ n → (b = true ↔ c = 0) → (c = 0 ∨ c = 1) → x = some ((up2 (E ++ [e']) (V ++ W).length, A', V ++ W), q + 1, b) → wX9_startTag_127 (E.length : Int) c S5 K := fun S5 c q b hS5 hq rq qn hbc c01 hxq => by
      have p5 : S5.1 220 3 = q := by rw [hS5]; exact pI_v
      have hF5 : CF S S5 := hF.tr (by rw [hS5]; exact CF.pi)
      have hC5 := hC.cf hF5
      have hM5 : cX S5 (E ++ [e'], A', V ++ W) := by rw [hS5]; exact hM
      have q5 : ∀ a j, ¬ (a = 220 ∧ j = 3) → S5.1 a j = S'.1 a j := fun a j h => by rw [hS5]; exact pI_j h
      have z5 : S5.2 = S'.2 := by rw [hS5]; rfl
      have hqn : q < n := hX.in (by omega)
      unfold wX9_startTag_127
      rw [p5]
      refine fun _ => k_at hX hC5 (by omega) ⟨⟨by omega, by omega⟩, fun _ => ?_, fun z => absurd hq z⟩
      rw [p5]
      refine fun _ => ⟨⟨by omega, by omega⟩, fun S7 e7 => ⟨⟨by omega, by omega⟩, ?_⟩⟩
      have e7' : S7 = pI S' 220 3 (q + 1) := by rw [e7, hS5, pI_pI]
      have q7 : ∀ a j, ¬ (a = 220 ∧ j = 3) → S7.1 a j = S'.1 a j := fun a j h => by rw [e7']; exact pI_j h
      have z7 : S7.2 = S'.2 := by rw [e7']; rfl
      have h16 : S7.1 3 16 = ((E ++ [e']).length : Int) := by rw [q7 3 16 (by decide)]; exact hM.1.1
      have hl7 : S7.1 4 1 = ((V ++ W).length : Int) := by rw [q7 4 1 (by decide)]; exact hM.2.2.1
      unfold wX6_beginText
      intro _
      refine k_has h16 (fun r' hr' => ?_)
      rcases hr' with ⟨rfl, -, -⟩ | ⟨rfl, hno⟩
      rotate_left
      · exact absurd ⟨by omega, by rw [len1]; omega⟩ hno
      refine ⟨⟨by decide, by decide⟩, fun z => absurd z (by decide), fun _ => ?_⟩
      unfold wX5_length
      rw [hl7]
      refine fun g => ⟨by omega, by omega, ⟨by omega, by omega⟩, fun S8 e8 => ?_⟩
      have hl8 : S8.1 4 1 = ((V ++ W).length : Int) := by rw [e8]; exact hl7
      rw [hl8]
      refine fun _ => ⟨by omega, by omega, ⟨by omega, by omega⟩, fun S13 e13 => ?_⟩
      have q13 : S13.1 = S7.1 := by rw [e13, e8]; rfl
      have z13 : ∀ a, a ≠ 13 → a ≠ 14 → S13.2 a = S'.2 a := fun a k1 k2 => by rw [e13, (pA_ne a k2).2, e8, (pA_ne a k1).2, z7]
      have y13 : ∀ y, S13.2 13 y = if y = (E.length : Int) then ((V ++ W).length : Int) else S.2 13 y := fun y => by
        rw [e13, (pA_ne 13 (by decide)).2, e8, pA_if, z7, f13]
      have y14 : ∀ y, S13.2 14 y = if y = (E.length : Int) then ((V ++ W).length : Int) else S.2 14 y := fun y => by
        rw [e13, pA_if, e8, (pA_ne 14 (by decide)).2, z7, f14]
      have y10 : ∀ y, S13.2 10 y = if 0 ≤ o ∧ y = o then S.2 10 y + 1 else if y = (E.length : Int) then 0 else S.2 10 y := fun y => by
        rw [z13 10 (by decide) (by decide), f10]
        exact g10 y
      have y15 : ∀ y, S13.2 15 y = if y = (E.length : Int) then 0 else S.2 15 y := fun y => by
        rw [z13 15 (by decide) (by decide), f15]
        exact g15 y
      have hF13 : CF S S13 := ⟨fun a k1 k2 k3 => by rw [q13]; exact (funext fun j => q7 a j (fun z => k3 z.1) : S7.1 a = S'.1 a).trans (hF.1 a k1 k2 k3), fun a k1 k2 => by rw [z13 a (by omega) (by omega)]; exact hF.2 a k1 k2⟩
      have hM13 : cX S13 (up2 (E ++ [e']) (V ++ W).length, A', V ++ W) := cX_up2 ⟨hM.1.mv (by rw [q13, q7 3 16 (by decide)]) (fun a k1 k2 => z13 a (by omega) (by omega)), hM.2.1.mv (by rw [q13, q7 3 17 (by decide)]) (fun a k1 k2 => z13 a (by omega) (by omega)), hM.2.2.mv (by rw [q13, q7 4 1 (by decide)]) (z13 4 (by decide) (by decide))⟩
      have hEl : (up2 (E ++ [e']) ((V ++ W).length : Int)).length = E.length + 1 := up2_len
      have hKD : KD S13 (up2 (E ++ [e']) ((V ++ W).length : Int)) := by
        rw [up2_s]
        exact KD_new hk hw y10 ho' ep
      have hSD : SD S13 (up2 (E ++ [e']) ((V ++ W).length : Int)) (V ++ W) := SD_new hs hod hnW y15 hEl
      have hTD : TD S13 (V ++ W) (up2 (E ++ [e']) ((V ++ W).length : Int)).length := by
        rw [hEl]
        exact TD_new ht hod hk hnW y10 y13 y14
      have hOD : OD (up2 (E ++ [e']) ((V ++ W).length : Int)) (V ++ W) := fun i hi => by
        rw [hEl]
        by_cases c : i < V.length
        · rw [gD_a c]
          have := hod i c
          omega
        · rw [gD_b (by omega)]
          rw [List.length_append] at hi
          have := hnW (i - V.length) (by omega)
          omega
      have hNB : nBE T (up2 (E ++ [e']) ((V ++ W).length : Int)) := fun k hk' => by
        rw [hEl] at hk'
        rw [(up2_k (L := E) (e := e') (t := ((V ++ W).length : Int)) hk').1]
        by_cases c : k = E.length
        · rw [gD_r c, e1p]
          exact hg
        · rw [gD_l (by omega)]
          exact hnb k (by show k < E.length; omega)
      have hWX : WX n (up2 (E ++ [e']) ((V ++ W).length : Int), A', V ++ W) (q + 1) := (WX_up2 hW).le (by omega)
      have p13 : S13.1 220 3 = q + 1 := by rw [q13, e7']; exact pI_v
      have j13 : ∀ j, j ≠ 3 → S13.1 220 j = S'.1 220 j := fun j hj => by rw [q13]; exact q7 220 j (fun z => hj z.2)
      refine ⟨⟨by omega, by omega⟩, fun z => ?_, fun z => ⟨⟨by omega, by omega⟩, fun S14 e14 => ?_⟩⟩
      · have hb : b = false := by
          cases b with
          | false => rfl
          | true => exact absurd (hbc.mp rfl) z
        rw [hb] at hxq
        refine hK S13 ⟨hF13, Or.inl ⟨_, q + 1, false, hxq, ⟨hM13, hKD, hSD, hTD, hOD, hWX, p13, by rw [j13 4 (by decide)]; exact f4, by rw [j13 5 (by decide)]; exact f5, by rw [j13 6 (by decide)]; exact f6, fun o0 => ⟨?_, fun hz => absurd ?_ hz⟩, hNB⟩, hEl, by omega, by omega⟩⟩
        · show o < ((up2 (E ++ [e']) ((V ++ W).length : Int)).length : Int)
          rw [hEl]
          omega
        · have o0 : 0 ≤ o := o0
          have := hk o.toNat (by omega)
          rw [show ((o.toNat : Nat) : Int) = o by omega] at this
          show 0 < S13.2 10 o
          rw [y10, if_pos ⟨o0, rfl⟩]
          omega
      · have hb : b = true := hbc.mpr (Classical.not_not.mp z)
        rw [hb] at hxq
        have d14 : S14.1 220 5 = d := by rw [e14, pI_j (by decide), j13 5 (by decide)]; exact f5
        rw [d14]
        refine fun _ => ⟨⟨by omega, by omega⟩, fun S17 e17 => ?_⟩
        have e17' : S17 = pI (pI S13 220 4 (E.length : Int)) 220 5 (d + 1) := by rw [e17, e14]
        have hF17 : CF S S17 := hF13.tr (by rw [e17']; exact CF.pi.tr CF.pi)
        refine hK S17 ⟨hF17, Or.inl ⟨_, q + 1, true, hxq, ?_, hEl, by omega, by omega⟩⟩
        rw [e17']
        refine ⟨hM13, hKD, hSD, hTD, hOD, hWX, ?_, ?_, ?_, ?_, fun _ => ⟨?_, fun _ => ?_⟩, hNB⟩
        · rw [pI_j (by decide), pI_j (by decide)]
          exact p13
        · rw [pI_j (by decide), pI_v, if_pos rfl]
        · rw [pI_v, if_pos rfl]
        · rw [pI_j (by decide), pI_j (by decide), j13 6 (by decide)]
          exact f6
        · rw [if_pos rfl]
          show (E.length : Int) < ((up2 (E ++ [e']) ((V ++ W).length : Int)).length : Int)
          rw [hEl]
          omega
        · rw [if_pos rfl]
          show S13.2 14 (E.length : Int) = ((V ++ W).length : Int)
          rw [y14, if_pos rfl]
    have no : ∀ (S5 : St) (c q : Int), S5 = pI S' 220 3 q → r ≤ q → q ≤ n → ¬ T q = 62 → x = none → wX9_startTag_127 (E.length : Int) c S5 K := fun S5 c q hS5 rq qn hq hx0 => by
      have p5 : S5.1 220 3 = q := by rw [hS5]; exact pI_v
      have hF5 : CF S S5 := hF.tr (by rw [hS5]; exact CF.pi)
      have hC5 := hC.cf hF5
      have bq := tx_rng hX (show 0 ≤ q by omega)
      unfold wX9_startTag_127
      rw [p5]
      refine fun _ => k_at hX hC5 (by omega) ⟨⟨by omega, by omega⟩, fun z => absurd z hq, fun _ => ?_⟩
      rw [p5]
      refine fun _ S20 e20 => hK S20 ⟨hF5.tr (by rw [e20]; exact CF.pi), Or.inr ⟨hx0, ?_⟩⟩
      rw [e20, pI_v]
      omega
    unfold wX9_startTag_91
    rw [p3]
    refine fun _ => k_at hX hC3 (by omega) ⟨⟨by omega, by omega⟩, fun z => ?_, fun z => ?_⟩
    · refine ⟨⟨by decide, by decide⟩, fun _ => ?_, fun w => absurd rfl w⟩
      by_cases c : T r = 62
      · refine fin S3 0 r true hS3 c (by omega) hB.2 ⟨fun _ => rfl, fun _ => rfl⟩ (Or.inl rfl) ?_
        rw [hst, if_pos c]
      · refine no S3 0 r hS3 (by omega) hB.2 c ?_
        rw [hst, if_neg c, if_neg (fun w => z w.1)]
    · have z := Classical.not_not.mp z
      have rn : r < n := hX.in (by omega)
      refine ⟨⟨by decide, by decide⟩, fun w => absurd w (by decide), fun _ => ?_⟩
      rw [p3]
      refine fun _ => ⟨⟨by omega, by omega⟩, fun S4' e4'' => ?_⟩
      have hS4' : S4' = pI S' 220 3 (r + 1) := by rw [e4'', hS3, pI_pI]
      by_cases c : T (r + 1) = 62
      · refine fin S4' 1 (r + 1) false hS4' c (by omega) (by omega) ⟨fun w => absurd w (by decide), fun w => absurd w (by decide)⟩ (Or.inr rfl) ?_
        rw [hst, if_neg (by omega), if_pos ⟨z, c⟩, show r + 1 + 1 = r + 2 by omega]
      · refine no S4' 1 (r + 1) hS4' (by omega) (by omega) c ?_
        rw [hst, if_neg (by omega), if_neg (fun w => c w.2)]
end YB

