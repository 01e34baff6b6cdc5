/-! READING XML: what more the pure reader keeps: the order of the elements; all of it -/
def onP (E : List Xe) : Nat → Int → Int → Prop
  | 0, _, _ => False
  | t + 1, o, k => 0 ≤ o ∧ (o = k ∨ onP E t (E.getD o.toNat e6).2.2.1 k)
/-- an element that is open is the last or has the next one as a child; so has one with a child -/
def TQ (E : List Xe) (o : Int) : Prop := (∀ k t : Nat, k < E.length → onP E t o k → k + 1 = E.length ∨ (E.getD (k + 1) e6).2.2.1 = k) ∧ ∀ k j : Nat, j < E.length → (E.getD j e6).2.2.1 = k → (E.getD (k + 1) e6).2.2.1 = k
section XH
variable {T : Int → Int} {n p q r o d : Int} {V V' : List (Int × Int)} {A A' : List Xa} {L E E' : List Xe} {e : Xe} {s s' : Xs}
theorem onP_le (hP : ∀ k : Nat, k < E.length → (E.getD k e6).2.2.1 < k) : ∀ (t : Nat) (o k : Int), o < E.length → onP E t o k → k ≤ o
  | 0, _, _, _, h => h.elim
  | t + 1, o, k, ho, h => by
    obtain ⟨h0, h | h⟩ := h
    · omega
    · have := hP o.toNat (by omega)
      have := onP_le hP t _ k (by omega) h
      omega
theorem onP_eq (hP : ∀ k : Nat, k < E.length → (E.getD k e6).2.2.1 < k) (hq : ∀ k : Nat, k < E.length → (E'.getD k e6).2.2.1 = (E.getD k e6).2.2.1) : ∀ (t : Nat) (o k : Int), o < E.length → onP E' t o k → onP E t o k
  | 0, _, _, _, h => h
  | t + 1, o, k, ho, h => by
    obtain ⟨h0, h | h⟩ := h
    · exact ⟨h0, Or.inl h⟩
    · rw [hq o.toNat (by omega)] at h
      have := hP o.toNat (by omega)
      exact ⟨h0, Or.inr (onP_eq hP hq t _ k (by omega) h)⟩
theorem TQ_new (h : TQ E o) (hP : ∀ k : Nat, k < E.length → (E.getD k e6).2.2.1 < k) (o0 : 0 ≤ o) (o1 : o < E.length) (hl : E'.length = E.length + 1) (hq : ∀ k : Nat, k < E.length → (E'.getD k e6).2.2.1 = (E.getD k e6).2.2.1) (hn : (E'.getD E.length e6).2.2.1 = o) : TQ E' E.length ∧ TQ E' o := by
  -- who is open is the last or has the next
  have path : ∀ k t : Nat, onP E' t o k → (E'.getD (k + 1) e6).2.2.1 = k := fun k t hk => by
    have h1 := onP_eq hP hq t o k o1 hk
    have h2 := onP_le hP t o k o1 h1
    rcases h.1 k t (by omega) h1 with w | w
    · have : o = k := by omega
      rw [w, hn, this]
    · by_cases c : k + 1 < E.length
      · rw [hq _ c]
        exact w
      · have : k + 1 = E.length := by omega
        have : o = k := by omega
        rw [show k + 1 = E.length by omega, hn, this]
  have kid : ∀ k j : Nat, j < E'.length → (E'.getD j e6).2.2.1 = k → (E'.getD (k + 1) e6).2.2.1 = k := fun k j hj hk => by
    rw [hl] at hj
    by_cases c : j = E.length
    · rw [c, hn] at hk
      exact path k 1 ⟨o0, Or.inl hk⟩
    · rw [hq j (by omega)] at hk
      have hjk := hP j (by omega)
      have := h.2 k j (by omega) hk
      rw [hq (k + 1) (by omega)]
      exact this
  refine ⟨⟨fun k t hk hon => ?_, kid⟩, ⟨fun k t hk hon => Or.inr (path k t hon), kid⟩⟩
  cases t with
  | zero => exact hon.elim
  | succ t =>
    obtain ⟨-, w | w⟩ := hon
    · left
      omega
    · rw [show ((E.length : Int)).toNat = E.length by omega, hn] at w
      exact Or.inr (path k t w)
theorem TQ_up (h : TQ E o) (o0 : 0 ≤ o) : TQ E (E.getD o.toNat e6).2.2.1 := ⟨fun k t hk hon => h.1 k (t + 1) hk ⟨o0, Or.inr hon⟩, h.2⟩
theorem cme_ge : ∀ (f : Nat) (p : Int), cme T f p = some r → p ≤ r
  | 0, p, h => by cases h
  | f + 1, p, h => by
    unfold cme at h
    split at h
    · cases h
    · split at h
      · split at h
        · injection h with h
          omega
        · cases h
      · have := cme_ge f (p + 1) h
        omega
theorem cda_g (hX : TX T n) (hs : TSn T n) : ∀ (f : Nat) (p : Int) (l l' : List Int), 0 ≤ p → (∀ u ∈ l, isSn u) → cda T f p l = some (l', r) → (∀ u ∈ l', isSn u) ∧ 0 ≤ r
  | 0, p, l, l', _, _, h => by cases h
  | f + 1, p, l, l', p0, hl, h => by
    unfold cda at h
    split at h
    · cases h
    · rename_i h1
      split at h
      · injection h with h
        injection h with h2 h3
        rw [← h2]
        exact ⟨hl, by omega⟩
      · refine cda_g hX hs f (p + 1) (l ++ [T p]) l' (by omega) (fun u hu => ?_) h
        rcases List.mem_append.mp hu with hu | hu
        · exact hl u hu
        · rcases List.mem_cons.mp hu with rfl | hu
          · exact hs p p0 (hX.in h1)
          · cases hu
theorem GI.sg (h : GI T s) {l : List Int} (hl : ∀ u ∈ l, isSn u) : GI T (s.1, s.2.1, s.2.2 ++ l.map (fun u => (u, o))) := ⟨h.1, h.2.1, h.2.2.1, h.2.2.2.1.app hl, h.2.2.2.2⟩
theorem prs_g (hX : TX T n) (hs : TSn T n) : ∀ (f : Nat) (s : Xs) (p o d : Int), 0 ≤ p → GI T s → TQ s.1 o → 0 ≤ o → o < s.1.length → prs T f s p o d = some (s', q) → GI T s' ∧ ∃ o', TQ s'.1 o'
  | 0, s, p, o, d, _, _, _, _, _, h => by cases h
  | f + 1, s, p, o, d, p0, hG, hT, o0, o1, h => by
    unfold prs at h
    split at h
    · cases h
    · rename_i h1
      split at h
      · cases hd : dec T p with
        | none =>
          rw [hd] at h
          cases h
        | some z =>
          rw [hd] at h
          have h : prs T f (s.1, s.2.1, s.2.2 ++ [(z.1, o)]) z.2 o d = some (s', q) := h
          have hz := dec_sn hX hs p0 h1 (u := z.1) (q := z.2) hd
          exact prs_g hX hs f (s.1, s.2.1, s.2.2 ++ [(z.1, o)]) z.2 o d (by omega) (hG.sg (l := [z.1]) (fun u hu => by
            rcases List.mem_cons.mp hu with rfl | hu
            · exact hz.1
            · cases hu)) hT o0 o1 h
      · split at h
        · cases he : etg T p (s.1.getD o.toNat e6) with
          | none =>
            rw [he] at h
            cases h
          | some z =>
            rw [he] at h
            have h : (if (s.1.getD o.toNat e6).2.2.1 < 0 then some (s, z) else prs T f s z (s.1.getD o.toNat e6).2.2.1 (d - 1)) = some (s', q) := h
            split at h
            · injection h with h
              injection h with h2 h3
              rw [← h2]
              exact ⟨hG, o, hT⟩
            · rename_i hn
              have hz : 0 ≤ z := by
                unfold etg at he
                split at he
                · split at he
                  · injection he with he
                    have a1 := (eNm_le (T := T) (n := n) hX.2.2 3001 (p + 2)).1
                    have a2 := (eB_le (T := T) (n := n) hX.2.2 3001 (rNm T (p + 2))).1
                    have a1 : p + 2 ≤ rNm T (p + 2) := a1
                    have a2 : rNm T (p + 2) ≤ rBl T (rNm T (p + 2)) := a2
                    omega
                  · cases he
                · cases he
              have hk := hG.2.2.2.2 o.toNat (by omega)
              exact prs_g hX hs f s z _ (d - 1) hz hG (TQ_up hT o0) (by omega) (by omega) h
        · split at h
          · cases hc : cme T 3001 (p + 4) with
            | none =>
              rw [hc] at h
              cases h
            | some z =>
              rw [hc] at h
              have := cme_ge 3001 (p + 4) hc
              exact prs_g hX hs f s z o d (by omega) hG hT o0 o1 h
          · split at h
            · cases hc : cda T 3001 (p + 9) [] with
              | none =>
                rw [hc] at h
                cases h
              | some z =>
                rw [hc] at h
                have h : prs T f (s.1, s.2.1, s.2.2 ++ z.1.map (fun u => (u, o))) z.2 o d = some (s', q) := h
                have hz := cda_g hX hs 3001 (p + 9) [] z.1 (by omega) (fun u hu => by cases hu) (r := z.2) hc
                exact prs_g hX hs f _ z.2 o d hz.2 (hG.sg hz.1) hT o0 o1 h
            · split at h
              · cases h
              · cases hg : stg T s p o with
                | none =>
                  rw [hg] at h
                  cases h
                | some z =>
                  rw [hg] at h
                  have h : (if z.2.2 = true then prs T f z.1 z.2.1 (s.1.length : Int) (d + 1) else prs T f z.1 z.2.1 o d) = some (s', q) := h
                  obtain ⟨g1, g2, g3, g4, g5, g6⟩ := stg_g (s' := z.1) (q := z.2.1) (b := z.2.2) hX hs p0 (hX.in h1) hG (Or.inr ⟨o0, o1⟩) hg
                  have tn := TQ_new hT hG.2.2.2.2 o0 o1 g2 g3 g4
                  split at h
                  · exact prs_g hX hs f z.1 z.2.1 _ (d + 1) (by omega) g1 tn.1 (by omega) (by omega) h
                  · exact prs_g hX hs f z.1 z.2.1 o d (by omega) g1 tn.2 o0 (by omega) h
theorem pX_g (hX : TX T n) (hs : TSn T n) (h : pX T = some s) : GI T s ∧ ∃ o, TQ s.1 o := by
  have G0 : GI T (([], [], []) : Xs) := ⟨fun k hk => absurd hk (Nat.not_lt_zero _), fun k _ hk => absurd hk (Nat.not_lt_zero _), fun k hk => absurd hk (Nat.not_lt_zero _), fun u hu => (by cases hu), fun k hk => absurd hk (Nat.not_lt_zero _)⟩
  unfold pX at h
  split at h
  · rename_i h1
    have b0 : 0 ≤ rBl T 0 := (eB_le (T := T) (n := n) hX.2.2 3001 0).1
    cases hg : stg T ([], [], []) (rBl T 0) (-1) with
    | none =>
      rw [hg] at h
      cases h
    | some z =>
      rw [hg] at h
      have h : (if z.2.2 = true then (match prs T 3001 z.1 z.2.1 0 1 with | none => none | some y => if T (rBl T y.2) = -1 then some y.1 else none) else if T (rBl T z.2.1) = -1 then some z.1 else none) = some s := h
      obtain ⟨g1, g2, g3, g4, g5, g6⟩ := stg_g (s' := z.1) (q := z.2.1) (b := z.2.2) hX hs b0 (hX.in (show ¬ T (rBl T 0) = -1 by omega)) G0 (Or.inl ⟨rfl, rfl⟩) hg
      have g2 : z.1.1.length = 1 := g2
      have g4 : (z.1.1.getD 0 e6).2.2.1 = -1 := g4
      have t0 : ∀ o : Int, o ≤ 0 → TQ z.1.1 o := fun o ho => by
        refine ⟨fun k t hk hon => Or.inl (by omega), fun k j hj hk => ?_⟩
        have : j = 0 := by omega
        rw [this, g4] at hk
        omega
      split at h
      · cases hp : prs T 3001 z.1 z.2.1 0 1 with
        | none =>
          rw [hp] at h
          cases h
        | some y =>
          rw [hp] at h
          have h : (if T (rBl T y.2) = -1 then some y.1 else none) = some s := h
          split at h
          · injection h with h
            rw [← h]
            exact prs_g (s' := y.1) (q := y.2) hX hs 3001 z.1 z.2.1 0 1 (by omega) g1 (t0 0 (Int.le_refl _)) (Int.le_refl _) (by omega) hp
          · cases h
      · split at h
        · injection h with h
          rw [← h]
          exact ⟨g1, 0, t0 0 (Int.le_refl _)⟩
        · cases h
  · cases h
/-- what the rows on what elements mean ask for -/
theorem pX_ok (hX : TX T n) (hs : TSn T n) (hw : WX n s n) (h : pX T = some s) : PQ T s ∧ SV s := by
  obtain ⟨⟨g1, g2, g3, g4, g5⟩, o, t1, t2⟩ := pX_g hX hs h
  refine ⟨⟨fun x x0 x1 => ⟨fun hk => ?_, fun hk => ?_⟩, fun x x0 x1 => ?_, fun x p x0 x1 p0 p1 => ?_, fun x a b x0 x1 a0 a1 b0 b1 hq => ?_⟩, fun i hi => ?_⟩
  · obtain ⟨j, hj, hk⟩ := xKd_iff.mp hk
    have h2 := t2 x.toNat j hj (by rw [hk]; omega)
    have h3 := g5 j hj
    rw [hk] at h3
    refine ⟨by omega, ?_⟩
    unfold xPr gE
    rw [show (x + 1).toNat = x.toNat + 1 by omega, h2]
    omega
  · refine xKd_iff.mpr ⟨(x + 1).toNat, by omega, ?_⟩
    exact hk.2
  · exact g2 x.toNat (by omega) (by omega)
  · have e1 : (gE s x).2.1 = rNm T ((gE s x).1 + 1) := g1 x.toNat (by omega)
    rw [e1] at p1
    exact eNm_in 3001 _ p p0 p1
  · obtain ⟨d1, d2, d3, d4⟩ := g3 x.toNat (by omega)
    have d1 : 0 ≤ xAf s x := d1
    have d2 : 0 ≤ xAc s x := d2
    have d3 : xAf s x + xAc s x ≤ s.2.1.length := d3
    have wa := hw.2.2.2 a.toNat (by omega)
    have wb := hw.2.2.2 b.toNat (by omega)
    have hq : sbT T (gAt s a).1 (gAt s a).2.1 = sbT T (gAt s b).1 (gAt s b).2.1 := hq
    have wa1 : (gAt s a).1 < (gAt s a).2.1 := wa.2.1
    have wb1 : (gAt s b).1 < (gAt s b).2.1 := wb.2.1
    have := d4 a.toNat b.toNat (by show xAf s x ≤ _; omega) (by show _ < xAf s x + xAc s x; omega) (by show xAf s x ≤ _; omega) (by show _ < xAf s x + xAc s x; omega) ((nQ_sb (by omega) (by omega)).mpr hq)
    omega
  · refine g4 _ ?_
    rw [List.getD_eq_getElem?_getD, List.getElem?_eq_getElem hi]
    exact List.getElem_mem hi
end XH

