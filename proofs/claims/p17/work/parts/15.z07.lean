/-! THE MODEL: a step of the writing -/
def FrL (S : St) (e : Env) (n : Nat) : List Fm → Prop
  | [] => True
  | q :: l => S.2 77 l.length = q.1 ∧ S.2 78 l.length = q.2.1 ∧ S.2 79 l.length = q.2.2.1 ∧ S.2 80 l.length = q.2.2.2.1 ∧ S.2 81 l.length = q.2.2.2.2.1 ∧ okO e q.1 ∧ okN e q.2.2.1 ∧ (0 ≤ q.2.1 ∧ q.2.1 < n) ∧ (0 ≤ q.2.2.2.1 ∧ q.2.2.2.1 ≤ eF e (eK e q.1)) ∧ 0 ≤ q.2.2.2.2.1 ∧ (0 < q.2.2.2.2.1 → okF e (eK e q.1) q.2.2.2.1 ∧ eD e (eK e q.1) q.2.2.2.1 = 3 ∧ q.2.2.2.2.1 ≤ eV e q.1 q.2.2.2.1 ∧ (¬ eM e (eK e q.1) q.2.2.2.1 = 1 → S.2 82 l.length = q.2.2.2.2.2 ∧ 0 ≤ q.2.2.2.2.2 ∧ q.2.2.2.2.2 < n)) ∧ FrL S e n l
theorem FrL.mv {S S' : St} {e : Env} {n n' : Nat} (hn : n ≤ n') : ∀ {l : List Fm}, (∀ (a : Nat) (j : Int), 77 ≤ a → a ≤ 82 → j < l.length → S'.2 a j = S.2 a j) → FrL S e n l → FrL S' e n' l
  | [], _, _ => trivial
  | q :: l, h, k => by
    obtain ⟨k1, k2, k3, k4, k5, k6, k7, k8, k9, k10, k11, k12⟩ := k
    have hl : ((l.length : Nat) : Int) < ((q :: l).length : Nat) := by simp; omega
    refine ⟨(h 77 _ (by decide) (by decide) hl).trans k1, (h 78 _ (by decide) (by decide) hl).trans k2, (h 79 _ (by decide) (by decide) hl).trans k3, (h 80 _ (by decide) (by decide) hl).trans k4, (h 81 _ (by decide) (by decide) hl).trans k5, k6, k7, ⟨k8.1, by omega⟩, k9, k10, fun r => ?_, FrL.mv hn (fun a j h1 h2 h3 => h a j h1 h2 (by omega)) k12⟩
    obtain ⟨a1, a2, a3, a4⟩ := k11 r
    refine ⟨a1, a2, a3, fun t => ?_⟩
    obtain ⟨b1, b2, b3⟩ := a4 t
    exact ⟨(h 82 _ (by decide) (by decide) hl).trans b1, b2, by omega⟩
theorem FrL.sk {S S' : St} {e : Env} {n n' : Nat} {l : List Fm} (hn : n ≤ n') (h : Sk S S') (k : FrL S e n l) : FrL S' e n' l := k.mv hn (fun a j h1 h2 _ => by rw [h.1 a h1 h2])
/-- signs that are still owed for the elements that are open -/
def slk (e : Env) : List Fm → Int
  | [] => 0
  | q :: l => 1 + (if 0 < q.2.2.2.2.1 ∧ ¬ eM e (eK e q.1) q.2.2.2.1 = 1 then 1 else 0) + slk e l
theorem slk_b {e : Env} : ∀ l : List Fm, 0 ≤ slk e l ∧ slk e l ≤ 2 * l.length
  | [] => ⟨Int.le_refl _, Int.le_refl _⟩
  | q :: l => by
    have := slk_b (e := e) l
    unfold slk
    simp only [List.length_cons]
    split <;> omega
/-- the loop's state -/
def LD (S : St) (e : Env) (m : Int) (s : Wt) (l : List Fm) : Prop := MT S e s ∧ S.1 54 32 = l.length ∧ FrL S e s.2.2.2.1.length l ∧ s.2.2.2.2.2 = 0 ∧ (l.length : Int) ≤ m ∧ 4 * (s.2.2.2.1.length : Int) ≤ s.1.length + slk e l ∧ S.1 54 19 = m
/-- what a step leads to -/
def Out (S : St) (e : Env) (m : Int) (F : Wt) (r : Int) (S' : St) : Prop := Ma S S' ∧ ((r = 1 ∧ ∃ s l, LD S' e m s l ∧ fnS e m l s = F) ∨ (r = 0 ∧ 0 ≤ S'.1 54 39 ∧ S'.1 54 39 ≤ 3000 ∧ F.2.2.2.2.2 = 1) ∨ (iv 0 1 r ∧ ¬ S'.1 54 39 ≤ 3000 ∧ F.2.2.2.2.2 = 0 ∧ 3000 < F.1.length))
/-- a child: something is put, or it is too deep -/
def Mc (S S' : St) (r : Int) : Prop := r = 0 ∨ S.1 54 39 < S'.1 54 39 ∨ (3000 < S.1 54 39 ∧ 3000 < S'.1 54 39)
/-- a step: something is put, or it is too deep, or the next field comes -/
def Mz (S S' : St) (r : Int) : Prop := Mc S S' r ∨ (S'.1 54 39 = S.1 54 39 ∧ S'.1 54 32 = S.1 54 32 ∧ S'.2 80 (S.1 54 32 - 1) = S.2 80 (S.1 54 32 - 1) + 1 ∧ S.2 80 (S.1 54 32 - 1) < 4)
theorem Mc.le {S T S' : St} {r : Int} (h : Mc T S' r) (k : S.1 54 39 ≤ T.1 54 39) : Mc S S' r := by
  unfold Mc at h ⊢
  omega
theorem oM_lt {S S' : St} {A B : List Int} (h : oM S A) (k : oM S' B) (hl : A.length < B.length) : S.1 54 39 < S'.1 54 39 ∨ (3000 < S.1 54 39 ∧ 3000 < S'.1 54 39) := by
  have h1 := h.1
  have k1 := k.1
  by_cases q : A.length ≤ 3000
  · rw [if_pos q] at h1
    by_cases r : B.length ≤ 3000
    · rw [if_pos r] at k1
      omega
    · rw [if_neg r] at k1
      omega
  · rw [if_neg q] at h1
    rw [if_neg (by omega)] at k1
    omega
theorem oM_le {S S' : St} {A t : List Int} (h : oM S A) (k : oM S' (A ++ t)) : S.1 54 39 ≤ S'.1 54 39 := by
  have h1 := h.1
  have k1 := k.1
  rw [List.length_append] at k1
  by_cases q : A.length ≤ 3000
  · rw [if_pos q] at h1
    split at k1 <;> omega
  · rw [if_neg q] at h1
    rw [if_neg (by omega)] at k1
    omega
section MG
variable {S : St} {K : Int → St → Prop} {e : Env} {s : Wt} {o k P m : Int} {l : List Fm} {F : Wt}
theorem eL_pos (hE : mE S e) (hk : okN e k) : 1 ≤ (eL e k).length := by
  obtain ⟨h1, h2⟩ := hE.2.2.2.2.2.2.2 k hk
  rw [h2, show (S.2 57 k).toNat = ((S.2 57 k).toNat - 1) + 1 by omega]
  unfold catF
  rw [List.length_append]
  have : 1 ≤ (xf (S.2 58 (8 * k + 0))).length := by
    unfold xf
    split
    · decide
    · split
      · decide
      · simp
  omega
theorem sTg_len (hE : mE S e) (hk : okN e k) {d : Int} : 2 ≤ (sTg e o k d).length := by
  have := eL_pos hE hk
  unfold sTg
  simp only [List.append_assoc, List.length_append, List.length_cons, List.length_nil]
  omega
theorem eTg_len (hE : mE S e) (hk : okN e k) : 4 ≤ (eTg e k).length := by
  have := eL_pos hE hk
  unfold eTg
  simp only [List.length_append, List.length_cons, List.length_nil]
  omega
theorem m_child {g : Int} (hE : mE S e) (hV : EV e) (hN : mN S e) (hmo : iv 0 3 (eO e)) (hm : iv 1 20 m) (hL : LD S e m s l) (hn : s.2.2.2.1.length < 899) (ho : okO e o) (hk : okN e k) (hg : g = if 6 ≤ k then 1 else 0) (hP : 0 ≤ P ∧ P < s.2.2.2.1.length) (hF : F = fnS e m l (ElT e (m - l.length).toNat o P k s)) (hK : ∀ r S', Out S e m F r S' → Mc S S' r → K r S') : wX11_child o P k g (eO e) S K := by
  obtain ⟨hM, h32, hFr, hdp, hlm, hbd, h19⟩ := hL
  have hob := okO_b hV ho
  have h6 := hM.2.2.2.2.2 o ho
  have hP2 : -2 ≤ P ∧ P ≠ -1 ∧ P < s.2.2.2.1.length := ⟨by omega, by omega, hP.2⟩
  have kl := eL_pos hE hk
  -- too long: whatever comes
  have over : 3000 < s.1.length → ∀ r S', Ma S S' → iv 0 1 r → ¬ S'.1 54 39 ≤ 3000 → K r S' := fun hl r S' f' hr hd => by
    refine hK r S' ⟨f', Or.inr (Or.inr ⟨hr, hd, ?_⟩)⟩ (Or.inr (Or.inr ⟨by have := (oM_len hM.1).1; omega, by omega⟩))
    have hE1 : ElT e (m - l.length).toNat o P k s = s := by
      cases (m - l.length).toNat with
      | zero => unfold ElT; rw [if_pos (Or.inr hl)]
      | succ n => unfold ElT; rw [if_pos (Or.inr hl)]
    rw [hE1] at hF
    have := fnS_st (e := e) (m := m) l s hl
    rw [← hF] at this
    exact ⟨this.2.trans hdp, this.1⟩
  have long : ∀ (S' : St) (t : Wt), MT S' e t → 3000 < t.1.length → ¬ S'.1 54 39 ≤ 3000 := fun S' t ht hl r => by
    have := (oM_len ht.1).1.mp r
    omega
  unfold wX11_child
  intro _ _ _ _ gm
  have c28 : ¬ (¬ eO e = 3 ∧ 0 < s.2.1 o) → wX11_child_28 o P k g (eO e) S K := fun hnb => by
    unfold wX11_child_28
    rw [h32, h19]
    refine fun _ _ => ⟨fun h => ⟨⟨by omega, by omega⟩, ⟨by omega, by omega⟩, ⟨by have := okN_b hV hk; omega, by have := okN_b hV hk; omega⟩, ⟨by rw [hg]; split <;> decide, by rw [hg]; split <;> decide⟩, gm, ?_⟩, fun h => ?_⟩
    · have hfu : (m - l.length).toNat = (m - (l.length + 1)).toNat + 1 := by omega
      have sl := sTg_len (o := o) (d := s.2.2.2.2.1 + 1) hE hk
      have tl : (begT e s o P k).2.2.2.1.length = s.2.2.2.1.length + 1 := by
        show (s.2.2.2.1 ++ [(P, k)]).length = _
        simp
      refine m_begin hE hV hN hM ho hk hg hP2 hn (fun q r => hnb ⟨q, r⟩) ⟨by omega, by omega⟩ (fun hc S' f' sk' M' => ?_) (fun hc S' f' p' M' => ?_)
      · have al : (ptT (begT e s o P k) [47, 62]).1.length = s.1.length + (sTg e o k (s.2.2.2.2.1 + 1)).length + 2 := by
          show (s.1 ++ sTg e o k (s.2.2.2.2.1 + 1) ++ [47, 62]).length = _
          rw [List.length_append, List.length_append]
          rfl
        by_cases q : 3000 < s.1.length
        · exact over q 1 S' f' ⟨by decide, by decide⟩ (long S' _ M' (by omega))
        · refine hK 1 S' ⟨f', Or.inl ⟨rfl, _, l, ⟨M', sk'.2.trans h32, hFr.sk (by show _ ≤ (begT e s o P k).2.2.2.1.length; omega) sk', hdp, hlm, ?_, ?_⟩, ?_⟩⟩ (Or.inr (oM_lt hM.1 M'.1 (by omega)))
          · rw [al]
            show 4 * ((begT e s o P k).2.2.2.1.length : Int) ≤ _
            omega
          · rw [f'.1 54 19 (by decide)]
            exact h19
          · rw [hF, hfu]
            unfold ElT
            rw [if_neg (by omega), if_neg hnb, hc, if_neg (by decide)]
      · have al : (ptT (begT e s o P k) [62]).1.length = s.1.length + (sTg e o k (s.2.2.2.2.1 + 1)).length + 1 := by
          show (s.1 ++ sTg e o k (s.2.2.2.2.1 + 1) ++ [62]).length = _
          rw [List.length_append, List.length_append]
          rfl
        by_cases q : 3000 < s.1.length
        · exact over q 1 S' f' ⟨by decide, by decide⟩ (long S' _ M' (by omega))
        · obtain ⟨p1, p2, p3, p4, p5, p6, p7⟩ := p'
          rw [h32] at p1 p2 p3 p4 p5 p6 p7
          refine hK 1 S' ⟨f', Or.inl ⟨rfl, _, (o, (s.2.2.2.1.length : Int), k, 0, 0, -2) :: l, ⟨M', ?_, ⟨?_, ?_, ?_, ?_, ?_, ho, hk, ⟨?_, ?_⟩, ⟨by show (0 : Int) ≤ 0; omega, ?_⟩, by show (0 : Int) ≤ 0; omega, fun r => absurd r (by show ¬ (0 : Int) < 0; omega), ?_⟩, hdp, ?_, ?_, ?_⟩, ?_⟩⟩ (Or.inr (oM_lt hM.1 M'.1 (by omega)))
          · rw [p1]
            simp
          · rw [p2, if_pos rfl]
          · rw [p3, if_pos rfl]
          · rw [p4, if_pos rfl]
          · rw [p5, if_pos rfl]
          · rw [p6, if_pos rfl]
          · show (0 : Int) ≤ (s.2.2.2.1.length : Int)
            omega
          · show (s.2.2.2.1.length : Int) < ((begT e s o P k).2.2.2.1.length : Nat)
            omega
          · exact (hV.2.2.2.1 _ (hV.2.2.1 o ho)).1
          · refine hFr.mv (by show _ ≤ (begT e s o P k).2.2.2.1.length; omega) (fun a j h1 h2 h3 => ?_)
            have hj : ¬ j = (l.length : Int) := by omega
            rcases (show a = 77 ∨ a = 78 ∨ a = 79 ∨ a = 80 ∨ a = 81 ∨ a = 82 by omega) with rfl | rfl | rfl | rfl | rfl | rfl
            · rw [p2, if_neg hj]
            · rw [p3, if_neg hj]
            · rw [p4, if_neg hj]
            · rw [p5, if_neg hj]
            · rw [p6, if_neg hj]
            · rw [p7, if_neg hj]
          · simp only [List.length_cons]
            omega
          · rw [al]
            show 4 * ((begT e s o P k).2.2.2.1.length : Int) ≤ _
            unfold slk
            have : (if (0 : Int) < (o, (s.2.2.2.1.length : Int), k, (0 : Int), (0 : Int), (-2 : Int)).2.2.2.2.1 ∧ ¬ eM e (eK e (o, (s.2.2.2.1.length : Int), k, (0 : Int), (0 : Int), (-2 : Int)).1) (o, (s.2.2.2.1.length : Int), k, (0 : Int), (0 : Int), (-2 : Int)).2.2.2.1 = 1 then (1 : Int) else 0) = 0 := if_neg (fun r => absurd r.1 (by show ¬ (0 : Int) < 0; omega))
            rw [this]
            omega
          · rw [f'.1 54 19 (by decide)]
            exact h19
          · rw [hF, hfu]
            unfold ElT
            rw [if_neg (by omega), if_neg hnb, hc, if_pos rfl]
            rw [fnS_cons, rsF_0, Int.sub_zero]
    · have hlm2 : (l.length : Int) = m := Classical.not_not.mp h
      by_cases q : 3000 < s.1.length
      · exact over q 0 S Ma.rf ⟨by decide, by decide⟩ (long S _ hM q)
      · refine hK 0 S ⟨Ma.rf, Or.inr (Or.inl ⟨rfl, by have := (oM_len hM.1).2 (by omega); omega, (oM_len hM.1).1.mpr (by omega), ?_⟩)⟩ (Or.inl rfl)
        rw [hF, show (m - l.length).toNat = 0 by omega]
        unfold ElT
        rw [if_neg (by omega), if_neg hnb]
        exact fnS_dp l _ rfl
  refine ⟨fun h => c28 (fun q => q.1 h), fun h => ⟨by omega, by omega, fun _ => ⟨fun h2 => c28 (fun q => h6.1.mp h2 q.2), fun h2 => ?_⟩⟩⟩
  have hb : 0 < s.2.1 o := by
    by_cases r : 0 < s.2.1 o
    · exact r
    · exact absurd (h6.1.mpr r) h2
  refine m_refer hE hV hN hM ho hb (by omega) hk hP2 hn (fun S' f' sk1 sk2 M' => ?_)
  have al : (ptT (addT s P k) (rfU e (addT s P k) o k s.2.2.2.1.length)).1.length = s.1.length + (rfU e (addT s P k) o k s.2.2.2.1.length).length := by
    show (s.1 ++ _).length = _
    rw [List.length_append]
  have rl : 4 ≤ (rfU e (addT s P k) o k s.2.2.2.1.length).length := by
    unfold rfU
    simp only [List.append_assoc, List.length_append, List.length_cons, List.length_nil]
    omega
  have tl : (ptT (addT s P k) (rfU e (addT s P k) o k s.2.2.2.1.length)).2.2.2.1.length = s.2.2.2.1.length + 1 := by
    show (s.2.2.2.1 ++ [(P, k)]).length = _
    simp
  by_cases q : 3000 < s.1.length
  · exact over q 1 S' f' ⟨by decide, by decide⟩ (long S' _ M' (by omega))
  · refine hK 1 S' ⟨f', Or.inl ⟨rfl, _, l, ⟨M', sk2.trans h32, hFr.sk (by omega) ⟨sk1, sk2⟩, hdp, hlm, by omega, ?_⟩, ?_⟩⟩ (Or.inr (oM_lt hM.1 M'.1 (by omega)))
    · rw [f'.1 54 19 (by decide)]
      exact h19
    · rw [hF]
      cases (m - l.length).toNat with
      | zero => unfold ElT; rw [if_neg (by omega), if_pos ⟨h, hb⟩]
      | succ n => unfold ElT; rw [if_neg (by omega), if_pos ⟨h, hb⟩]
end MG

