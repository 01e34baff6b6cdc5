/-! THE MODEL: lists, fields -/
def BS (S : St) (e : Env) (m : Int) (s : Wt) (o x k : Int) (l : List Fm) : Prop := MT S e s ∧ S.1 54 32 = l.length + 1 ∧ S.2 77 l.length = o ∧ S.2 78 l.length = x ∧ S.2 79 l.length = k ∧ FrL S e s.2.2.2.1.length l ∧ okO e o ∧ okN e k ∧ (0 ≤ x ∧ x < s.2.2.2.1.length) ∧ s.2.2.2.2.2 = 0 ∧ (l.length : Int) + 1 ≤ m ∧ S.1 54 19 = m
section ML
variable {S : St} {K : Int → St → Prop} {e : Env} {s : Wt} {o x k f i L m : Int} {l : List Fm} {F : Wt}
theorem LD.bs (h : LD S e m s ((o, x, k, f, i, L) :: l)) : BS S e m s o x k l ∧ S.2 80 l.length = f ∧ S.2 81 l.length = i ∧ (0 ≤ f ∧ f ≤ eF e (eK e o)) ∧ 0 ≤ i ∧ (0 < i → okF e (eK e o) f ∧ eD e (eK e o) f = 3 ∧ i ≤ eV e o f ∧ (¬ eM e (eK e o) f = 1 → S.2 82 l.length = L ∧ 0 ≤ L ∧ L < s.2.2.2.1.length)) ∧ 4 * (s.2.2.2.1.length : Int) ≤ s.1.length + (1 + (if 0 < i ∧ ¬ eM e (eK e o) f = 1 then 1 else 0) + slk e l) := by
  obtain ⟨h1, h2, h3, h4, h5, h6, h7⟩ := h
  obtain ⟨k1, k2, k3, k4, k5, k6, k7, k8, k9, k10, k11, k12⟩ := h3
  simp only [List.length_cons] at h2 h5
  exact ⟨⟨h1, by omega, k1, k2, k3, k12, k6, k7, k8, h4, by omega, h7⟩, k4, k5, k9, k10, k11, h6⟩
theorem BS.ld (h : BS S e m s o x k l) (h80 : S.2 80 l.length = f) (h81 : S.2 81 l.length = i) (hf : 0 ≤ f ∧ f ≤ eF e (eK e o)) (hi : 0 ≤ i) (hc : 0 < i → okF e (eK e o) f ∧ eD e (eK e o) f = 3 ∧ i ≤ eV e o f ∧ (¬ eM e (eK e o) f = 1 → S.2 82 l.length = L ∧ 0 ≤ L ∧ L < s.2.2.2.1.length)) (hb : 4 * (s.2.2.2.1.length : Int) ≤ s.1.length + (1 + (if 0 < i ∧ ¬ eM e (eK e o) f = 1 then 1 else 0) + slk e l)) : LD S e m s ((o, x, k, f, i, L) :: l) := by
  obtain ⟨b1, b2, b3, b4, b5, b6, b7, b8, b9, b10, b11, b12⟩ := h
  refine ⟨b1, by simp only [List.length_cons]; omega, ⟨b3, b4, b5, h80, h81, b7, b8, b9, hf, hi, hc, b6⟩, b10, by simp only [List.length_cons]; omega, hb, b12⟩
theorem BS.om {S' : St} {t : List Int} (h : BS S e m s o x k l) (q : Om S S') (ho : oM S' (s.1 ++ t)) : BS S' e m (ptT s t) o x k l := by
  obtain ⟨b1, b2, b3, b4, b5, b6, b7, b8, b9, b10, b11, b12⟩ := h
  exact ⟨b1.om q ho, (q.1 54 32 (by decide)).trans b2, by rw [q.2 77 (by decide)]; exact b3, by rw [q.2 78 (by decide)]; exact b4, by rw [q.2 79 (by decide)]; exact b5, b6.sk (Nat.le_refl _) q.sk, b7, b8, b9, b10, b11, (q.1 54 19 (by decide)).trans b12⟩
theorem BS.add {S' : St} {P n : Int} (h : BS S e m s o x k l) (q : NewE S S' P n) (hM : MT S' e (addT s P n)) : BS S' e m (addT s P n) o x k l := by
  obtain ⟨b1, b2, b3, b4, b5, b6, b7, b8, b9, b10, b11, b12⟩ := h
  have tl : (addT s P n).2.2.2.1.length = s.2.2.2.1.length + 1 := by
    show (s.2.2.2.1 ++ [(P, n)]).length = _
    simp
  exact ⟨hM, q.sk.2.trans b2, by rw [q.sk.1 77 (by decide) (by decide)]; exact b3, by rw [q.sk.1 78 (by decide) (by decide)]; exact b4, by rw [q.sk.1 79 (by decide) (by decide)]; exact b5, b6.sk (by omega) q.sk, b7, b8, ⟨b9.1, by omega⟩, b10, b11, (q.1 54 19 (by decide)).trans b12⟩
theorem BS.st {a : Nat} {v : Int} (h : BS S e m s o x k l) (ha : a = 80 ∨ a = 81 ∨ a = 82) : BS (pA S a l.length v) e m s o x k l := by
  obtain ⟨b1, b2, b3, b4, b5, b6, b7, b8, b9, b10, b11, b12⟩ := h
  obtain ⟨h1, h2, h3, h4, h5, h6⟩ := b1
  have ne : ∀ b, b ≠ a → (pA S a l.length v).2 b = S.2 b := fun b hb => (pA_ne b hb).2
  refine ⟨⟨?_, h2, fun y hy => ?_, h4, h5, fun y hy => ?_⟩, b2, ?_, ?_, ?_, b6.mv (Nat.le_refl _) (fun b j g1 g2 g3 => ?_), b7, b8, b9, b10, b11, b12⟩
  · unfold oM at h1 ⊢
    rw [ne 83 (by omega)]
    exact h1
  · rw [ne 72 (by omega), ne 73 (by omega), ne 74 (by omega)]
    exact h3 y hy
  · rw [ne 75 (by omega), ne 76 (by omega)]
    exact h6 y hy
  · rw [ne 77 (by omega)]
    exact b3
  · rw [ne 78 (by omega)]
    exact b4
  · rw [ne 79 (by omega)]
    exact b5
  · by_cases r : b = a
    · subst r
      rw [pA_if, if_neg (by omega)]
    · rw [ne b r]
theorem pA_ma {a : Nat} {i v : Int} (ha : a = 80 ∨ a = 81 ∨ a = 82) : Ma S (pA S a i v) := ⟨fun b j q => rfl, fun b q => (pA_ne b (by omega)).2⟩
/-- the list is through: the next field -/
theorem m_l178 {T : St} (fT : Ma S T) (hB : BS T e m s o x k l) (hm : m ≤ 20) (h80 : T.2 80 l.length = f) (hf : 0 ≤ f ∧ f < eF e (eK e o)) (hf4 : eF e (eK e o) ≤ 4) (hb : 4 * (s.2.2.2.1.length : Int) ≤ s.1.length + (1 + slk e l)) (hF : fnS e m ((o, x, k, f + 1, 0, L) :: l) s = F) (hz : S.1 54 39 < T.1 54 39 ∨ (3000 < S.1 54 39 ∧ 3000 < T.1 54 39) ∨ (T.1 54 39 = S.1 54 39 ∧ S.1 54 32 = l.length + 1 ∧ S.2 80 l.length = f)) (hK : ∀ r S', Out S e m F r S' → Mz S S' r → K r S') : wX11_lists_178 l.length T K := by
  have hlm := hB.2.2.2.2.2.2.2.2.2.2.1
  unfold wX11_lists_178
  rw [h80]
  refine ⟨by omega, by omega, fun _ => ⟨by omega, by omega, ⟨by omega, by omega⟩, fun S4 h4 => ⟨by omega, by omega, fun S7 h7 => hK 1 S7 ⟨?_, Or.inl ⟨rfl, s, _, ?_, hF⟩⟩ ?_⟩⟩⟩
  · rw [h7, h4]
    exact (fT.tr (pA_ma (Or.inl rfl))).tr (pA_ma (Or.inr (Or.inl rfl)))
  · rw [h7, h4]
    refine ((hB.st (Or.inl rfl)).st (Or.inr (Or.inl rfl))).ld ?_ ?_ ⟨by omega, by omega⟩ (by decide) (fun r => absurd r (by decide)) ?_
    · show (pA T 80 l.length (f + 1)).2 80 l.length = _
      rw [pA_if, if_pos rfl]
    · rw [pA_if, if_pos rfl]
    · rw [if_neg (fun r => absurd r.1 (by decide))]
      omega
  · have e39 : S7.1 54 39 = T.1 54 39 := by rw [h7, h4]; rfl
    have e32 : S7.1 54 32 = l.length + 1 := by rw [h7, h4]; exact hB.2.1
    have e80 : S7.2 80 l.length = f + 1 := by
      rw [h7, h4]
      show (pA T 80 l.length (f + 1)).2 80 l.length = _
      rw [pA_if, if_pos rfl]
    rcases hz with q | q | q
    · exact Or.inl (Or.inr (Or.inl (by omega)))
    · exact Or.inl (Or.inr (Or.inr ⟨q.1, by omega⟩))
    · refine Or.inr ⟨by omega, by omega, ?_⟩
      rw [show S.1 54 32 - 1 = (l.length : Int) by omega, e80, q.2.2]
      exact ⟨rfl, by omega⟩
/-- an item of the list -/
theorem m_litem {T : St} (hV : EV e) (hN : mN T e) (hE : mE T e) (hmo : iv 0 3 (eO e)) (hm : iv 1 20 m) (fT : Ma S T) (hB : BS T e m s o x k l) (hn : s.2.2.2.1.length < 899) (h80 : T.2 80 l.length = f) (h81 : T.2 81 l.length = i) (h82 : ¬ eM e (eK e o) f = 1 → T.2 82 l.length = L ∧ 0 ≤ L ∧ L < s.2.2.2.1.length) (hf : okF e (eK e o) f) (h3 : eD e (eK e o) f = 3) (hi : 0 ≤ i ∧ i < eV e o f) (hb : 4 * (s.2.2.2.1.length : Int) ≤ s.1.length + (1 + (if ¬ eM e (eK e o) f = 1 then 1 else 0) + slk e l)) (hF : F = fnS e m ((o, x, k, f, i + 1, L) :: l) (ElT e (m - (l.length + 1)).toNat (eP e o f i) (if eM e (eK e o) f = 1 then x else L) (eK e (eP e o f i)) s)) (hz : S.1 54 39 ≤ T.1 54 39) (hK : ∀ r S', Out S e m F r S' → Mz S S' r → K r S') : wX11_lists_74 l.length (4 * eK e o + f) (eV e o f) (eO e) (6 + (4 * eK e o + f)) i T K := by
  have hlm := hB.2.2.2.2.2.2.2.2.2.2.1
  have ho : okO e o := hB.2.2.2.2.2.2.1
  have hob := okO_b hV ho
  have hfb := okF_b hV hf
  have hkd := hV.2.2.2.2.1 _ _ hf
  have hv := (hV.2.2.2.2.2 _ _ ho hf).2.2.2 h3
  have ht := hv.2 i hi.1 hi.2
  have htb := okO_b hV ht
  have htc := hV.2.2.1 _ ht
  have htcb := okC_b hV htc
  have hx := hB.2.2.2.2.2.2.2.2.1
  unfold wX11_lists_74
  rw [h81]
  refine ⟨⟨by omega, by omega⟩, ⟨by omega, by omega⟩, fun h => absurd h (by omega), fun _ => ⟨by omega, by omega, fun _ => ⟨by omega, by omega, ⟨by omega, by omega⟩, fun S14 h14 => ?_⟩⟩⟩
  have hB14 : BS S14 e m s o x k l := by rw [h14]; exact hB.st (Or.inr (Or.inl rfl))
  have f14 : Ma S S14 := by rw [h14]; exact fT.tr (pA_ma (Or.inr (Or.inl rfl)))
  have fT14 : Ma T S14 := by rw [h14]; exact pA_ma (Or.inr (Or.inl rfl))
  have hE14 := hE.ma fT14
  have hN14 := hN.ma fT14
  have e80 : S14.2 80 l.length = f := by rw [h14]; exact h80
  have e81 : S14.2 81 l.length = i + 1 := by rw [h14, pA_if, if_pos rfl]
  have e82 : S14.2 82 = T.2 82 := by rw [h14]; rfl
  rw [hB14.2.2.1, e80, hE14.2.2.2.1 o f i ho hf (Or.inr h3) hi.1 hi.2]
  refine ⟨by omega, by omega, fun _ => ⟨by omega, by omega, fun _ => ⟨by omega, by omega, fun _ x22 hx22 => ?_⟩⟩⟩
  subst hx22
  rw [(hE14.2.2.2.2.2.2.1 _ _ hf).2]
  have hLD : LD S14 e m s ((o, x, k, f, i + 1, L) :: l) := hB14.ld e80 e81 ⟨hf.2.1, Int.le_of_lt hf.2.2⟩ (by omega) (fun _ => ⟨hf, h3, by omega, fun q => by rw [e82]; exact h82 q⟩) (by
    by_cases q : eM e (eK e o) f = 1
    · rw [if_neg (fun r => r.2 q)]
      rw [if_neg (fun r => r q)] at hb
      exact hb
    · rw [if_pos ⟨by omega, q⟩]
      rw [if_pos q] at hb
      exact hb)
  have child : ∀ P : Int, P = (if eM e (eK e o) f = 1 then x else L) → (0 ≤ P ∧ P < s.2.2.2.1.length) → wX11_lists_145 (eO e) (eP e o f i) P (eP e o f i) S14 K := fun P hP hP2 => by
    unfold wX11_lists_145
    rw [hE14.2.1 _ ht]
    refine ⟨by omega, by omega, fun _ => ⟨⟨by omega, by omega⟩, ⟨by omega, by omega⟩, ⟨by omega, by omega⟩, ?_⟩⟩
    refine m_child (F := F) hE14 hV hN14 hmo hm hLD hn ht (Or.inl htc) (by rw [if_neg (by omega)]) hP2 ?_ (fun r S' ho' hc' => ?_)
    · rw [hF, ← hP]
      simp only [List.length_cons]
      rfl
    · have q : Out S e m F r S' := ⟨f14.tr ho'.1, ho'.2⟩
      refine ⟨?_, hK r S' q (Or.inl (hc'.le (by rw [h14]; exact hz)))⟩
      rcases ho'.2 with r1 | r1 | r1
      · rw [r1.1]
        exact ⟨by decide, by decide⟩
      · rw [r1.1]
        exact ⟨by decide, by decide⟩
      · exact r1.1
  refine ⟨by omega, by omega, fun _ => ⟨fun h => ⟨by omega, by omega, fun _ => ?_⟩, fun h => ⟨by omega, by omega, fun _ => ?_⟩⟩⟩
  · have q : ¬ eM e (eK e o) f = 1 := by omega
    have q82 := h82 q
    rw [e82, q82.1]
    exact child L (by rw [if_neg q]) q82.2
  · have q : eM e (eK e o) f = 1 := by omega
    rw [hB14.2.2.2.1]
    exact child x (by rw [if_pos q]) hx
theorem m_lists (hE : mE S e) (hV : EV e) (hN : mN S e) (hmo : iv 0 3 (eO e)) (hm : iv 1 20 m) (hL : LD S e m s ((o, x, k, f, i, L) :: l)) (h3k : s.1.length ≤ 3000) (hf : okF e (eK e o) f) (h3 : eD e (eK e o) f = 3) (hF : F = fnS e m ((o, x, k, f, i, L) :: l) s) (hK : ∀ r S', Out S e m F r S' → Mz S S' r → K r S') : wX11_lists l.length (4 * eK e o + f) (eV e o f) (eO e) S K := by
  obtain ⟨hB, h80, h81, hf1, hi0, hc, hbd⟩ := hL.bs
  have hlm := hB.2.2.2.2.2.2.2.2.2.2.1
  have ho : okO e o := hB.2.2.2.2.2.2.1
  have hob := okO_b hV ho
  have hfb := okF_b hV hf
  have hF4 := hV.2.2.2.1 _ hf.1
  have hkd := hV.2.2.2.2.1 _ _ hf
  have hv := (hV.2.2.2.2.2 _ _ ho hf).2.2.2 h3
  have hn := nmF_ok hf
  have hnb := okN_b hV hn
  have hx := hB.2.2.2.2.2.2.2.2.1
  have hsl := slk_b (e := e) l
  have hlen : s.2.2.2.1.length < 800 := by
    have : (if 0 < i ∧ ¬ eM e (eK e o) f = 1 then (1 : Int) else 0) ≤ 1 := by split <;> decide
    omega
  have enm : (6 + (4 * eK e o + f) : Int) = nmF e o f := by unfold nmF; omega
  rw [fnS_cons] at hF
  dsimp only at hF
  unfold wX11_lists
  intro _ _ _ _ x1 hx1
  subst hx1
  rw [h81]
  refine ⟨by omega, by omega, fun _ x4 hx4 => ?_⟩
  rw [hx4]
  clear hx4 x4
  have nx : ∀ t : Wt, fnS e m ((o, x, k, f + 1, 0, L) :: l) t = fnS e m l (ptT (cnsT e (ElT e (m - (l.length + 1)).toNat) o x (eF e (eK e o) - (f + 1)).toNat (f + 1) t) (eTg e k)) := fun t => by rw [fnS_cons, rsF_0]
  refine ⟨fun h0 => ?_, fun h0 => ⟨by omega, by omega, ?_⟩⟩
  · -- within a list
    have hi : 0 < i := by omega
    obtain ⟨-, -, hiv, h82⟩ := hc hi
    rw [rsF_i h0] at hF
    by_cases q : i < eV e o f
    · refine m_litem hV hN hE hmo hm Ma.rf hB (by omega) h80 h81 h82 hf h3 ⟨hi0, q⟩ ?_ ?_ (Int.le_refl _) hK
      · by_cases q2 : eM e (eK e o) f = 1
        · rw [if_neg (fun r => r.2 q2)] at hbd
          rw [if_neg (fun r => r q2)]
          exact hbd
        · rw [if_pos ⟨hi, q2⟩] at hbd
          rw [if_pos q2]
          exact hbd
      · rw [hF, fnS_cons, rsF_i (by omega)]
        dsimp only
        by_cases q2 : eM e (eK e o) f = 1
        · rw [if_pos q2, if_pos q2, if_pos q2, itsT_succ q]
        · rw [if_neg q2, if_neg q2, if_neg q2, itsT_succ q]
    · -- through
      unfold wX11_lists_74
      rw [(hE.2.2.2.2.2.2.1 _ _ hf).2]
      refine ⟨⟨by omega, by omega⟩, ⟨by omega, by omega⟩, fun _ => ⟨by omega, by omega, fun _ => ⟨fun h2 => ?_, fun h2 => ⟨fun h4 => absurd h4 (by omega), fun _ => ⟨⟨by omega, by omega⟩, ?_⟩⟩⟩⟩, fun h => absurd h (by omega)⟩
      · have q2 : eM e (eK e o) f = 1 := by omega
        rw [if_pos q2, itsT_end (by omega)] at hF
        rw [if_neg (fun r => r.2 q2)] at hbd
        exact m_l178 (L := L) Ma.rf hB (by omega) h80 ⟨hf.2.1, hf.2.2⟩ hF4.2 (by omega) (by rw [nx, hF]) (Or.inr (Or.inr ⟨rfl, hB.2.1, h80⟩)) hK
      · have q2 : ¬ eM e (eK e o) f = 1 := by omega
        rw [if_neg q2, itsT_end (by omega)] at hF
        rw [if_pos ⟨hi, q2⟩] at hbd
        rw [enm]
        have el := eTg_len hE hn
        refine m_end hE hB.1.1 hn hnb (fun S1 f1 o1 => ?_)
        have hB1 := hB.om f1 o1
        have al : (ptT s (eTg e (nmF e o f))).1.length = s.1.length + (eTg e (nmF e o f)).length := by
          show (s.1 ++ _).length = _
          rw [List.length_append]
        refine m_l178 (L := L) f1.ma hB1 (by omega) (by rw [f1.2 80 (by decide)]; exact h80) ⟨hf.2.1, hf.2.2⟩ hF4.2 ?_ (by rw [nx, hF]) (by have q := oM_lt hB.1.1 hB1.1.1 (by omega); omega) hK
        show 4 * (s.2.2.2.1.length : Int) ≤ _
        omega
  · -- a list begins
    have hi : i = 0 := Classical.not_not.mp h0
    subst hi
    rw [if_neg (fun r => absurd r.1 (by decide))] at hbd
    rw [rsF_0, cnsT_succ hf.2.2] at hF
    have hcon : conT e (ElT e (m - (l.length + 1)).toNat) o f x s = if eM e (eK e o) f = 1 then itsT e (ElT e (m - (l.length + 1)).toNat) o f x (eV e o f).toNat 0 s else if eV e o f = 0 then ptT (addT s x (nmF e o f)) ([60] ++ eL e (nmF e o f) ++ [47, 62]) else ptT (itsT e (ElT e (m - (l.length + 1)).toNat) o f s.2.2.2.1.length (eV e o f).toNat 0 (ptT (addT s x (nmF e o f)) ([60] ++ eL e (nmF e o f) ++ [62]))) (eTg e (nmF e o f)) := by
      conv => lhs; unfold conT
      rw [if_neg (show ¬ eD e (eK e o) f ≤ 1 by omega), if_neg (show ¬ eD e (eK e o) f = 2 by omega)]
    rw [hcon] at hF
    rw [(hE.2.2.2.2.2.2.1 _ _ hf).2]
    refine fun _ => ⟨fun h2 => ?_, fun h2 => ⟨by omega, by omega, ?_⟩⟩
    · -- implicit
      have q2 : eM e (eK e o) f = 1 := by omega
      rw [if_pos q2] at hF
      by_cases q : 0 < eV e o f
      · refine m_litem (L := L) hV hN hE hmo hm Ma.rf hB (by omega) h80 h81 (fun r => absurd q2 r) hf h3 ⟨by decide, q⟩ ?_ ?_ (Int.le_refl _) hK
        · rw [if_neg (fun r => r q2)]
          exact hbd
        · rw [hF, fnS_cons, rsF_i (by decide)]
          dsimp only
          have := itsT_succ (e := e) (R := ElT e (m - (l.length + 1)).toNat) (o := o) (f := f) (P := x) (n := eV e o f) (i := 0) (s := s) q
          rw [Int.sub_zero] at this
          rw [if_pos q2, if_pos q2, this]
      · unfold wX11_lists_74
        rw [(hE.2.2.2.2.2.2.1 _ _ hf).2]
        rw [show (eV e o f).toNat = 0 by omega] at hF
        refine ⟨⟨by decide, by decide⟩, ⟨by omega, by omega⟩, fun _ => ⟨by omega, by omega, fun _ => ⟨fun _ => ?_, fun h4 => absurd h2 h4⟩⟩, fun h => absurd h (by omega)⟩
        exact m_l178 (L := L) Ma.rf hB (by omega) h80 ⟨hf.2.1, hf.2.2⟩ hF4.2 (by omega) (by rw [nx, hF]; rfl) (Or.inr (Or.inr ⟨rfl, hB.2.1, h80⟩)) hK
    · -- with an element of its own
      have q2 : ¬ eM e (eK e o) f = 1 := by omega
      rw [if_neg q2] at hF
      rw [hB.2.2.2.1, enm]
      refine fun _ => ⟨⟨by omega, by omega⟩, m_elem hE hV hN hB.1 hn ⟨by omega, by omega, hx.2⟩ (by omega) (fun S15 n15 M15 => ⟨by omega, by omega, ⟨by omega, by omega⟩, fun S17 h17 => ?_⟩)⟩
      have hB15 := hB.add n15 M15
      have hB17 : BS S17 e m (addT s x (nmF e o f)) o x k l := by rw [h17]; exact hB15.st (Or.inr (Or.inr rfl))
      have f17 : Ma S S17 := by rw [h17]; exact n15.ma.tr (pA_ma (Or.inr (Or.inr rfl)))
      have g80 : S17.2 80 l.length = f := by rw [h17]; show S15.2 80 _ = _; rw [n15.sk.1 80 (by decide) (by decide)]; exact h80
      have g81 : S17.2 81 l.length = 0 := by rw [h17]; show S15.2 81 _ = _; rw [n15.sk.1 81 (by decide) (by decide)]; exact h81
      have g82 : S17.2 82 l.length = s.2.2.2.1.length := by rw [h17, pA_if, if_pos rfl]
      have hE17 := hE.ma f17
      have hN17 := hN.ma f17
      have nl := eL_pos hE hn
      refine m_put hB17.1.1 (fun r S20 f20 o20 => m_name (hE17.om f20) o20 hn hnb (fun S22 f22 o22 => ?_))
      have f22' := f20.tr f22
      rw [List.append_assoc] at o22
      have tl : (addT s x (nmF e o f)).2.2.2.1.length = s.2.2.2.1.length + 1 := by
        show (s.2.2.2.1 ++ [(x, nmF e o f)]).length = _
        simp
      refine ⟨fun hv0 => ?_, fun hv0 => ?_⟩
      · rw [if_neg hv0] at hF
        unfold wX11_lists_68
        refine m_put o22 (fun r S23 f23 o23 => ?_)
        have f23' := f22'.tr f23
        rw [List.append_assoc] at o23
        have hB23 := hB17.om (t := [60] ++ eL e (nmF e o f) ++ [62]) f23' (by simp only [List.append_assoc] at o23 ⊢; exact o23)
        have al : (ptT (addT s x (nmF e o f)) ([60] ++ eL e (nmF e o f) ++ [62])).1.length = s.1.length + (1 + (eL e (nmF e o f)).length + 1) := by
          show (s.1 ++ ([60] ++ eL e (nmF e o f) ++ [62])).length = _
          simp only [List.length_append, List.length_cons, List.length_nil]
        rw [← enm]
        refine m_litem (L := s.2.2.2.1.length) (s := ptT (addT s x (nmF e o f)) ([60] ++ eL e (nmF e o f) ++ [62])) hV (hN17.ma f23'.ma) (hE17.om f23') hmo hm (f17.tr f23'.ma) hB23 (by show (addT s x (nmF e o f)).2.2.2.1.length < 899; omega) (by rw [f23'.2 80 (by decide)]; exact g80) (by rw [f23'.2 81 (by decide)]; exact g81) (fun _ => ⟨by rw [f23'.2 82 (by decide)]; exact g82, by omega, by show (s.2.2.2.1.length : Int) < ((addT s x (nmF e o f)).2.2.2.1.length : Nat); omega⟩) hf h3 ⟨by decide, by omega⟩ ?_ ?_ (oM_le hB.1.1 (A := s.1) (by exact hB23.1.1)) hK
        · rw [if_pos q2, al]
          show 4 * ((addT s x (nmF e o f)).2.2.2.1.length : Int) ≤ _
          omega
        · rw [hF, fnS_cons, rsF_i (by decide)]
          dsimp only
          have := itsT_succ (e := e) (R := ElT e (m - (l.length + 1)).toNat) (o := o) (f := f) (P := (s.2.2.2.1.length : Int)) (n := eV e o f) (i := 0) (s := ptT (addT s x (nmF e o f)) ([60] ++ eL e (nmF e o f) ++ [62])) (by omega)
          rw [Int.sub_zero] at this
          rw [if_neg q2, if_neg q2, this]
      · have hv1 := Classical.not_not.mp hv0
        rw [if_pos hv1] at hF
        unfold wX11_lists_68
        refine m_put o22 (fun r S25 f25 o25 => m_put o25 (fun r S26 f26 o26 => ?_))
        have f26' := (f22'.tr f25).tr f26
        have hB26 := hB17.om (t := [60] ++ eL e (nmF e o f) ++ [47, 62]) f26' (by simp only [List.append_assoc] at o26 ⊢; exact o26)
        have al : (ptT (addT s x (nmF e o f)) ([60] ++ eL e (nmF e o f) ++ [47, 62])).1.length = s.1.length + (1 + (eL e (nmF e o f)).length + 2) := by
          show (s.1 ++ ([60] ++ eL e (nmF e o f) ++ [47, 62])).length = _
          simp only [List.length_append, List.length_cons, List.length_nil]
        unfold wX11_lists_74
        rw [((hE17.om f26').2.2.2.2.2.2.1 _ _ hf).2]
        refine ⟨⟨by decide, by decide⟩, ⟨by omega, by omega⟩, fun _ => ⟨by omega, by omega, fun _ => ⟨fun h4 => absurd h4 (by omega), fun _ => ⟨fun _ => ?_, fun h5 => absurd h5 (by omega)⟩⟩⟩, fun h => absurd h (by omega)⟩
        refine m_l178 (L := L) (f17.tr f26'.ma) hB26 (by omega) (by rw [f26'.2 80 (by decide)]; exact g80) ⟨hf.2.1, hf.2.2⟩ hF4.2 ?_ (by rw [nx, hF]) (by have q := oM_lt hB.1.1 hB26.1.1 (by omega); omega) hK
        rw [al]
        show 4 * ((addT s x (nmF e o f)).2.2.2.1.length : Int) ≤ _
        omega
end ML

