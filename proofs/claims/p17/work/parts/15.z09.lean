/-! THE MODEL: the steps, and write -/
section MX
variable {S : St} {K : Int → St → Prop} {e : Env} {s : Wt} {o x k f i L m : Int} {l : List Fm} {F : Wt}
theorem m_goes (hE : mE S e) (hV : EV e) (hN : mN S e) (hmo : iv 0 3 (eO e)) (hm : iv 1 20 m) (hL : LD S e m s ((o, x, k, f, i, L) :: l)) (h3k : s.1.length ≤ 3000) (hF : F = fnS e m ((o, x, k, f, i, L) :: l) s) (hK : ∀ r S', Out S e m F r S' → Mz S S' r → K r S') : wX11_goesOn (eO e) S K := by
  obtain ⟨hB, h80, h81, hf1, hi0, hc, hbd⟩ := hL.bs
  have hlm := hB.2.2.2.2.2.2.2.2.2.2.1
  have h32 := hB.2.1
  have ho : okO e o := hB.2.2.2.2.2.2.1
  have hk : okN e k := hB.2.2.2.2.2.2.2.1
  have hkb := okN_b hV hk
  have hob := okO_b hV ho
  have hkc := hV.2.2.1 o ho
  have hcb := okC_b hV hkc
  have hF4 := hV.2.2.2.1 _ hkc
  have hx := hB.2.2.2.2.2.2.2.2.1
  have hsl := slk_b (e := e) l
  have hlen : s.2.2.2.1.length < 800 := by
    have : (if 0 < i ∧ ¬ eM e (eK e o) f = 1 then (1 : Int) else 0) ≤ 1 := by split <;> decide
    omega
  unfold wX11_goesOn
  intro gm _ x2 hx2
  rw [show x2 = (l.length : Int) by omega]
  clear hx2 x2
  rw [hB.2.2.1]
  refine ⟨by omega, by omega, fun _ x5 hx5 => ?_⟩
  rw [hx5]
  clear hx5 x5
  rw [hE.2.1 o ho]
  refine ⟨by omega, by omega, fun _ x10 hx10 => ?_⟩
  subst hx10
  rw [h80]
  refine ⟨by omega, by omega, fun _ x15 hx15 => ?_⟩
  rw [hx15]
  clear hx15 x15
  rw [hE.2.2.2.2.2.1 _ hkc]
  refine ⟨by omega, by omega, fun _ => ⟨fun hfe => ?_, fun hfe => ?_⟩⟩
  · -- a field
    have hf : okF e (eK e o) f := ⟨hkc, hf1.1, by omega⟩
    have hfb := okF_b hV hf
    have hkd := hV.2.2.2.2.1 _ _ hf
    have hv := hV.2.2.2.2.2 _ _ ho hf
    have e7 := hE.2.2.2.2.2.2.1 _ _ hf
    have hn := nmF_ok hf
    have hnb := okN_b hV hn
    have enm : (6 + (4 * eK e o + f) : Int) = nmF e o f := by unfold nmF; omega
    intro x21 hx21 x22 hx22
    subst hx21
    subst hx22
    rw [hE.2.2.1 o f ho hf]
    refine ⟨by omega, by omega, fun _ x25 hx25 => ?_⟩
    subst hx25
    rw [e7.1]
    refine ⟨by omega, by omega, fun _ => ⟨fun h3 => ?_, fun h3 => ?_⟩⟩
    · -- no list
      have hi : i = 0 := by
        by_cases q : 0 < i
        · exact absurd (hc q).2.1 h3
        · omega
      subst hi
      rw [if_neg (fun r => absurd r.1 (by decide))] at hbd
      rw [fnS_cons, rsF_0, cnsT_succ hf.2.2] at hF
      dsimp only at hF
      have nx : ∀ t : Wt, fnS e m ((o, x, k, f + 1, 0, L) :: l) t = fnS e m l (ptT (cnsT e (ElT e (m - (l.length + 1)).toNat) o x (eF e (eK e o) - (f + 1)).toNat (f + 1) t) (eTg e k)) := fun t => by rw [fnS_cons, rsF_0]
      refine ⟨by omega, by omega, fun _ => ⟨by omega, by omega, ⟨by omega, by omega⟩, fun S34 h34 => ?_⟩⟩
      have hB34 : BS S34 e m s o x k l := by rw [h34]; exact hB.st (Or.inl rfl)
      have f34 : Ma S S34 := by rw [h34]; exact pA_ma (Or.inl rfl)
      have g80 : S34.2 80 l.length = f + 1 := by rw [h34, pA_if, if_pos rfl]
      have g81 : S34.2 81 l.length = 0 := by rw [h34]; exact h81
      have g39 : S34.1 54 39 = S.1 54 39 := by rw [h34]; rfl
      have g32 : S34.1 54 32 = S.1 54 32 := by rw [h34]; rfl
      have hE34 := hE.ma f34
      have hN34 := hN.ma f34
      have e7' := hE34.2.2.2.2.2.2.1 _ _ hf
      -- a step to the next field
      have fin : ∀ (T : St) (t : Wt), Ma S T → BS T e m t o x k l → T.2 80 l.length = f + 1 → T.2 81 l.length = 0 → 4 * (t.2.2.2.1.length : Int) ≤ t.1.length + (1 + slk e l) → F = fnS e m ((o, x, k, f + 1, 0, L) :: l) t → Mz S T 1 → K 1 T := fun T t fT hT q80 q81 qb qF qz => hK 1 T ⟨fT, Or.inl ⟨rfl, t, _, hT.ld q80 q81 ⟨by omega, by omega⟩ (by decide) (fun r => absurd r (by decide)) (by rw [if_neg (fun r => absurd r.1 (by decide))]; omega), qF.symm⟩⟩ qz
      have same : Mz S S34 1 := Or.inr ⟨g39, g32, by rw [show S.1 54 32 - 1 = (l.length : Int) by omega, g80, h80], by rw [show S.1 54 32 - 1 = (l.length : Int) by omega, h80]; omega⟩
      rw [e7'.1]
      refine ⟨by omega, by omega, fun _ => ⟨fun h2 => ?_, fun h2 => ?_⟩⟩
      · -- a number, a text
        have hd1 : eD e (eK e o) f ≤ 1 := by omega
        rw [e7'.2]
        refine ⟨by omega, by omega, fun _ => ⟨fun h4 => ?_, fun h4 => ⟨by omega, by omega, ?_⟩⟩⟩
        · have hm1 : eM e (eK e o) f = 1 := by omega
          refine fin S34 s f34 hB34 g80 g81 (by omega) ?_ same
          rw [nx, hF]
          have : conT e (ElT e (m - (l.length + 1)).toNat) o f x s = s := by
            conv => lhs; unfold conT
            rw [if_pos hd1, if_pos hm1]
          rw [this]
        · have hm1 : ¬ eM e (eK e o) f = 1 := by omega
          rw [hB34.2.2.2.1, enm]
          refine fun _ => ⟨⟨by omega, by omega⟩, m_elem hE34 hV hN34 hB34.1 hn ⟨by omega, by omega, hx.2⟩ (by omega) (fun S46 n46 M46 => ?_)⟩
          have hB46 := hB34.add n46 M46
          have hE46 := hE34.ma n46.ma
          have nl := eL_pos hE hn
          have tl : (addT s x (nmF e o f)).2.2.2.1.length = s.2.2.2.1.length + 1 := by
            show (s.2.2.2.1 ++ [(x, nmF e o f)]).length = _
            simp
          refine m_put hB46.1.1 (fun r S48 f48 o48 => m_name (hE46.om f48) o48 hn hnb (fun S50 f50 o50 => ?_))
          have f50' := f48.tr f50
          rw [List.append_assoc] at o50
          rw [((hE46.om f50').2.2.2.2.2.2.1 _ _ hf).1]
          -- the end of both ways
          have done : ∀ (T : St) (t : List Int), Om S46 T → oM T (s.1 ++ t) → 4 ≤ t.length → conT e (ElT e (m - (l.length + 1)).toNat) o f x s = ptT (addT s x (nmF e o f)) t → K 1 T := fun T t fT oT ht hct => by
            have hBT := hB46.om fT oT
            have al : (ptT (addT s x (nmF e o f)) t).1.length = s.1.length + t.length := by
              show (s.1 ++ t).length = _
              rw [List.length_append]
            refine fin T _ (f34.tr (n46.ma.tr fT.ma)) hBT ?_ ?_ ?_ ?_ (Or.inl (Or.inr (oM_lt hB.1.1 hBT.1.1 (by omega))))
            · rw [fT.2 80 (by decide), n46.sk.1 80 (by decide) (by decide)]
              exact g80
            · rw [fT.2 81 (by decide), n46.sk.1 81 (by decide) (by decide)]
              exact g81
            · rw [al]
              show 4 * ((addT s x (nmF e o f)).2.2.2.1.length : Int) ≤ _
              omega
            · rw [nx, hF, hct]
          have body : ¬ (eD e (eK e o) f = 1 ∧ eV e o f = 0) → wX11_goesOn_232 o (eK e o) f (nmF e o f) S50 K := fun hb => by
            unfold wX11_goesOn_232
            refine m_put o50 (fun r S2 f2 o2 => ⟨⟨by omega, by omega⟩, ⟨by omega, by omega⟩, ⟨by omega, by omega⟩, m_value (hE46.om (f50'.tr f2)) hV o2 ho hf hd1 ⟨by decide, by decide⟩ (fun S7 f7 o7 => ⟨⟨by omega, by omega⟩, m_end (hE46.om ((f50'.tr f2).tr f7)) o7 hn hnb (fun S10 f10 o10 => ?_)⟩)⟩)
            refine done S10 ([60] ++ eL e (nmF e o f) ++ [62] ++ sgl e o f 0 ++ eTg e (nmF e o f)) (((f50'.tr f2).tr f7).tr f10) ?_ ?_ ?_
            · simp only [List.append_assoc] at o10 ⊢
              exact o10
            · have := eTg_len hE hn
              simp only [List.length_append, List.length_cons, List.length_nil]
              omega
            · conv => lhs; unfold conT
              rw [if_pos hd1, if_neg hm1, if_neg hb]
          refine ⟨by omega, by omega, fun _ => ⟨fun h5 => body (fun r => h5 r.1), fun h5 => ⟨fun h6 => body (fun r => h6 r.2), fun h6 => m_word2 o50 (fun S56 f56 o56 => ?_)⟩⟩⟩
          refine done S56 ([60] ++ eL e (nmF e o f) ++ [47, 62]) (f50'.tr f56) ?_ ?_ ?_
          · simp only [List.append_assoc] at o56 ⊢
            exact o56
          · simp only [List.length_append, List.length_cons, List.length_nil]
            omega
          · conv => lhs; unfold conT
            rw [if_pos hd1, if_neg hm1, if_pos ⟨Classical.not_not.mp h5, Classical.not_not.mp h6⟩]
      · -- a reference
        have hd2 : eD e (eK e o) f = 2 := Classical.not_not.mp h2
        have hct : conT e (ElT e (m - (l.length + 1)).toNat) o f x s = if eV e o f = -2 then s else ElT e (m - (l.length + 1)).toNat (eV e o f) x (nmF e o f) s := by
          conv => lhs; unfold conT
          rw [if_neg (show ¬ eD e (eK e o) f ≤ 1 by omega), if_pos hd2]
        rw [hct] at hF
        refine ⟨fun h4 => ?_, fun h4 => ⟨by omega, by omega, ?_⟩⟩
        · rw [if_pos h4] at hF
          exact fin S34 s f34 hB34 g80 g81 (by omega) (by rw [nx, hF]) same
        · rw [if_neg h4] at hF
          have hxv := (hv.2.2.1 hd2).resolve_left h4
          have hLD : LD S34 e m s ((o, x, k, f + 1, 0, L) :: l) := hB34.ld g80 g81 ⟨by omega, by omega⟩ (by decide) (fun r => absurd r (by decide)) (by rw [if_neg (fun r => absurd r.1 (by decide))]; omega)
          rw [hB34.2.2.2.1, enm]
          refine fun _ => ⟨⟨by omega, by omega⟩, m_child (F := F) hE34 hV hN34 hmo hm hLD (by omega) hxv hn (by rw [if_pos (by unfold nmF; omega)]) hx ?_ (fun r S' ho' hc' => ?_)⟩
          · rw [hF, nx]
            simp only [List.length_cons]
            rfl
          · have q : Out S e m F r S' := ⟨f34.tr ho'.1, ho'.2⟩
            have hr : iv 0 1 r := by
              rcases ho'.2 with r1 | r1 | r1
              · rw [r1.1]
                exact ⟨by decide, by decide⟩
              · rw [r1.1]
                exact ⟨by decide, by decide⟩
              · exact r1.1
            have hz : Mz S S' r := Or.inl (hc'.le (by omega))
            refine ⟨⟨by omega, by omega⟩, fun h5 => ?_, fun h5 => ?_⟩
            · rw [h5] at q hz
              exact hK 0 S' q hz
            · rw [show r = 1 by omega] at q hz
              exact hK 1 S' q hz
    · -- a list
      refine ⟨⟨by omega, by omega⟩, ⟨by omega, by omega⟩, m_lists hE hV hN hmo hm hL h3k hf (Classical.not_not.mp h3) hF (fun r S' ho' hz' => ⟨?_, hK r S' ho' hz'⟩)⟩
      rcases ho'.2 with r1 | r1 | r1
      · rw [r1.1]
        exact ⟨by decide, by decide⟩
      · rw [r1.1]
        exact ⟨by decide, by decide⟩
      · exact r1.1
  · -- the end of an object
    have hfe := Classical.not_not.mp hfe
    have hi : i = 0 := by
      by_cases q : 0 < i
      · have := (hc q).1.2.2
        omega
      · omega
    subst hi
    rw [if_neg (fun r => absurd r.1 (by decide))] at hbd
    rw [fnS_cons, rsF_0, cnsT_end (by omega)] at hF
    dsimp only at hF
    rw [h32]
    refine ⟨⟨by omega, by omega⟩, fun S70 h70 => ⟨by omega, by omega, ?_⟩⟩
    have n70 : ∀ a j, ¬ (a = 54 ∧ j = 32) → S70.1 a j = S.1 a j := fun a j q => by
      rw [h70]
      show (if a = 54 ∧ j = 32 then _ else S.1 a j) = _
      rw [if_neg q]
    have e70 : S70.2 = S.2 := by rw [h70]; rfl
    have q32 : S70.1 54 32 = l.length := by
      rw [h70]
      show (if 54 = 54 ∧ 32 = 32 then (l.length : Int) + 1 - 1 else S.1 54 32) = _
      rw [if_pos ⟨rfl, rfl⟩]
      omega
    have f70 : Ma S S70 := ⟨fun a j q => n70 a j (fun r => q ⟨r.1, Or.inr (Or.inr (Or.inr r.2))⟩), fun a _ => by rw [e70]⟩
    have hM := hB.1
    have o70 : oM S70 s.1 := by
      have q := hM.1
      unfold oM at q ⊢
      rw [n70 54 39 (by decide), e70]
      exact q
    have M70 : MT S70 e s := by
      obtain ⟨h1, h2, h3, h4, h5, h6⟩ := hM
      exact ⟨o70, (n70 54 25 (by decide)).trans h2, by rw [e70]; exact h3, (n70 54 30 (by decide)).trans h4, h5, by rw [e70]; exact h6⟩
    rw [e70, hB.2.2.2.2.1]
    refine fun _ => m_end (hE.ma f70) o70 hk hkb (fun S75 f75 o75 => ?_)
    have M75 := M70.om f75 o75
    have el := eTg_len hE hk
    have al : (ptT s (eTg e k)).1.length = s.1.length + (eTg e k).length := by
      show (s.1 ++ eTg e k).length = _
      rw [List.length_append]
    refine hK 1 S75 ⟨f70.tr f75.ma, Or.inl ⟨rfl, _, l, ⟨M75, ?_, ?_, hB.2.2.2.2.2.2.2.2.2.1, by omega, ?_, ?_⟩, hF.symm⟩⟩ (Or.inl (Or.inr (oM_lt hM.1 M75.1 (by omega))))
    · rw [f75.1 54 32 (by decide)]
      exact q32
    · refine FrL.sk (Nat.le_refl _) f75.sk ?_
      exact hB.2.2.2.2.2.1.mv (Nat.le_refl _) (fun a j _ _ _ => by rw [e70])
    · rw [al]
      show 4 * (s.2.2.2.1.length : Int) ≤ _
      omega
    · rw [f75.1 54 19 (by decide), n70 54 19 (by decide)]
      exact hB.2.2.2.2.2.2.2.2.2.2.2
/-- the state before the root -/
def sT0 : Wt := ([], fun _ => 0, fun _ => 0, [], 0, 0)
/-- what write changes -/
def Mq (S S' : St) : Prop := (∀ a j, ¬ (a = 54 ∧ (j = 39 ∨ j = 25 ∨ j = 30 ∨ j = 32 ∨ j = 20)) → S'.1 a j = S.1 a j) ∧ ∀ a, a < 71 ∨ 83 < a → S'.2 a = S.2 a
/-- what write says and writes -/
def WrO (S S' : St) (F : Wt) (r : Int) : Prop := Mq S S' ∧ ((F.2.2.2.2.2 = 1 ∧ r = -3 ∧ S'.1 54 20 = S.1 54 20 ∧ S'.2 71 = S.2 71) ∨ (¬ F.2.2.2.2.2 = 1 ∧ 3000 < F.1.length ∧ r = -4 ∧ S'.1 54 20 = S.1 54 20 ∧ S'.2 71 = S.2 71) ∨ (¬ F.2.2.2.2.2 = 1 ∧ F.1.length ≤ 3000 ∧ r = F.1.length ∧ S'.1 54 20 = F.1.length ∧ ∀ j : Nat, j < F.1.length → S'.2 71 j = F.1.getD j 0))
theorem m_write {a : Int} (hE : mE S e) (hV : EV e) (hN : mN S e) (hmo : iv 0 3 (eO e)) (hm : iv 1 20 m) (h19 : S.1 54 19 = m) (ho : okO e a) (hF : F = ElT e m.toNat a (-2) (eK e a) sT0) (hK : ∀ r S', WrO S S' F r → K r S') : wX11_write a (eO e) S K := by
  have hob := okO_b hV ho
  have hN0 := hE.1
  have hkc := hV.2.2.1 a ho
  have hcb := okC_b hV hkc
  unfold wX11_write
  intro _ gm
  unfold wX11_isObject wX11_in
  intro _ _
  refine ⟨fun h => absurd h (by omega), fun _ => ⟨by decide, by decide, fun _ => ⟨fun h => absurd h (by have := ho.2; omega), fun _ => ⟨⟨by decide, by decide⟩, fun h => absurd h (by decide), fun _ => fun _ _ _ => ⟨fun h => absurd h (by omega), fun _ => ⟨fun h => absurd h (by omega), fun _ => ⟨⟨by decide, by decide⟩, fun _ S9 h9 S10 h10 S11 h11 S12 h12 => ?_, fun h => absurd (show ¬ (1 : Int) = 0 by decide) h⟩⟩⟩⟩⟩⟩⟩
  have z12 : ∀ b j, S12.1 b j = if b = 54 ∧ (j = 39 ∨ j = 25 ∨ j = 30 ∨ j = 32) then 0 else S.1 b j := fun b j => by
    rw [h12, h11, h10, h9]
    show (if b = 54 ∧ j = 32 then (0 : Int) else if b = 54 ∧ j = 30 then 0 else if b = 54 ∧ j = 25 then 0 else if b = 54 ∧ j = 39 then 0 else S.1 b j) = _
    by_cases hb : b = 54
    · by_cases q1 : j = 32
      · rw [if_pos ⟨hb, q1⟩, if_pos ⟨hb, Or.inr (Or.inr (Or.inr q1))⟩]
      · by_cases q2 : j = 30
        · rw [if_neg (fun r => q1 r.2), if_pos ⟨hb, q2⟩, if_pos ⟨hb, Or.inr (Or.inr (Or.inl q2))⟩]
        · by_cases q3 : j = 25
          · rw [if_neg (fun r => q1 r.2), if_neg (fun r => q2 r.2), if_pos ⟨hb, q3⟩, if_pos ⟨hb, Or.inr (Or.inl q3)⟩]
          · by_cases q4 : j = 39
            · rw [if_neg (fun r => q1 r.2), if_neg (fun r => q2 r.2), if_neg (fun r => q3 r.2), if_pos ⟨hb, q4⟩, if_pos ⟨hb, Or.inl q4⟩]
            · rw [if_neg (fun r => q1 r.2), if_neg (fun r => q2 r.2), if_neg (fun r => q3 r.2), if_neg (fun r => q4 r.2), if_neg (by omega)]
    · rw [if_neg (fun r => hb r.1), if_neg (fun r => hb r.1), if_neg (fun r => hb r.1), if_neg (fun r => hb r.1), if_neg (fun r => hb r.1)]
  have e12 : S12.2 = S.2 := by rw [h12, h11, h10, h9]; rfl
  unfold wX11_write_42
  refine ⟨fun l1 l2 l3 T => l1 = a ∧ l2 = eO e ∧ 0 ≤ l3 ∧ l3 ≤ 30 ∧ T.1 = S12.1 ∧ (∀ b, b ≠ 75 → T.2 b = S.2 b) ∧ ∀ j, 0 ≤ j → j < l3 → T.2 75 j = -2, fun l1 l2 l3 T => (30 - l3).toNat, ⟨rfl, rfl, by decide, by decide, rfl, fun b _ => by rw [e12], fun j h1 h2 => absurd h2 (by omega)⟩, fun l1 l2 l3 T hI => ?_⟩
  obtain ⟨rfl, rfl, i1, i2, i3, i4, i5⟩ := hI
  unfold wX11_write_42'
  refine ⟨⟨by omega, by omega⟩, fun h => ⟨by omega, by omega, ?_⟩, fun h => ⟨by omega, by omega, fun S10' h10' => ?_⟩⟩
  · have maT : Ma S T := ⟨fun b j q => by rw [i3, z12, if_neg (fun r => q ⟨r.1, by omega⟩)], fun b q => i4 b (by omega)⟩
    have hET := hE.ma maT
    have hNT := hN.ma maT
    have MT0 : MT T e sT0 := by
      refine ⟨⟨?_, fun j _ hj => absurd hj (Nat.not_lt_zero _)⟩, ?_, fun x hx => absurd hx (Nat.not_lt_zero _), ?_, ⟨Int.le_refl _, Int.le_refl _⟩, fun y hy => ⟨⟨fun _ => by show ¬ (0 : Int) < 0; omega, fun _ => i5 y hy.1 (by have := okO_b hV hy; omega)⟩, fun r => absurd r (by show ¬ (0 : Int) < 0; omega)⟩⟩
      · rw [i3, z12, if_pos (by decide)]
        rfl
      · rw [i3, z12, if_pos (by decide)]
        rfl
      · rw [i3, z12, if_pos (by decide)]
        rfl
    have t32 : T.1 54 32 = 0 := by rw [i3, z12, if_pos (by decide)]
    have t19 : T.1 54 19 = m := by rw [i3, z12, if_neg (by decide)]; exact h19
    rw [hET.2.1 l1 ho]
    refine fun _ => ⟨⟨by omega, by omega⟩, gm, ?_⟩
    -- the loop
    have loop : ∀ T1 : St, Ma S T1 → ∀ (s : Wt) (l : List Fm), LD T1 e m s l → fnS e m l s = F → wX11_write_79 (eO e) 0 T1 K := fun T1 f1 s1 fl hL hFl => by
      unfold wX11_write_79
      refine ⟨fun m2 m3 U => m2 = eO e ∧ Ma S U ∧ ((m3 = 0 ∧ ∃ s l, LD U e m s l ∧ fnS e m l s = F) ∨ (m3 = 1 ∧ U.1 54 39 ≤ 3000 ∧ F.2.2.2.2.2 = 1) ∨ (iv 0 1 m3 ∧ ¬ U.1 54 39 ≤ 3000 ∧ F.2.2.2.2.2 = 0 ∧ 3000 < F.1.length)), fun m2 m3 U => ((1 - m3) * 100000 + (3001 - U.1 54 39) * 10 + min 4 (max 0 (4 - U.2 80 (U.1 54 32 - 1)))).toNat, ⟨rfl, f1, Or.inl ⟨rfl, s1, fl, hL, hFl⟩⟩, fun m2 m3 U hJ => ?_⟩
      obtain ⟨rfl, fU, hJ⟩ := hJ
      have hEU := hE.ma fU
      have hm3 : iv 0 1 m3 := by
        rcases hJ with q | q | q
        · omega
        · omega
        · exact q.1
      -- behind the loop
      have fin : (m3 = 0 → U.1 54 39 ≤ 3000 → ∃ s l, LD U e m s l ∧ fnS e m l s = F ∧ l = []) → wX11_write_117 m3 U K := fun hf0 => by
        unfold wX11_write_117
        have mq : Mq S U := ⟨fun b j q => fU.1 b j (fun r => q ⟨r.1, by omega⟩), fun b q => fU.2 b (by omega)⟩
        have w0 : U.1 54 20 = S.1 54 20 := fU.1 54 20 (by decide)
        have p0 : U.2 71 = S.2 71 := fU.2 71 (by decide)
        refine fun _ => ⟨fun h5 => ⟨⟨by omega, by omega⟩, fun h6 => ?_, fun h6 => ?_⟩, fun h5 => ?_⟩
        · obtain ⟨s2, l2, hL2, hF2, hl2⟩ := hf0 h6 h5
          have hle : s2.1.length ≤ 3000 := (oM_len hL2.1.1).1.mp h5
          subst hl2
          have hF3 : s2 = F := hF2
          subst hF3
          have e39 := (oM_len hL2.1.1).2 hle
          have hdp : s2.2.2.2.2.2 = 0 := hL2.2.2.2.1
          refine ⟨⟨by omega, by omega⟩, fun S5 h5' => ?_⟩
          have e20 : S5.1 54 20 = s2.1.length := by
            rw [h5']
            show (if 54 = 54 ∧ 20 = 20 then U.1 54 39 else U.1 54 20) = _
            rw [if_pos ⟨rfl, rfl⟩]
            exact e39
          unfold wX11_write_148
          refine ⟨fun n4 V => 0 ≤ n4 ∧ n4 ≤ s2.1.length ∧ V.1 = S5.1 ∧ (∀ b, b ≠ 71 → V.2 b = U.2 b) ∧ ∀ j : Nat, (j : Int) < n4 → V.2 71 j = s2.1.getD j 0, fun n4 V => (3001 - n4).toNat, ⟨by decide, by omega, rfl, fun b _ => by rw [h5']; rfl, fun j hj => absurd hj (by omega)⟩, fun n4 V hV2 => ?_⟩
          obtain ⟨v1, v2, v3, v4, v5⟩ := hV2
          unfold wX11_write_148'
          rw [v3, e20]
          refine fun _ => ⟨⟨by omega, by omega⟩, fun h7 => hK _ V ⟨⟨fun b j q => ?_, fun b q => ?_⟩, Or.inr (Or.inr ⟨by omega, hle, rfl, by rw [v3]; exact e20, fun j hj => v5 j (by omega)⟩)⟩, fun h7 => ⟨by omega, by omega, fun _ => ⟨by omega, by omega, fun S7 h7' => ⟨⟨by omega, by omega, by rw [h7']; exact v3, fun b hb => by rw [h7', (pA_ne b hb).2]; exact v4 b hb, fun j hj => ?_⟩, by dsimp only; omega⟩⟩⟩⟩
          · rw [v3, h5']
            show (if b = 54 ∧ j = 20 then _ else U.1 b j) = _
            rw [if_neg (fun r => q ⟨r.1, by omega⟩)]
            exact mq.1 b j q
          · rw [v4 b (by omega)]
            exact mq.2 b q
          · rw [h7', pA_if]
            by_cases r : (j : Int) = n4
            · rw [if_pos r, v4 83 (by decide)]
              have := hL2.1.1.2 j (by omega) (by omega)
              rw [← r]
              exact this
            · rw [if_neg r]
              exact v5 j (by omega)
        · have q : F.2.2.2.2.2 = 1 := by
            rcases hJ with q | q | q
            · omega
            · exact q.2.2
            · exact absurd h5 q.2.1
          exact hK (-3) U ⟨mq, Or.inl ⟨q, rfl, w0, p0⟩⟩
        · have q : ¬ F.2.2.2.2.2 = 1 ∧ 3000 < F.1.length := by
            rcases hJ with q | q | q
            · obtain ⟨q0, s2, l2, hL2, hF2⟩ := q
              have hl : 3000 < s2.1.length := by
                have := (oM_len hL2.1.1).1
                by_cases r : s2.1.length ≤ 3000
                · exact absurd (this.mpr r) h5
                · omega
              have := fnS_st (e := e) (m := m) l2 s2 hl
              rw [hF2] at this
              have hd := hL2.2.2.2.1
              exact ⟨by rw [this.2, hd]; decide, this.1⟩
            · exact absurd q.2.1 h5
            · exact ⟨by rw [q.2.2.1]; decide, q.2.2.2⟩
          exact hK (-4) U ⟨mq, Or.inr (Or.inl ⟨q.1, q.2, rfl, w0, p0⟩)⟩
      unfold wX11_write_79' wX11_write_113
      refine fun h32 => ⟨fun h5 => fin (fun h0 h39 => ?_), fun h5 => ⟨⟨by omega, by omega⟩, fun h6 => fin (fun h0 => absurd h0 h6), fun h6 => fun hd => ⟨fun h7 => fin (fun h0 h39 => absurd h39 (by omega)), fun h7 => ⟨gm, ?_⟩⟩⟩⟩
      · obtain ⟨s2, l2, hL2, hF2⟩ : ∃ s l, LD U e m s l ∧ fnS e m l s = F := by
          rcases hJ with r | r | r
          · exact r.2
          · omega
          · exact absurd h39 r.2.1
        refine ⟨s2, l2, hL2, hF2, ?_⟩
        have := hL2.2.1
        cases l2 with
        | nil => rfl
        | cons q l2 => simp only [List.length_cons] at this; omega
      · obtain ⟨s2, l2, hL2, hF2⟩ : ∃ s l, LD U e m s l ∧ fnS e m l s = F := by
          rcases hJ with r | r | r
          · exact r.2
          · omega
          · exact absurd (show U.1 54 39 ≤ 3000 by omega) r.2.1
        have hm30 : m3 = 0 := Classical.not_not.mp h6
        cases l2 with
        | nil =>
          have := hL2.2.1
          simp at this
          omega
        | cons q l2 =>
          obtain ⟨o, x, k, f, i, L⟩ := q
          have hle : s2.1.length ≤ 3000 := (oM_len hL2.1.1).1.mp (by omega)
          have h80 := hL2.bs.2.1
          have hf1 := hL2.bs.2.2.2.1
          have hlm := hL2.2.1
          have hok := hL2.bs.1.2.2.2.2.2.2.1
          have hF4 := hV.2.2.2.1 _ (hV.2.2.1 o hok)
          simp only [List.length_cons] at hlm
          refine m_goes hEU hV (hN.ma fU) hmo hm hL2 hle hF2.symm (fun r U1 ho' hz' => ?_)
          have hr : iv 0 1 r := by
            rcases ho'.2 with r1 | r1 | r1
            · rw [r1.1]
              exact ⟨by decide, by decide⟩
            · rw [r1.1]
              exact ⟨by decide, by decide⟩
            · exact r1.1
          have e80 : U.2 80 (U.1 54 32 - 1) = f := by
            rw [show U.1 54 32 - 1 = (l2.length : Int) by omega]
            exact h80
          unfold Mz Mc at hz'
          refine ⟨⟨by omega, by omega⟩, fun h8 => ?_, fun h8 => ?_⟩
          · refine ⟨⟨rfl, fU.tr ho'.1, ?_⟩, ?_⟩
            · rcases ho'.2 with r1 | r1 | r1
              · exact Or.inl ⟨rfl, r1.2⟩
              · omega
              · exact Or.inr (Or.inr ⟨⟨by decide, by decide⟩, r1.2⟩)
            · dsimp only
              rw [e80] at hz' ⊢
              rcases hz' with z | z
              · omega
              · rw [z.2.1, z.2.2.1]
                omega
          · refine ⟨⟨rfl, fU.tr ho'.1, ?_⟩, ?_⟩
            · rcases ho'.2 with r1 | r1 | r1
              · omega
              · exact Or.inr (Or.inl ⟨rfl, r1.2.2.1, r1.2.2.2⟩)
              · exact Or.inr (Or.inr ⟨⟨by decide, by decide⟩, r1.2⟩)
            · have hr0 : r = 0 := Classical.not_not.mp h8
              have h39 : 0 ≤ U1.1 54 39 := by
                rcases ho'.2 with r1 | r1 | r1
                · omega
                · exact r1.2.1
                · omega
              dsimp only
              rw [e80]
              omega
    have hFu : m.toNat = (m - 1).toNat + 1 := by omega
    have h0s : ¬ ((sT0.2.2.2.2.2 = 1) ∨ 3000 < sT0.1.length) := by
      show ¬ ((0 : Int) = 1 ∨ 3000 < 0)
      omega
    have h0b : ¬ (¬ eO e = 3 ∧ 0 < sT0.2.1 l1) := fun r => absurd r.2 (by show ¬ (0 : Int) < 0; omega)
    rw [hFu] at hF
    unfold ElT at hF
    rw [if_neg h0s, if_neg h0b] at hF
    refine m_begin (s := sT0) hET hV hNT MT0 ho (Or.inl hkc) (by rw [if_neg (by omega)]) ⟨by omega, by omega, by show (-2 : Int) < 0; omega⟩ (by show 0 < 899; omega) (fun _ => by show ¬ (0 : Int) < 0; omega) ⟨by omega, by omega⟩ (fun hc S' f' sk' M' => ?_) (fun hc S' f' p' M' => ?_)
    · rw [hc, if_neg (by decide)] at hF
      refine loop S' (maT.tr f') _ [] ⟨M', ?_, trivial, rfl, by show ((0 : Nat) : Int) ≤ m; omega, ?_, ?_⟩ hF.symm
      · rw [sk'.2, t32]
        rfl
      · have sl := sTg_len (o := l1) (d := sT0.2.2.2.2.1 + 1) hE (Or.inl hkc)
        have al : (ptT (begT e sT0 l1 (-2) (eK e l1)) [47, 62]).1.length = (sTg e l1 (eK e l1) (sT0.2.2.2.2.1 + 1)).length + 2 := by
          show (([] : List Int) ++ sTg e l1 (eK e l1) (sT0.2.2.2.2.1 + 1) ++ [47, 62]).length = _
          rw [List.nil_append, List.length_append]
          rfl
        rw [al]
        show 4 * (1 : Int) ≤ _ + 0
        omega
      · rw [f'.1 54 19 (by decide)]
        exact t19
    · rw [hc, if_pos rfl] at hF
      obtain ⟨p1, p2, p3, p4, p5, p6, p7⟩ := p'
      rw [t32] at p1 p2 p3 p4 p5 p6 p7
      refine loop S' (maT.tr f') _ [(l1, 0, eK e l1, 0, 0, -2)] ⟨M', ?_, ⟨?_, ?_, ?_, ?_, ?_, ho, Or.inl hkc, ⟨Int.le_refl _, ?_⟩, ⟨Int.le_refl _, ?_⟩, Int.le_refl _, fun r => absurd r (by show ¬ (0 : Int) < 0; omega), trivial⟩, rfl, ?_, ?_, ?_⟩ ?_
      · rw [p1]
        rfl
      · rw [show ((([] : List Fm).length : Nat) : Int) = 0 from rfl, p2, if_pos rfl]
      · rw [show ((([] : List Fm).length : Nat) : Int) = 0 from rfl, p3, if_pos rfl]
        rfl
      · rw [show ((([] : List Fm).length : Nat) : Int) = 0 from rfl, p4, if_pos rfl]
      · rw [show ((([] : List Fm).length : Nat) : Int) = 0 from rfl, p5, if_pos rfl]
      · rw [show ((([] : List Fm).length : Nat) : Int) = 0 from rfl, p6, if_pos rfl]
      · show (0 : Int) < ((1 : Nat) : Int)
        omega
      · exact (hV.2.2.2.1 _ hkc).1
      · show ((1 : Nat) : Int) ≤ m
        omega
      · have sl := sTg_len (o := l1) (d := sT0.2.2.2.2.1 + 1) hE (Or.inl hkc)
        have al : (ptT (begT e sT0 l1 (-2) (eK e l1)) [62]).1.length = (sTg e l1 (eK e l1) (sT0.2.2.2.2.1 + 1)).length + 1 := by
          show (([] : List Int) ++ sTg e l1 (eK e l1) (sT0.2.2.2.2.1 + 1) ++ [62]).length = _
          rw [List.nil_append, List.length_append]
          rfl
        rw [al]
        show 4 * (1 : Int) ≤ _ + (1 + _ + 0)
        rw [if_neg (fun r => absurd r.1 (by show ¬ (0 : Int) < 0; omega))]
        omega
      · rw [f'.1 54 19 (by decide)]
        exact t19
      · rw [hF, fnS_cons, rsF_0, Int.sub_zero]
        rfl
  · refine ⟨⟨rfl, rfl, by omega, by omega, ?_, fun b hb => ?_, fun j j1 j2 => ?_⟩, by dsimp only; omega⟩
    · rw [h10']
      exact i3
    · rw [h10', (pA_ne b hb).2]
      exact i4 b hb
    · rw [h10', pA_if]
      by_cases r : j = l3
      · rw [if_pos r]
      · rw [if_neg r]
        exact i5 j j1 (by omega)
end MX

