/-! THE MODEL: an object is begun -/
def Sk (S S' : St) : Prop := (∀ a, 77 ≤ a → a ≤ 82 → S'.2 a = S.2 a) ∧ S'.1 54 32 = S.1 54 32
theorem Sk.rf {S : St} : Sk S S := ⟨fun _ _ _ => rfl, rfl⟩
theorem Sk.tr {S S1 S2 : St} (h : Sk S S1) (k : Sk S1 S2) : Sk S S2 := ⟨fun a q r => (k.1 a q r).trans (h.1 a q r), k.2.trans h.2⟩
theorem Om.sk {S S' : St} (h : Om S S') : Sk S S' := ⟨fun a q r => h.2 a (by omega), h.1 54 32 (by decide)⟩
theorem NewE.sk {S S' : St} {P k : Int} (h : NewE S S' P k) : Sk S S' := ⟨fun a q r => h.2.2.1 a (by omega) (by omega) (by omega), h.1 54 32 (by decide)⟩
/-- a frame more -/
def Psh (S S' : St) (o x k : Int) : Prop := S'.1 54 32 = S.1 54 32 + 1 ∧ (∀ j, S'.2 77 j = if j = S.1 54 32 then o else S.2 77 j) ∧ (∀ j, S'.2 78 j = if j = S.1 54 32 then x else S.2 78 j) ∧ (∀ j, S'.2 79 j = if j = S.1 54 32 then k else S.2 79 j) ∧ (∀ j, S'.2 80 j = if j = S.1 54 32 then 0 else S.2 80 j) ∧ (∀ j, S'.2 81 j = if j = S.1 54 32 then 0 else S.2 81 j) ∧ ∀ j, S'.2 82 j = if j = S.1 54 32 then -2 else S.2 82 j
theorem pA_if {S : St} {a : Nat} {i v x : Int} : (pA S a i v).2 a x = if x = i then v else S.2 a x := by
  show (if a = a ∧ x = i then v else S.2 a x) = _
  by_cases q : x = i
  · rw [if_pos ⟨rfl, q⟩, if_pos q]
  · rw [if_neg (fun r => q r.2), if_neg q]
section MB
variable {S : St} {K : Int → St → Prop} {e : Env} {s : Wt} {o k P m : Int}
theorem m_begin {g : Int} (hE : mE S e) (hV : EV e) (hN : mN S e) (hM : MT S e s) (ho : okO e o) (hk : okN e k) (hg : g = if 6 ≤ k then 1 else 0) (hP : -2 ≤ P ∧ P ≠ -1 ∧ P < s.2.2.2.1.length) (hn : s.2.2.2.1.length < 899) (hnb : ¬ eO e = 3 → ¬ 0 < s.2.1 o) (hop : iv 0 19 (S.1 54 32)) (hK1 : hCo e o (eF e (eK e o)).toNat 0 = false → ∀ S', Ma S S' → Sk S S' → MT S' e (ptT (begT e s o P k) [47, 62]) → K 0 S') (hK2 : hCo e o (eF e (eK e o)).toNat 0 = true → ∀ S', Ma S S' → Psh S S' o s.2.2.2.1.length k → MT S' e (ptT (begT e s o P k) [62]) → K 0 S') : wX11_begin o P k g (eO e) S K := by
  have hkb := okN_b hV hk
  have hob := okO_b hV ho
  have hkc := hV.2.2.1 o ho
  have hcb := okC_b hV hkc
  have hF := hV.2.2.2.1 _ hkc
  unfold wX11_begin
  intro _ _ _ gg gm
  refine ⟨by omega, by omega, fun _ x3 hx3 => ?_⟩
  rw [hE.2.1 o ho] at hx3
  subst hx3
  refine m_elem hE hV hN hM hk hP (by omega) (fun S7 n7 M7 => ?_)
  have hE7 := hE.ma n7.ma
  have k7 := M7.2.2.2.1
  have k7b := hM.2.2.2.2.1
  have l7 : (addT s P k).2.2.2.1.length = s.2.2.2.1.length + 1 := by
    show (s.2.2.2.1 ++ [(P, k)]).length = _
    simp
  have kk7 : S7.1 54 30 = s.2.2.2.2.1 := k7
  rw [kk7]
  refine fun _ => ⟨⟨by omega, by omega⟩, fun S9 h9 => ⟨by omega, by omega, ?_⟩⟩
  have f9 : Ma S7 S9 := by
    rw [h9]
    refine ⟨fun a j q => ?_, fun a q => rfl⟩
    show (if a = 54 ∧ j = 30 then _ else S7.1 a j) = _
    rw [if_neg (fun r => q ⟨r.1, Or.inr (Or.inr (Or.inl r.2))⟩)]
  -- behind the beginning
  have rest : ∀ S1 : St, Ma S S1 → Sk S S1 → MT S1 e (bgnT (addT s P k) o s.2.2.2.1.length) → wX11_begin_55 o k g (eO e) (eK e o) (s.2.2.2.1.length : Nat) S1 K := fun S1 f1 sk1 M1 => by
    have hE1 := hE.ma f1
    -- the attributes
    have attrs : ∀ (T : St) (B : List Int), Om S1 T → oM T B → B ++ catF (att e o) (eF e (eK e o)).toNat 0 = s.1 ++ sTg e o k (s.2.2.2.2.1 + 1) → wX11_begin_140 o k (eK e o) (s.2.2.2.1.length : Nat) T K := fun T B fT oT hB => by
      unfold wX11_begin_140 wX11_begin_143
      refine ⟨fun l1 l3 l6 l7 l8 U => l1 = o ∧ l3 = k ∧ l6 = eK e o ∧ l7 = (s.2.2.2.1.length : Nat) ∧ 0 ≤ l8 ∧ l8 ≤ eF e (eK e o) ∧ Om S1 U ∧ ∃ B', oM U B' ∧ B' ++ catF (att e o) (eF e (eK e o) - l8).toNat l8 = s.1 ++ sTg e o k (s.2.2.2.2.1 + 1), fun l1 l3 l6 l7 l8 U => (5 - l8).toNat, ⟨rfl, rfl, rfl, rfl, by decide, hF.1, fT, B, oT, by simpa using hB⟩, fun l1 l3 l6 l7 l8 U hI => ?_⟩
      obtain ⟨rfl, rfl, rfl, rfl, i1, i2, fU, B', oU, hc⟩ := hI
      have hEU := hE1.om fU
      unfold wX11_begin_143' wX11_begin_232
      rw [hEU.2.2.2.2.2.1 _ hkc]
      refine ⟨by omega, by omega, fun _ => ⟨⟨by omega, by omega⟩, fun h => ⟨⟨by omega, by omega⟩, ⟨by omega, by omega⟩, ?_⟩, fun h => ?_⟩⟩
      · rw [catF_end h, List.append_nil] at hc
        subst hc
        refine n_hasCo hEU hV ho ?_
        cases hcb2 : hCo e l1 (eF e (eK e l1)).toNat 0 with
        | false =>
          refine ⟨⟨by decide, by decide⟩, fun r => absurd rfl r, fun _ => m_word2 oU (fun S2 f2 o2 => hK1 hcb2 S2 (f1.tr (fU.tr f2).ma) (sk1.tr (fU.tr f2).sk) ?_)⟩
          have := M1.om (fU.tr f2) (l := sTg e l1 l3 (s.2.2.2.2.1 + 1) ++ [47, 62]) (by rw [← List.append_assoc]; exact o2)
          unfold begT
          rw [ptT_ptT]
          exact this
        | true =>
          refine ⟨⟨by decide, by decide⟩, fun _ => m_put oU (fun r S12 f12 o12 => ?_), fun r => absurd (show ¬ (1 : Int) = 0 by decide) r⟩
          have sk12 := sk1.tr (fU.tr f12).sk
          have e12 : S12.1 54 32 = S.1 54 32 := sk12.2
          have M12 := M1.om (fU.tr f12) (l := sTg e l1 l3 (s.2.2.2.2.1 + 1) ++ [62]) (by rw [← List.append_assoc]; exact o12)
          rw [e12]
          refine fun _ => ⟨by omega, by omega, ⟨by omega, by omega⟩, fun S15 h15 => ?_⟩
          have a15 : S15.1 54 32 = S.1 54 32 := by rw [h15]; exact e12
          rw [a15]
          refine fun _ => ⟨by omega, by omega, ⟨by omega, by omega⟩, fun S19 h19 => ?_⟩
          have a19 : S19.1 54 32 = S.1 54 32 := by rw [h19]; exact a15
          rw [a19]
          refine fun _ => ⟨by omega, by omega, ⟨by omega, by omega⟩, fun S23 h23 => ?_⟩
          have a23 : S23.1 54 32 = S.1 54 32 := by rw [h23]; exact a19
          rw [a23]
          refine fun _ => ⟨by omega, by omega, fun S27 h27 => ?_⟩
          have a27 : S27.1 54 32 = S.1 54 32 := by rw [h27]; exact a23
          rw [a27]
          refine fun _ => ⟨by omega, by omega, fun S30 h30 => ?_⟩
          have a30 : S30.1 54 32 = S.1 54 32 := by rw [h30]; exact a27
          rw [a30]
          refine fun _ => ⟨by omega, by omega, fun S33 h33 => ?_⟩
          have a33 : S33.1 54 32 = S.1 54 32 := by rw [h33]; exact a30
          rw [a33]
          refine fun _ => ⟨⟨by omega, by omega⟩, fun S35 h35 => ?_⟩
          have q1 : ∀ a, a < 77 ∨ 83 ≤ a → S35.2 a = S12.2 a := fun a q => by
            rw [h35, h33, h30, h27, h23, h19, h15]
            exact (((((pA_ne a (by omega)).2.trans (pA_ne a (by omega)).2).trans (pA_ne a (by omega)).2).trans (pA_ne a (by omega)).2).trans (pA_ne a (by omega)).2).trans (pA_ne a (by omega)).2
          have q3 : ∀ a j, ¬ (a = 54 ∧ j = 32) → S35.1 a j = S12.1 a j := fun a j q => by
            rw [h35, h33, h30, h27, h23, h19, h15]
            show (if a = 54 ∧ j = 32 then _ else S12.1 a j) = _
            rw [if_neg q]
          have k77 := sk12.1 77 (by decide) (by decide)
          have k78 := sk12.1 78 (by decide) (by decide)
          have k79 := sk12.1 79 (by decide) (by decide)
          have k80 := sk12.1 80 (by decide) (by decide)
          have k81 := sk12.1 81 (by decide) (by decide)
          have k82 := sk12.1 82 (by decide) (by decide)
          refine hK2 hcb2 S35 ((f1.tr (fU.tr f12).ma).tr ⟨fun a j q => q3 a j (fun r => q ⟨r.1, Or.inr (Or.inr (Or.inr r.2))⟩), fun a q => q1 a (by omega)⟩) ⟨?_, fun j => ?_, fun j => ?_, fun j => ?_, fun j => ?_, fun j => ?_, fun j => ?_⟩ ?_
          · rw [h35]
            show (if 54 = 54 ∧ 32 = 32 then S.1 54 32 + 1 else S33.1 54 32) = _
            rw [if_pos ⟨rfl, rfl⟩]
          · rw [h35, h33, h30, h27, h23, h19, h15, ← k77]
            exact pA_if
          · rw [h35, h33, h30, h27, h23, h19, ← k78]
            show (pA S15 78 (S.1 54 32) (s.2.2.2.1.length : Nat)).2 78 j = _
            rw [pA_if, h15]
            rfl
          · rw [h35, h33, h30, h27, h23, ← k79]
            show (pA S19 79 (S.1 54 32) l3).2 79 j = _
            rw [pA_if, h19, h15]
            rfl
          · rw [h35, h33, h30, h27, ← k80]
            show (pA S23 80 (S.1 54 32) 0).2 80 j = _
            rw [pA_if, h23, h19, h15]
            rfl
          · rw [h35, h33, h30, ← k81]
            show (pA S27 81 (S.1 54 32) 0).2 81 j = _
            rw [pA_if, h27, h23, h19, h15]
            rfl
          · rw [h35, h33, ← k82]
            show (pA S30 82 (S.1 54 32) (-2)).2 82 j = _
            rw [pA_if, h30, h27, h23, h19, h15]
            rfl
          · unfold begT
            rw [ptT_ptT]
            obtain ⟨h1, h2, h3, h4, h5, h6⟩ := M12
            refine ⟨?_, ?_, fun x hx => ?_, ?_, h5, fun y hy => ?_⟩
            · unfold oM at h1 ⊢
              rw [q3 54 39 (by decide), q1 83 (by decide)]
              exact h1
            · rw [q3 54 25 (by decide)]
              exact h2
            · rw [q1 72 (by decide), q1 73 (by decide), q1 74 (by decide)]
              exact h3 x hx
            · rw [q3 54 30 (by decide)]
              exact h4
            · rw [q1 75 (by decide), q1 76 (by decide)]
              exact h6 y hy
      · have hf : okF e (eK e l1) l8 := ⟨hkc, i1, by omega⟩
        have hkd := hV.2.2.2.2.1 _ _ hf
        have e7 := hEU.2.2.2.2.2.2.1 _ _ hf
        rw [catF_succ (by omega)] at hc
        rw [e7.1, e7.2]
        have skip : att e l1 l8 = [] → (l1 = l1 ∧ l3 = l3 ∧ eK e l1 = eK e l1 ∧ ((s.2.2.2.1.length : Nat) : Int) = (s.2.2.2.1.length : Nat) ∧ 0 ≤ l8 + 1 ∧ l8 + 1 ≤ eF e (eK e l1) ∧ Om S1 U ∧ ∃ B', oM U B' ∧ B' ++ catF (att e l1) (eF e (eK e l1) - (l8 + 1)).toNat (l8 + 1) = s.1 ++ sTg e l1 l3 (s.2.2.2.2.1 + 1)) ∧ (5 - (l8 + 1)).toNat < (5 - l8).toNat := fun ha => by
          rw [ha, List.nil_append] at hc
          exact ⟨⟨rfl, rfl, rfl, rfl, by omega, by omega, fU, B', oU, hc⟩, by omega⟩
        refine ⟨by omega, by omega, fun _ => ⟨fun h5 => skip ?_, fun h5 => ⟨by omega, by omega, fun _ => ⟨fun h6 => skip ?_, fun h6 => ?_⟩⟩⟩⟩
        · unfold att
          rw [if_neg (fun r => by have := r.1; omega)]
        · unfold att
          rw [if_neg (fun r => by have := r.2; omega)]
        · have ha : att e l1 l8 = [32] ++ eL e (6 + eK e l1 * 4 + l8) ++ [61, 34] ++ sgl e l1 l8 1 ++ [34] := by
            unfold att
            rw [if_pos ⟨by omega, by omega⟩]
          rw [ha] at hc
          have hn2 := nmF_ok hf
          have hnb2 := okN_b hV hn2
          have hfb := okF_b hV hf
          refine m_put oU (fun r U1 g1 p1 => ⟨⟨by omega, by omega⟩, ?_⟩)
          rw [show (6 + 4 * eK e l1 + l8 : Int) = nmF e l1 l8 by unfold nmF; omega]
          refine m_name (hEU.om g1) p1 hn2 hnb2 (fun U2 g2 p2 => m_word2 p2 (fun U3 g3 p3 => ⟨⟨by omega, by omega⟩, ⟨by omega, by omega⟩, ?_⟩))
          have g13 := (g1.tr g2).tr g3
          refine m_value (hEU.om g13) hV p3 ho hf (by omega) ⟨by decide, by decide⟩ (fun U4 g4 p4 => m_put p4 (fun r U5 g5 p5 => ⟨⟨rfl, rfl, rfl, rfl, by omega, by omega, fU.tr ((g13.tr g4).tr g5), _, p5, ?_⟩, by dsimp only; omega⟩))
          rw [← hc]
          simp only [List.append_assoc]
          rfl
    -- the id
    have ids : ∀ (T : St) (B : List Int), Om S1 T → oM T B → B ++ (if eO e = 2 then [32, 105, 100, 61, 34] ++ num (s.2.2.2.2.1 + 1) ++ [34] else []) ++ catF (att e o) (eF e (eK e o)).toNat 0 = s.1 ++ sTg e o k (s.2.2.2.2.1 + 1) → wX11_begin_106 o k (eO e) (eK e o) (s.2.2.2.1.length : Nat) T K := fun T B fT oT hB => by
      unfold wX11_begin_106
      refine ⟨gm, fun h => ?_, fun h => ?_⟩
      · rw [if_neg h, List.append_nil] at hB
        exact attrs T B fT oT hB
      · have h2 := Classical.not_not.mp h
        rw [if_pos h2] at hB
        refine m_attr (by decide) (by decide) oT (fun U1 g1 p1 => ?_)
        have hnb1 := hnb (by omega)
        have ed : U1.2 76 o = s.2.2.2.2.1 + 1 := by
          rw [(fT.tr g1).2 76 (by decide)]
          have i1 : (bgnT (addT s P k) o s.2.2.2.1.length).2.1 o = s.2.2.2.2.1 + 1 := by
            show (if o = o ∧ ¬ 0 < s.2.1 o then s.2.2.2.2.1 + 1 else s.2.1 o) = _
            rw [if_pos ⟨rfl, hnb1⟩]
          have := ((M1.2.2.2.2.2 o ho).2 (by rw [i1]; omega)).2.2
          rw [this, i1]
        rw [ed]
        refine ⟨by omega, by omega, fun q => m_number ⟨by omega, by omega⟩ p1 (fun U2 g2 p2 => m_put p2 (fun r U3 g3 p3 => attrs U3 _ (fT.tr ((g1.tr g2).tr g3)) p3 ?_))⟩
        rw [← hB]
        simp only [List.append_assoc]
    unfold wX11_begin_55
    have o1 : oM S1 s.1 := M1.1
    refine m_put o1 (fun r S2 f2 o2 => ⟨⟨by omega, by omega⟩, m_name (hE1.om f2) o2 hk hkb (fun S3 f3 o3 => ⟨gg, fun h => ?_, fun h => ?_⟩)⟩)
    · have hk6 : ¬ 6 ≤ k := fun r => by rw [hg, if_pos r] at h; exact absurd h (by decide)
      refine ids S3 _ (f2.tr f3) o3 ?_
      unfold sTg
      rw [if_neg hk6]
      simp only [List.append_assoc, List.nil_append]
    · have hk6 : 6 ≤ k := by
        by_cases r : 6 ≤ k
        · exact r
        · rw [hg, if_neg r] at h
          exact absurd rfl h
      refine m_attr (by decide) (by decide) o3 (fun S4 f4 o4 => m_word3 (by decide) o4 (fun S5 f5 o5 => ⟨⟨by omega, by omega⟩, ?_⟩))
      have f25 := ((f2.tr f3).tr f4).tr f5
      refine m_name (hE1.om f25) o5 (Or.inl hkc) ⟨by omega, by omega⟩ (fun S6 f6 o6 => m_put o6 (fun r S8 f8 o8 => ids S8 _ ((f25.tr f6).tr f8) o8 ?_))
      unfold sTg
      rw [if_pos hk6]
      simp only [List.append_assoc]
      rfl
  have e75 : S9.2 75 o = S.2 75 o := by
    rw [h9]
    exact congrFun (n7.2.2.1 75 (by decide) (by decide) (by decide)) o
  have ho6 := hM.2.2.2.2.2 o ho
  have m9 : ∀ j, j ≠ 30 → S9.1 54 j = S7.1 54 j := fun j hj => by
    rw [h9]
    show (if 54 = 54 ∧ j = 30 then _ else S7.1 54 j) = _
    rw [if_neg (fun r => hj r.2)]
  have k9 : S9.1 54 30 = s.2.2.2.2.1 + 1 := by
    rw [h9]
    show (if 54 = 54 ∧ 30 = 30 then s.2.2.2.2.1 + 1 else S7.1 54 30) = _
    rw [if_pos ⟨rfl, rfl⟩]
  have sk9 : Sk S S9 := by
    refine n7.sk.tr ⟨fun a q r => ?_, m9 32 (by decide)⟩
    rw [h9]
    rfl
  rw [e75]
  refine fun _ => ⟨fun h => ?_, fun h => ⟨by omega, by omega, ⟨by omega, by omega⟩, fun S15 h15 => ?_⟩⟩
  · -- begun before (as a tree)
    have hbg : 0 < s.2.1 o := by
      by_cases r : 0 < s.2.1 o
      · exact r
      · exact absurd (ho6.1.mpr r) h
    refine rest S9 (n7.ma.tr f9) sk9 ?_
    obtain ⟨h1, h2, h3, h4, h5, h6⟩ := M7
    refine ⟨?_, (m9 25 (by decide)).trans h2, fun x hx => ?_, k9, ⟨?_, ?_⟩, fun y hy => ?_⟩
    · unfold oM at h1 ⊢
      rw [m9 39 (by decide), h9]
      exact h1
    · rw [h9]
      exact h3 x hx
    · show 0 ≤ s.2.2.2.2.1 + 1
      omega
    · show s.2.2.2.2.1 + 1 ≤ ((addT s P k).2.2.2.1.length : Int)
      rw [l7]
      omega
    · have q := h6 y hy
      have i1 : (bgnT (addT s P k) o s.2.2.2.1.length).2.1 y = s.2.1 y := by
        show (if y = o ∧ ¬ 0 < s.2.1 o then _ else s.2.1 y) = _
        rw [if_neg (fun r => r.2 hbg)]
      have i2 : (bgnT (addT s P k) o s.2.2.2.1.length).2.2.1 y = s.2.2.1 y := by
        show (if y = o ∧ ¬ 0 < s.2.1 o then _ else s.2.2.1 y) = _
        rw [if_neg (fun r => r.2 hbg)]
      rw [i1, i2, h9]
      exact q
  · have hbg : ¬ 0 < s.2.1 o := ho6.1.mp (Classical.not_not.mp h)
    have a15 : S15.1 54 30 = s.2.2.2.2.1 + 1 := by rw [h15]; exact k9
    rw [a15]
    refine fun _ => ⟨by omega, by omega, fun S19 h19 => ?_⟩
    have f19 : Ma S9 S19 := by
      rw [h19, h15]
      exact ⟨fun a j q => rfl, fun a q => (pA_ne a (by omega)).2.trans (pA_ne a (by omega)).2⟩
    refine rest S19 ((n7.ma.tr f9).tr f19) (sk9.tr ⟨fun a q r => by rw [h19, h15]; exact (pA_ne a (by omega)).2.trans (pA_ne a (by omega)).2, by rw [h19, h15]; rfl⟩) ?_
    obtain ⟨h1, h2, h3, h4, h5, h6⟩ := M7
    refine ⟨?_, ?_, fun x hx => ?_, ?_, ⟨?_, ?_⟩, fun y hy => ?_⟩
    · unfold oM at h1 ⊢
      rw [h19, h15]
      show S9.1 54 39 = _ ∧ ∀ i : Nat, i < 3001 → i < _ → S9.2 83 i = _
      rw [m9 39 (by decide), h9]
      exact h1
    · rw [h19, h15]
      exact (m9 25 (by decide)).trans h2
    · rw [h19, h15, h9]
      exact h3 x hx
    · rw [h19, h15]
      exact k9
    · show 0 ≤ s.2.2.2.2.1 + 1
      omega
    · show s.2.2.2.2.1 + 1 ≤ ((addT s P k).2.2.2.1.length : Int)
      rw [l7]
      omega
    · have q := h6 y hy
      have e1 : S19.2 75 y = if y = o then (s.2.2.2.1.length : Int) else S7.2 75 y := by
        rw [h19, h15]
        show (pA S9 75 o _).2 75 y = _
        rw [pA_if, h9]
        rfl
      have e2 : S19.2 76 y = if y = o then s.2.2.2.2.1 + 1 else S7.2 76 y := by
        rw [h19, pA_if, h15, h9]
        rfl
      have i1 : (bgnT (addT s P k) o s.2.2.2.1.length).2.1 y = if y = o then s.2.2.2.2.1 + 1 else s.2.1 y := by
        show (if y = o ∧ ¬ 0 < s.2.1 o then s.2.2.2.2.1 + 1 else s.2.1 y) = _
        by_cases r : y = o
        · rw [if_pos ⟨r, hbg⟩, if_pos r]
        · rw [if_neg (fun t => r t.1), if_neg r]
      have i2 : (bgnT (addT s P k) o s.2.2.2.1.length).2.2.1 y = if y = o then (s.2.2.2.1.length : Int) else s.2.2.1 y := by
        show (if y = o ∧ ¬ 0 < s.2.1 o then (s.2.2.2.1.length : Int) else s.2.2.1 y) = _
        by_cases r : y = o
        · rw [if_pos ⟨r, hbg⟩, if_pos r]
        · rw [if_neg (fun t => r t.1), if_neg r]
      have il : (bgnT (addT s P k) o s.2.2.2.1.length).2.2.2.1.length = s.2.2.2.1.length + 1 := l7
      rw [i1, i2, e1, e2, il]
      by_cases r : y = o
      · rw [if_pos r, if_pos r, if_pos r, if_pos r]
        exact ⟨⟨fun t => by omega, fun t => by omega⟩, fun _ => ⟨rfl, ⟨by omega, by omega⟩, rfl⟩⟩
      · rw [if_neg r, if_neg r, if_neg r, if_neg r]
        rw [l7] at q
        exact q
end MB

