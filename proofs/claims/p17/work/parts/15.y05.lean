/-! THE WRITER: references -/
theorem pth_drop {e : Env} {p : Pth} {j : Nat} (h : j < p.length) : pth e (p.drop j) = ([47] ++ stp e (p.getD j (0, 0, 0))) ++ pth e (p.drop (j + 1)) := by
  rw [List.drop_eq_getElem_cons h, List.getD_eq_getElem?_getD, List.getElem?_eq_getElem h]
  rfl
theorem pth_end {e : Env} {p : Pth} {j : Nat} (h : p.length ≤ j) : pth e (p.drop j) = [] := by
  rw [List.drop_eq_nil_of_le h]
  rfl
theorem WrR.of {S S' : St} {e : Env} {s : Ws} {l : List Int} (h : WrR S e s) (k : Ow S S') (ho : oC S' 22 (s.1 ++ l)) : WrR S' e (pt s l) := by
  obtain ⟨h1, h2, h3, h4, h5, h6, h7⟩ := h
  have k210 := (k 210 (by decide) (by decide) (by decide)).1
  have k211 := (k 211 (by decide) (by decide) (by decide)).2
  have k212 := (k 212 (by decide) (by decide) (by decide)).2
  have k213 := (k 213 (by decide) (by decide) (by decide)).2
  have k214 := (k 214 (by decide) (by decide) (by decide)).2
  refine ⟨ho, by rw [k210]; exact h2, by rw [k210]; exact h3, by rw [k210]; exact h4, ⟨h5.1, ?_⟩, fun o q => by rw [k211]; exact h6 o q, fun hm o q1 q2 => ?_⟩
  · show s.2.2.2.1 ≤ ((s.1 ++ l).length : Int)
    rw [List.length_append]
    omega
  · obtain ⟨a1, a2⟩ := h7 hm o q1 q2
    rw [k212, k213, k214]
    exact ⟨a1, fun t ht => ⟨(a2 t ht).1.ow k, (a2 t ht).2⟩⟩
theorem pt_nil (s : Ws) : pt s [] = s := by
  unfold pt
  rw [List.append_nil]
theorem pt_pt (s : Ws) (l m : List Int) : pt (pt s l) m = pt s (l ++ m) := by
  unfold pt
  rw [List.append_assoc]
section WZ
variable {S : St} {K : Int → St → Prop} {e : Env} {A : List Int} {o f c i k w : Int}
theorem o_stP {p : Pth} {j0 : Nat} {x : Int} (hE : cE S e) (hV : EV e) (hO : oC S 22 A) (hr : rw216 S p) (hp : ∀ t ∈ p, VS e S t) (hl : p.length ≤ 42) (hj : j0 ≤ p.length) (hx : x = (p.length : Int) - 1 - j0) (hK : ∀ S', Of S S' → oC S' 22 (A ++ pth e (p.drop j0)) → K 0 S') : wX8_path_15 x S K := by
  unfold wX8_path_15
  refine ⟨fun l3 T => Of S T ∧ ∃ (j : Nat) (A' : List Int), j ≤ p.length ∧ l3 = (p.length : Int) - 1 - j ∧ oC T 22 A' ∧ A' ++ pth e (p.drop j) = A ++ pth e (p.drop j0), fun l3 T => (l3 + 1).toNat, ⟨Of.rf, j0, A, hj, hx, hO, rfl⟩, fun l3 T hI => ?_⟩
  obtain ⟨fT, j, A', i1, i2, oT, hc⟩ := hI
  unfold wX8_path_15'
  refine ⟨⟨by omega, by omega⟩, fun h => ?_, fun h => ?_⟩
  · rw [pth_end (by omega), List.append_nil] at hc
    exact hK T fT (by rw [← hc]; exact oT)
  · have hjl : j < p.length := by omega
    rw [pth_drop hjl] at hc
    have e216 : T.2 216 l3 = (p.getD j (0, 0, 0)).1 := by
      rw [(fT 216 (by decide)).2, i2]
      exact hr j hjl
    have hm : p.getD j (0, 0, 0) ∈ p := by
      rw [List.getD_eq_getElem?_getD, List.getElem?_eq_getElem hjl]
      exact List.getElem_mem hjl
    refine t_put oT ⟨by decide, by decide⟩ (fun r T1 f1 o1 => ⟨by omega, by omega, fun g1 => ?_⟩)
    rw [show T1.2 216 = T.2 216 from (f1 216 (by decide)).2, e216]
    refine o_step (hE.of (fT.tr f1)) hV o1 ((hp _ hm).ow (fT.tr f1).ow) (fun T2 f2 o2 => ⟨⟨(fT.tr f1).tr f2, j + 1, _, by omega, by omega, o2, ?_⟩, by dsimp only; omega⟩)
    rw [← hc]
    simp only [List.append_assoc]
theorem o_stW {p : Pth} {j0 : Nat} {x : Int} (hE : cE S e) (hV : EV e) (hO : oC S 22 A) (hr : rw216 S p) (hp : ∀ t ∈ p, VS e S t) (hl : p.length ≤ 42) (hj : j0 ≤ p.length) (hx : x = (p.length : Int) - 1 - j0) (hK : ∀ S', Of S S' → oC S' 22 (A ++ pth e (p.drop j0)) → K 0 S') : wX8_way_126 x S K := by
  unfold wX8_way_126
  refine ⟨fun l3 T => Of S T ∧ ∃ (j : Nat) (A' : List Int), j ≤ p.length ∧ l3 = (p.length : Int) - 1 - j ∧ oC T 22 A' ∧ A' ++ pth e (p.drop j) = A ++ pth e (p.drop j0), fun l3 T => (l3 + 1).toNat, ⟨Of.rf, j0, A, hj, hx, hO, rfl⟩, fun l3 T hI => ?_⟩
  obtain ⟨fT, j, A', i1, i2, oT, hc⟩ := hI
  unfold wX8_way_126'
  refine ⟨⟨by omega, by omega⟩, fun h => ?_, fun h => ?_⟩
  · rw [pth_end (by omega), List.append_nil] at hc
    exact hK T fT (by rw [← hc]; exact oT)
  · have hjl : j < p.length := by omega
    rw [pth_drop hjl] at hc
    have e216 : T.2 216 l3 = (p.getD j (0, 0, 0)).1 := by
      rw [(fT 216 (by decide)).2, i2]
      exact hr j hjl
    have hm : p.getD j (0, 0, 0) ∈ p := by
      rw [List.getD_eq_getElem?_getD, List.getElem?_eq_getElem hjl]
      exact List.getElem_mem hjl
    refine t_put oT ⟨by decide, by decide⟩ (fun r T1 f1 o1 => ⟨by omega, by omega, fun g1 => ?_⟩)
    rw [show T1.2 216 = T.2 216 from (f1 216 (by decide)).2, e216]
    refine o_step (hE.of (fT.tr f1)) hV o1 ((hp _ hm).ow (fT.tr f1).ow) (fun T2 f2 o2 => ⟨⟨(fT.tr f1).tr f2, j + 1, _, by omega, by omega, o2, ?_⟩, by dsimp only; omega⟩)
    rw [← hc]
    simp only [List.append_assoc]
theorem o_path {s : Ws} (hE : cE S e) (hV : EV e) (hm : ¬ eO e = 3) (hR : WrR S e s) (ho : okO e o) (hb : 0 < s.2.1 o) (hK : ∀ S', Ow S S' → oC S' 22 (s.1 ++ pth e (s.2.2.1 o)) → K 0 S') : wX8_path o S K := by
  unfold wX8_path
  intro _
  have ho0 : ¬ o < 0 := by have := ho.1; omega
  have hP := hR.2.2.2.2.2.2 hm o ho hb
  refine o_anc216 (dn := []) hE hV hm hR (Or.inr ⟨ho, hb⟩) (by decide) (fun j hj => absurd hj (Nat.not_lt_zero _)) (fun S1 f1 r1 l1 x hx => ?_)
  rw [if_neg ho0, List.append_nil] at r1 l1 hx
  have ow1 : Ow S S1 := fun a _ _ h3 => f1 a h3
  have oc1 : oC S1 22 s.1 := by
    have q := hR.1
    unfold oC at q ⊢
    rw [(f1 22 (by decide)).1, (f1 22 (by decide)).2]
    exact q
  exact o_stP (j0 := 0) (hE.ow ow1) hV oc1 r1 (fun t ht => (hP.2 t ht).1.ow ow1) l1 (Nat.zero_le _) (by omega) (fun S2 f2 o2 => hK S2 (ow1.tr f2.ow) (by simpa using o2))
theorem shr_le : ∀ (h t : Pth), shr h t ≤ h.length ∧ shr h t ≤ t.length
  | [], t => ⟨Nat.le_refl _, Nat.zero_le _⟩
  | a :: l, [] => ⟨Nat.zero_le _, Nat.le_refl _⟩
  | a :: l, b :: m => by
    unfold shr
    have := shr_le l m
    split <;> simp <;> omega
theorem shr_drop {h t : Pth} {j : Nat} (h1 : j < h.length) (h2 : j < t.length) : shr (h.drop j) (t.drop j) = if (h.getD j (0, 0, 0)).1 = (t.getD j (0, 0, 0)).1 then shr (h.drop (j + 1)) (t.drop (j + 1)) + 1 else 0 := by
  rw [List.drop_eq_getElem_cons h1, List.drop_eq_getElem_cons h2, List.getD_eq_getElem?_getD, List.getElem?_eq_getElem h1, List.getD_eq_getElem?_getD, List.getElem?_eq_getElem h2]
  rfl
theorem shr_nil {h t : Pth} {j : Nat} (h1 : h.length ≤ j ∨ t.length ≤ j) : shr (h.drop j) (t.drop j) = 0 := by
  rcases h1 with q | q
  · rw [List.drop_eq_nil_of_le q]
    rfl
  · rw [List.drop_eq_nil_of_le q]
    cases h.drop j <;> rfl
theorem dot_s : ∀ k : Nat, dot (k + 1) = dot k ++ (if k = 0 then [46, 46] else [47, 46, 46])
  | 0 => rfl
  | k + 1 => by rw [if_neg (by omega)]; rfl
theorem o_way {s : Ws} (hE : cE S e) (hV : EV e) (hm : ¬ eO e = 3) (hR : WrR S e s) (ho : okO e o) (hb : 0 < s.2.1 o) (hw : okO e w) (hwb : 0 < s.2.1 w) (hf : okF e (eK e w) f) (hK : ∀ S', Ow S S' → oC S' 22 (s.1 ++ way e (ppp e s w f ++ [(-1, k, 1)]) (s.2.2.1 o)) → K 0 S') : wX8_way o w f S K := by
  have ho0 : ¬ o < 0 := by have := ho.1; omega
  have hw0 : ¬ w < 0 := by have := hw.1; omega
  have hob := okO_b hV ho
  have hwbb := okO_b hV hw
  have hfb := okF_b hV hf
  have hcb := okC_b hV (hV.2.2.1 w hw)
  have hP := hR.2.2.2.2.2.2 hm o ho hb
  unfold wX8_way
  intro _ _ _
  -- the rows
  have rows : ∀ (S1 : St) (dn : Pth), (∀ a, a ≠ 215 → S1.1 a = S.1 a ∧ S1.2 a = S.2 a) → rw215 S1 dn → dn.length ≤ 2 → s.2.2.1 w ++ dn = ppp e s w f ++ [(-1, k, 1)] → wX8_ancestry_b (dn.length : Nat) w S1 (fun r4 S3 => wX8_ancestry 0 o S3 (fun r7 S6 => wX8_way_32 r4 r7 0 S6 K)) := fun S1 dn f1 hr hd hdn => by
    have ow1 : Ow S S1 := fun a _ h2 _ => f1 a h2
    have oc1 : oC S1 22 (s.1 ++ []) := by
      rw [List.append_nil]
      have q := hR.1
      unfold oC at q ⊢
      rw [(f1 22 (by decide)).1, (f1 22 (by decide)).2]
      exact q
    have hR1 : WrR S1 e s := pt_nil s ▸ hR.of ow1 oc1
    refine o_anc215 (hE.ow ow1) hV hm hR1 (Or.inr ⟨hw, hwb⟩) hd hr (fun S3 f3 r3 l3 => ?_)
    have ow3 : Ow S1 S3 := fun a _ h2 _ => f3 a h2
    have oc3 : oC S3 22 (s.1 ++ []) := by
      have q := oc1
      unfold oC at q ⊢
      rw [(f3 22 (by decide)).1, (f3 22 (by decide)).2]
      exact q
    have hR3 : WrR S3 e s := pt_nil s ▸ hR1.of ow3 oc3
    rw [if_neg hw0, hdn] at r3 l3 ⊢
    refine o_anc216 (dn := []) ((hE.ow ow1).ow ow3) hV hm hR3 (Or.inr ⟨ho, hb⟩) (by decide) (fun j hj => absurd hj (Nat.not_lt_zero _)) (fun S6 f6 r6 l6 => ?_)
    have ow6 : Ow S3 S6 := fun a _ _ h3 => f6 a h3
    have oc6 : oC S6 22 s.1 := by
      have q := oc3
      rw [List.append_nil] at q
      unfold oC at q ⊢
      rw [(f6 22 (by decide)).1, (f6 22 (by decide)).2]
      exact q
    rw [if_neg ho0, List.append_nil] at r6 l6 ⊢
    have ow : Ow S S6 := (ow1.tr ow3).tr ow6
    have hE6 := hE.ow ow
    obtain ⟨h, hh⟩ : ∃ h : Pth, h = ppp e s w f ++ [(-1, k, 1)] := ⟨_, rfl⟩
    rw [← hh] at r3 l3 hK ⊢
    have r36 : rw215 S6 h := fun j hj => by
      rw [(f6 215 (by decide)).2]
      exact r3 j hj
    have hsh := shr_le h (s.2.2.1 o)
    unfold wX8_way_32
    refine ⟨fun m4 m5 m6 T => m4 = (h.length : Int) ∧ m5 = ((s.2.2.1 o).length : Int) ∧ T = S6 ∧ ∃ j : Nat, m6 = (j : Int) ∧ j ≤ h.length ∧ j ≤ (s.2.2.1 o).length ∧ j + shr (h.drop j) ((s.2.2.1 o).drop j) = shr h (s.2.2.1 o), fun m4 m5 m6 T => (m4 - m6).toNat, ⟨rfl, rfl, rfl, 0, rfl, Nat.zero_le _, Nat.zero_le _, by simp⟩, fun m4 m5 m6 T hI => ?_⟩
    obtain ⟨rfl, rfl, rfl, j, rfl, j1, j2, j3⟩ := hI
    have dn2 : j = shr h (s.2.2.1 o) → wX8_way_79 (h.length : Int) ((s.2.2.1 o).length : Int) (j : Int) T K := fun hj => by
      unfold wX8_way_79 wX8_way_82
      refine ⟨fun n4 n5 n6 n7 U => n4 = (h.length : Int) ∧ n5 = ((s.2.2.1 o).length : Int) ∧ n6 = (j : Int) ∧ Of T U ∧ ∃ q : Nat, n7 = (q : Int) ∧ q ≤ h.length - j ∧ oC U 22 (s.1 ++ dot q), fun n4 n5 n6 n7 U => (n4 - n7).toNat, ⟨rfl, rfl, rfl, Of.rf, 0, rfl, Nat.zero_le _, by rw [show dot 0 = [] from rfl, List.append_nil]; exact oc6⟩, fun n4 n5 n6 n7 U hJ => ?_⟩
      obtain ⟨rfl, rfl, rfl, fU, q, rfl, q1, q2⟩ := hJ
      unfold wX8_way_82'
      refine ⟨⟨by omega, by omega⟩, ⟨by omega, by omega⟩, fun hh2 x hx => ?_, fun hh2 => ?_⟩
      · have hq : q = h.length - j := by omega
        subst hq
        have rU : rw216 U (s.2.2.1 o) := fun j' hj' => by
          rw [(fU 216 (by decide)).2]
          exact r6 j' hj'
        refine o_stW (j0 := j) (hE6.of fU) hV q2 rU (fun t ht => (hP.2 t ht).1.ow (ow.tr fU.ow)) l6 j2 (by omega) (fun S' g1 g2 => hK S' (ow.tr (fU.tr g1).ow) ?_)
        unfold way
        rw [← hj, ← List.append_assoc]
        exact g2
      · refine ⟨fun hq => ?_, fun hq => ?_⟩
        · refine t_spell q2 str4 (fun U1 g1 p1 => ⟨⟨rfl, rfl, rfl, fU.tr g1, q + 1, by simp, by omega, ?_⟩, by dsimp only; omega⟩)
          rw [dot_s, if_neg (by omega), ← List.append_assoc]
          exact p1
        · refine t_spell q2 str3 (fun U1 g1 p1 => ⟨⟨rfl, rfl, rfl, fU.tr g1, q + 1, by simp, by omega, ?_⟩, by dsimp only; omega⟩)
          rw [dot_s, if_pos (by omega), ← List.append_assoc]
          exact p1
    unfold wX8_way_32'
    refine ⟨⟨by omega, by omega⟩, ⟨by omega, by omega⟩, fun q => dn2 ?_, fun q => ⟨⟨by omega, by omega⟩, fun q2 => dn2 ?_, fun q2 => ?_⟩⟩
    · rw [shr_nil (Or.inl (by omega))] at j3
      omega
    · rw [shr_nil (Or.inr (by omega))] at j3
      omega
    · have a1 := r36 j (by omega)
      have a2 := r6 j (by omega)
      rw [shr_drop (by omega) (by omega)] at j3
      rw [a1, a2]
      refine ⟨by omega, by omega, fun _ => ⟨by omega, by omega, fun _ => ⟨fun q3 => dn2 ?_, fun q3 => ⟨⟨rfl, rfl, rfl, j + 1, by simp, by omega, by omega, ?_⟩, by dsimp only; omega⟩⟩⟩⟩
      · rw [if_neg q3] at j3
        omega
      · rw [if_pos (Classical.not_not.mp q3)] at j3
        omega
  unfold wX8_ancestryOfItself
  intro _ _
  refine ⟨by decide, by decide, fun S2 hS2 => ?_⟩
  have f2 : ∀ a, a ≠ 215 → S2.1 a = S.1 a ∧ S2.2 a = S.2 a := fun a ha => by
    rw [hS2]
    exact pA_ne a ha
  have hE2 := hE.ow (S' := S2) (fun a _ h2 _ => f2 a h2)
  have r2 : rw215 S2 [(-1, k, 1)] := by
    rw [hS2]
    exact rw215_cons (p := []) (x := -1) (fun j hj => absurd hj (Nat.not_lt_zero _)) rfl
  refine r_cls hE2 hV hw ⟨⟨by omega, by omega⟩, r_expl hE2 hV hf ?_⟩
  by_cases qq : eD e (eK e w) f = 3 ∧ ¬ eM e (eK e w) f = 1
  · rw [if_pos qq]
    refine ⟨⟨by decide, by decide⟩, fun _ => ?_, fun h => absurd (show ¬ (1 : Int) = 0 by decide) h⟩
    unfold wX8_listElement
    intro _ _
    refine ⟨by decide, by decide, ⟨by omega, by omega⟩, fun S13 hS13 => ⟨⟨by decide, by decide⟩, ?_⟩⟩
    refine rows S13 [(30 + w * 4 + f, nmF e w f, 1), (-1, k, 1)] (fun a ha => ?_) ?_ (by simp) ?_
    · rw [hS13]
      exact ⟨(pA_ne a ha).1.trans (f2 a ha).1, (pA_ne a ha).2.trans (f2 a ha).2⟩
    · rw [hS13]
      exact rw215_cons r2 rfl
    · unfold ppp lst
      rw [if_neg hw0, if_pos qq, List.append_assoc]
      rfl
  · rw [if_neg qq]
    refine ⟨⟨by decide, by decide⟩, fun h => absurd rfl h, fun _ => ⟨⟨by decide, by decide⟩, ?_⟩⟩
    refine rows S2 [(-1, k, 1)] f2 r2 (by simp) ?_
    unfold ppp
    rw [if_neg hw0, if_neg qq]
theorem o_ref {s : Ws} {p : Pth} (hE : cE S e) (hV : EV e) (hm : ¬ eO e = 3) (hmo : eO e = 0 ∨ eO e = 1 ∨ eO e = 2) (hR : WrR S e s) (ho : okO e o) (hb : 0 < s.2.1 o) (hk3 : s.1.length ≤ 3000) (h : Owr e w f i o) (hw : 0 ≤ w ∧ 0 < s.2.1 w) (hp : p = ppp e s w f) (hK : ∀ S', Ow S S' → oC S' 22 (s.1 ++ rfT e s o p (nmo e w f o)) → K 0 S') : wX8_reference o w f S K := by
  have hob := okO_b hV ho
  have hn := nmo_ok hV ho h
  have hnb := okN_b hV hn
  obtain ⟨hw1, hf, -⟩ := h.resolve_left (fun q => by have := q.1; omega)
  have hw1b := okO_b hV hw1
  have hfb := okF_b hV hf
  unfold wX8_reference
  intro _ _ _
  refine r_nameOf hE hV ho h ?_
  refine t_put hR.1 ⟨by decide, by decide⟩ (fun r S1 f1 o1 => ⟨⟨by omega, by omega⟩, ?_⟩)
  refine o_spellTo (hE.of f1) o1 hn hnb (fun S2 f2 o2 => ?_)
  refine t_spell o2 str2 (fun S3 f3 o3 => ?_)
  have f13 := (f1.tr f2).tr f3
  rw [List.append_assoc, List.append_assoc] at o3
  have hR3 := hR.of f13.ow o3
  have em : S3.1 210 3 = eO e := hR3.2.1
  have hE3 := hE.of f13
  unfold rfT at hK
  have fin : ∀ (l : List Int) (S' : St), Ow S3 S' → oC S' 22 (s.1 ++ ([60] ++ (eL e (nmo e w f o) ++ [32, 114, 101, 102, 101, 114, 101, 110, 99, 101, 61, 34])) ++ l) → (∀ S', Ow S S' → oC S' 22 (s.1 ++ ([60] ++ eL e (nmo e w f o) ++ [32, 114, 101, 102, 101, 114, 101, 110, 99, 101, 61, 34] ++ l ++ [34, 47, 62])) → K 0 S') → wX8_reference_84 S' K := fun l S' g1 g2 hk => by
    unfold wX8_reference_84
    refine t_spell g2 str5 (fun S5 f5 o5 => hk S5 ((f13.ow.tr g1).tr f5.ow) ?_)
    simp only [List.append_assoc] at o5 ⊢
    exact o5
  rw [em]
  intro _
  refine ⟨fun h2 => ⟨fun h0 => ?_, fun h0 => ?_⟩, fun h2 => ?_⟩
  · rw [if_neg h2, if_neg h0] at hK
    exact o_path hE3 hV hm hR3 ho hb (fun S4 g1 g2 => fin _ S4 g1 g2 hK)
  · rw [if_neg h2, if_pos (Classical.not_not.mp h0), hp] at hK
    exact o_way (k := nmo e w f o) hE3 hV hm hR3 ho hb hw1 hw.2 hf (fun S4 g1 g2 => fin _ S4 g1 g2 hK)
  · rw [if_pos (Classical.not_not.mp h2)] at hK
    have hid := hR3.2.2.2.2.2.1 o ho
    have hk := hR3.2.2.2.2.1
    have hk2 := hR.2.2.2.2.1
    rw [hid.1]
    refine ⟨by omega, by omega, fun g => ?_⟩
    exact o_number ⟨by omega, by omega⟩ hR3.1 (fun S4 g1 g2 => fin _ S4 g1.ow g2 hK)
end WZ

