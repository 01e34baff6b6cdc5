/-! THE WRITER: tags -/
def nmo (e : Env) (w f o : Int) : Int := if 0 ≤ w ∧ eD e (eK e w) f = 2 then nmF e w f else eK e o
def rko (e : Env) (w f i : Int) : Int := if 0 ≤ w ∧ eD e (eK e w) f = 3 then rnk e w f i else 1
/-- where an element stands: it is the root, or in a field of an object -/
def Owr (e : Env) (w f i o : Int) : Prop := (w = -2 ∧ f = 0) ∨ (okO e w ∧ okF e (eK e w) f ∧ (eD e (eK e w) f = 2 ∨ (eD e (eK e w) f = 3 ∧ 0 ≤ i ∧ i < eV e w f ∧ eP e w f i = o)))
section WP
variable {S : St} {K : Int → St → Prop} {e : Env} {A : List Int} {o f c i k w : Int}
theorem okC_b (hV : EV e) (hc : okC e c) : iv 0 5 c := by
  have h := hV.2.1
  have c1 := hc.1
  have c2 := hc.2
  omega
theorem okF_b (hV : EV e) (hf : okF e c f) : iv 0 5 c ∧ iv 0 3 f := by
  have h := okC_b hV hf.1
  have h2 := hV.2.2.2.1 _ hf.1
  have c1 := hf.2.1
  have c2 := hf.2.2
  omega
theorem okO_b (hV : EV e) (ho : okO e o) : iv 0 29 o := by
  have h := hV.1
  have c1 := ho.1
  have c2 := ho.2
  omega
theorem okN_b (hV : EV e) (hk : okN e k) : iv 0 29 k := by
  rcases hk with q | ⟨c, f, q, rfl⟩
  · have := okC_b hV q
    omega
  · have := okF_b hV q
    omega
theorem nmF_ok (hf : okF e (eK e o) f) : okN e (nmF e o f) := Or.inr ⟨_, _, hf, rfl⟩
theorem nmo_ok (hV : EV e) (ho : okO e o) (h : Owr e w f i o) : okN e (nmo e w f o) := by
  unfold nmo
  rcases h with ⟨rfl, rfl⟩ | ⟨h1, h2, h3⟩
  · rw [if_neg (fun q => absurd q.1 (by decide))]
    exact Or.inl (hV.2.2.1 o ho)
  · split
    · exact nmF_ok h2
    · exact Or.inl (hV.2.2.1 o ho)
theorem r_expl (hE : cE S e) (hV : EV e) (hf : okF e c f) (hK : K (if eD e c f = 3 ∧ ¬ eM e c f = 1 then 1 else 0) S) : wX4_isExplicitList c f S K := by
  have hb := okF_b hV hf
  have hd := hV.2.2.2.2.1 _ _ hf
  have h7 := (hE.2.2.2.2.2.2.1 c f hf).2.2
  unfold wX4_isExplicitList
  intro _ _
  refine r_shape hE hV hf ⟨⟨by omega, by omega⟩, fun h => ?_, fun h => ?_⟩
  · rw [if_neg (by omega)] at hK
    exact hK
  · refine r_impl hE hV hf.1 (fun g => ⟨g, fun h2 => ?_, fun h2 => ?_⟩)
    · rw [if_neg (fun q => q.2 (h7.mp h2).2)] at hK
      exact hK
    · rw [if_pos ⟨by omega, fun q => h2 (h7.mpr ⟨by omega, q⟩)⟩] at hK
      exact hK
theorem r_expln (hc : c < 0) (hK : K 0 S) : wX4_isExplicitList c f S K := by
  unfold wX4_isExplicitList
  intro _ _
  exact r_shapen hc ⟨⟨by decide, by decide⟩, fun _ => hK, fun h => absurd (show ¬ (0 : Int) = 4 by decide) h⟩
theorem r_nameOf (hE : cE S e) (hV : EV e) (ho : okO e o) (h : Owr e w f i o) (hK : K (nmo e w f o) S) : wX8_nameOf o w f S K := by
  have hkc := okC_b hV (hV.2.2.1 o ho)
  unfold wX8_nameOf
  intro _ _ _
  unfold nmo at hK
  rcases h with ⟨rfl, rfl⟩ | ⟨h1, h2, h3⟩
  · rw [if_neg (fun q => absurd q.1 (by decide))] at hK
    exact r_cls0 (by decide) ⟨⟨by decide, by decide⟩, r_shapen (by decide) ⟨⟨by decide, by decide⟩, fun _ => r_cls hE hV ho hK, fun h => absurd (show ¬ (0 : Int) = 3 by decide) h⟩⟩
  · have hb := okF_b hV h2
    have hd := (hV.2.2.2.2.1 _ _ h2).1
    refine r_cls hE hV h1 ⟨⟨by omega, by omega⟩, r_shape hE hV h2 ⟨⟨by omega, by omega⟩, fun h => ?_, fun h => ?_⟩⟩
    · rw [if_neg (fun q => h (by omega))] at hK
      exact r_cls hE hV ho hK
    · rw [if_pos ⟨h1.1, by omega⟩] at hK
      exact r_fname hK
theorem r_hasEl (hE : cE S e) (hV : EV e) (ho : okO e o) (hf : okF e (eK e o) f) (ha : ¬ (eD e (eK e o) f ≤ 1 ∧ eM e (eK e o) f = 1)) (hK : K (if hEl e o f then 1 else 0) S) : wX8_hasElement o (eK e o) f S K := by
  have hb := okF_b hV hf
  have hd := hV.2.2.2.2.1 _ _ hf
  have h7 := (hE.2.2.2.2.2.2.1 _ f hf).2.2
  have hv := (hV.2.2.2.2.2 o f ho hf).1
  have yes : hEl e o f = true → K 1 S := fun q => by rw [q, if_pos rfl] at hK; exact hK
  have no : hEl e o f = false → K 0 S := fun q => by rw [q, if_neg (by decide)] at hK; exact hK
  clear hK
  unfold hEl at yes no
  unfold wX8_hasElement
  intro _ _ _
  refine r_shape hE hV hf ⟨⟨by omega, by omega⟩, fun h => ?_, fun h => ?_⟩
  · refine r_impl hE hV hf.1 (fun g => ⟨g, fun h2 => yes ?_, fun h2 => ?_⟩)
    · by_cases q1 : eD e (eK e o) f ≤ 1
      · rw [if_pos q1]
        exact decide_eq_true (show ¬ eM e (eK e o) f = 1 from fun q => ha ⟨q1, q⟩)
      · rw [if_neg q1, if_neg (show ¬ eD e (eK e o) f = 2 by omega)]
        exact decide_eq_true (show ¬ eM e (eK e o) f = 1 ∨ 0 < eV e o f from Or.inl (fun q => h2 (h7.mpr ⟨by omega, q⟩)))
    · have q := h7.mp (Classical.not_not.mp h2)
      rw [if_neg (show ¬ eD e (eK e o) f ≤ 1 by omega), if_neg (show ¬ eD e (eK e o) f = 2 by omega)] at yes no
      refine r_head hE hV ho hf ⟨hv, fun h3 => no (decide_eq_false (fun r => ?_)), fun h3 => yes (decide_eq_true (Or.inr (by omega)))⟩
      rcases r with r | r
      · exact r q.2
      · omega
  · rw [if_neg (show ¬ eD e (eK e o) f ≤ 1 by omega), if_pos (show eD e (eK e o) f = 2 by omega)] at yes no
    exact r_head hE hV ho hf ⟨hv, fun h3 => no (decide_eq_false (fun r => r h3)), fun h3 => yes (decide_eq_true h3)⟩
theorem hCo_succ {n : Int} (h : f < n) : hCo e o (n - f).toNat f = (hEl e o f || hCo e o (n - (f + 1)).toNat (f + 1)) := by
  rw [show (n - f).toNat = (n - (f + 1)).toNat + 1 by omega]
  rfl
theorem hCo_end {n : Int} (h : n ≤ f) : hCo e o (n - f).toNat f = false := by
  rw [show (n - f).toNat = 0 by omega]
  rfl
theorem r_hasCo (hE : cE S e) (hV : EV e) (ho : okO e o) (hK : K (if hCo e o (eF e (eK e o)).toNat 0 then 1 else 0) S) : wX8_hasContent o S K := by
  have hkc := hV.2.2.1 o ho
  have hb := okC_b hV hkc
  have hbo := okO_b hV ho
  have hF := hV.2.2.2.1 _ hkc
  unfold wX8_hasContent
  intro _
  refine r_cls hE hV ho ?_
  unfold wX8_hasContent_11
  refine ⟨fun l1 l2 l3 T => l1 = o ∧ l2 = eK e o ∧ 0 ≤ l3 ∧ l3 ≤ eF e (eK e o) ∧ T = S ∧ hCo e o (eF e (eK e o) - l3).toNat l3 = hCo e o (eF e (eK e o)).toNat 0, fun l1 l2 l3 T => (5 - l3).toNat, ⟨rfl, rfl, by decide, hF.1, rfl, by simp⟩, fun l1 l2 l3 T hI => ?_⟩
  obtain ⟨rfl, rfl, i1, i2, rfl, i3⟩ := hI
  unfold wX8_hasContent_11' wX8_hasContent_47
  refine ⟨⟨by omega, by omega⟩, r_fc hE hV hkc ⟨⟨by omega, by omega⟩, ⟨by omega, by omega⟩, fun h => ?_, fun h => ?_⟩⟩
  · rw [hCo_end h] at i3
    rw [← i3] at hK
    exact hK
  · have hf : okF e (eK e l1) l3 := ⟨hkc, i1, by omega⟩
    rw [hCo_succ (by omega)] at i3
    have next : hEl e l1 l3 = false → (l1 = l1 ∧ eK e l1 = eK e l1 ∧ 0 ≤ l3 + 1 ∧ l3 + 1 ≤ eF e (eK e l1) ∧ T = T ∧ hCo e l1 (eF e (eK e l1) - (l3 + 1)).toNat (l3 + 1) = hCo e l1 (eF e (eK e l1)).toNat 0) ∧ (5 - (l3 + 1)).toNat < (5 - l3).toNat := fun q => by
      rw [q, Bool.false_or] at i3
      exact ⟨⟨rfl, rfl, by omega, by omega, rfl, i3⟩, by omega⟩
    refine r_isAtt hE hV hf ?_
    by_cases q : eD e (eK e l1) l3 ≤ 1 ∧ eM e (eK e l1) l3 = 1
    · rw [if_pos q]
      refine ⟨⟨by decide, by decide⟩, fun _ => next ?_, fun h => absurd (show ¬ (1 : Int) = 0 by decide) h⟩
      unfold hEl
      rw [if_pos q.1]
      exact decide_eq_false (fun r => r q.2)
    · rw [if_neg q]
      refine ⟨⟨by decide, by decide⟩, fun h => absurd rfl h, fun _ => ⟨⟨by omega, by omega⟩, r_hasEl hE hV ho hf q ?_⟩⟩
      cases hb : hEl e l1 l3 with
      | false => exact ⟨⟨by decide, by decide⟩, fun _ => next hb, fun h => absurd rfl h⟩
      | true =>
        rw [hb, Bool.true_or] at i3
        rw [← i3] at hK
        exact ⟨⟨by decide, by decide⟩, fun h => absurd h (by decide), fun _ => hK⟩
theorem o_startTag (hE : cE S e) (hV : EV e) (hO : oC S 22 A) (ho : okO e o) (hk : okN e k) (hm : S.1 210 3 = eO e) {d : Int} (hd : S.2 211 o = d) (hK : ∀ S', Of S S' → oC S' 22 (A ++ sTg e o k d) → K 0 S') : wX8_startTag o k S K := by
  have hkc := hV.2.2.1 o ho
  have hb := okC_b hV hkc
  have hbo := okO_b hV ho
  have hkb := okN_b hV hk
  have hF := hV.2.2.2.1 _ hkc
  unfold wX8_startTag
  intro _ _
  refine r_cls hE hV ho ?_
  refine t_put hO ⟨by decide, by decide⟩ (fun r S1 f1 o1 => ?_)
  refine o_spellTo (hE.of f1) o1 hk hkb (fun S2 f2 o2 => r_isFN ?_)
  have f12 := f1.tr f2
  -- the attributes
  have attrs : ∀ (T : St) (B : List Int), Of S T → oC T 22 B → B ++ catF (att e o) (eF e (eK e o)).toNat 0 = A ++ sTg e o k d → wX8_startTag_106 o (eK e o) T K := fun T B fT oT hB => by
    unfold wX8_startTag_106 wX8_startTag_109
    refine ⟨fun l1 l3 l4 U => l1 = o ∧ l3 = eK e o ∧ 0 ≤ l4 ∧ l4 ≤ eF e (eK e o) ∧ Of S U ∧ ∃ B', oC U 22 B' ∧ B' ++ catF (att e o) (eF e (eK e o) - l4).toNat l4 = A ++ sTg e o k d, fun l1 l3 l4 U => (5 - l4).toNat, ⟨rfl, rfl, by decide, hF.1, fT, B, oT, by simpa using hB⟩, fun l1 l3 l4 U hI => ?_⟩
    obtain ⟨rfl, rfl, i1, i2, fU, B', oU, hc⟩ := hI
    have hEU := hE.of fU
    unfold wX8_startTag_109' wX8_startTag_189
    refine ⟨⟨by omega, by omega⟩, r_fc hEU hV hkc ⟨⟨by omega, by omega⟩, ⟨by omega, by omega⟩, fun h => ?_, fun h => ?_⟩⟩
    · rw [catF_end h, List.append_nil] at hc
      exact hK U fU (by rw [← hc]; exact oU)
    · have hf : okF e (eK e l1) l4 := ⟨hkc, i1, by omega⟩
      rw [catF_succ (by omega)] at hc
      refine r_isAtt hEU hV hf ?_
      by_cases q : eD e (eK e l1) l4 ≤ 1 ∧ eM e (eK e l1) l4 = 1
      · have ha : att e l1 l4 = [32] ++ eL e (6 + eK e l1 * 4 + l4) ++ [61, 34] ++ sgl e l1 l4 1 ++ [34] := by
          unfold att
          rw [if_pos q]
        rw [ha] at hc
        rw [if_pos q]
        refine ⟨⟨by decide, by decide⟩, fun h => absurd h (by decide), fun _ => ?_⟩
        refine t_put oU ⟨by decide, by decide⟩ (fun r U1 g1 p1 => r_fname ⟨⟨by omega, by omega⟩, ?_⟩)
        have hn := nmF_ok hf
        have hnb := okN_b hV hn
        refine o_spellTo (hEU.of g1) p1 hn hnb (fun U2 g2 p2 => ?_)
        refine t_spell p2 str8 (fun U3 g3 p3 => ⟨⟨by omega, by omega⟩, ?_⟩)
        have g13 := (g1.tr g2).tr g3
        refine o_single (hEU.of g13) hV p3 ho hf q.1 ⟨by decide, by decide⟩ (fun U4 g4 p4 => ?_)
        refine t_put p4 ⟨by decide, by decide⟩ (fun r U5 g5 p5 => ⟨⟨rfl, rfl, by omega, by omega, fU.tr ((g13.tr g4).tr g5), _, p5, ?_⟩, by dsimp only; omega⟩)
        rw [← hc]
        simp only [List.append_assoc]
      · have ha : att e l1 l4 = [] := by
          unfold att
          rw [if_neg q]
        rw [ha, List.nil_append] at hc
        rw [if_neg q]
        exact ⟨⟨by decide, by decide⟩, fun _ => ⟨⟨rfl, rfl, by omega, by omega, fU, B', oU, hc⟩, by dsimp only; omega⟩, fun h => absurd rfl h⟩
  -- the id
  have ids : ∀ (T : St) (B : List Int), Of S T → oC T 22 B → B ++ (if eO e = 2 then [32, 105, 100, 61, 34] ++ num d ++ [34] else []) ++ catF (att e o) (eF e (eK e o)).toNat 0 = A ++ sTg e o k d → wX8_startTag_69 o (eK e o) T K := fun T B fT oT hB => by
    unfold wX8_startTag_69
    have em : T.1 210 3 = eO e := (congrFun (fT 210 (by decide)).1 3).trans hm
    rw [em]
    intro _
    refine ⟨fun h => ?_, fun h => ?_⟩
    · rw [if_neg h, List.append_nil] at hB
      exact attrs T B fT oT hB
    · rw [if_pos (Classical.not_not.mp h)] at hB
      refine t_spell oT str7 (fun U1 g1 p1 => ?_)
      have ed : U1.2 211 o = d := ((congrFun ((fT.tr g1) 211 (by decide)).2 o)).trans hd
      rw [ed]
      refine ⟨by omega, by omega, fun q => ?_⟩
      refine o_number ⟨by omega, by omega⟩ p1 (fun U2 g2 p2 => ?_)
      refine t_put p2 ⟨by decide, by decide⟩ (fun r U3 g3 p3 => attrs U3 _ (fT.tr ((g1.tr g2).tr g3)) p3 ?_)
      rw [← hB]
      simp only [List.append_assoc]
  by_cases q : 6 ≤ k
  · rw [if_pos q]
    refine ⟨⟨by decide, by decide⟩, fun h => absurd h (by decide), fun _ => ?_⟩
    refine t_spell o2 str6 (fun S3 f3 o3 => ⟨⟨by omega, by omega⟩, ?_⟩)
    refine o_spellTo ((hE.of f12).of f3) o3 (Or.inl hkc) ⟨by omega, by omega⟩ (fun S4 f4 o4 => ?_)
    refine t_put o4 ⟨by decide, by decide⟩ (fun r S5 f5 o5 => ids S5 _ (((f12.tr f3).tr f4).tr f5) o5 ?_)
    unfold sTg
    rw [if_pos q]
    simp only [List.append_assoc]
  · rw [if_neg q]
    refine ⟨⟨by decide, by decide⟩, fun _ => ids S2 _ f12 o2 ?_, fun h => absurd rfl h⟩
    unfold sTg
    rw [if_neg q]
    simp only [List.append_assoc, List.nil_append]
end WP

