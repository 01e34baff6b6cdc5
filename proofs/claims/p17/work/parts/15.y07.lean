/-! THE WRITER: the element of an object, by the depth that is left -/
section WF
variable {e : Env} {m d : Int} {n : Nat} {E : EE}
theorem el_head (hV : EV e) (hmo : iv 0 3 (eO e)) {S : St} {s : Ws} {o w f i : Int} {p : Pth} {K : Int → St → Prop} {X : Ws} (hE : cE S e) (hR : WrR S e s) (ho : okO e o) (hW : Owr e w f i o) (hwb : 0 ≤ w → 0 < s.2.1 w) (hp : ¬ eO e = 3 → p = ppp e s w f ∧ (noc p : Int) = d) (hro : eO e = 3 ∨ s.2.1 o ≤ 0 ∨ 0 ≤ w) (hK : ∀ S', Oe S S' → WrR S' e (if s.2.2.2.2 = 1 ∨ 3000 < s.1.length then s else if ¬ eO e = 3 ∧ 0 < s.2.1 o then pt s (rfT e s o p (nmo e w f o)) else X) → K 0 S') (h54 : ¬ (s.2.2.2.2 = 1 ∨ 3000 < s.1.length) → ¬ (¬ eO e = 3 ∧ 0 < s.2.1 o) → wX8_element_54 E o w f i d S K) : wX8_element E o w f i d S K := by
  have hob := okO_b hV ho
  unfold wX8_element
  intro _ _ _ _ _ hb
  have e12 := hR.2.2.1
  refine ⟨fun h1 => ?_, fun h1 hb2 => ⟨⟨by omega, by omega⟩, fun h2 => ?_, fun h2 => ?_⟩⟩
  · rw [if_pos (Or.inl (by omega))] at hK
    exact hK S Oe.rf hR
  · have hl : 3000 < s.1.length := by
      have q := (oC_len hR.1).1
      by_cases r : s.1.length ≤ 3000
      · exact absurd (q.mpr r) h2
      · omega
    rw [if_pos (Or.inr hl)] at hK
    exact hK S Oe.rf hR
  · have hl : s.1.length ≤ 3000 := (oC_len hR.1).1.mp (Classical.not_not.mp h2)
    have hns : ¬ (s.2.2.2.2 = 1 ∨ 3000 < s.1.length) := by omega
    rw [if_neg hns] at hK
    refine r_has1 hE ho ⟨⟨by decide, by decide⟩, fun _ => ?_, fun h => absurd (show ¬ (1 : Int) = 0 by decide) h⟩
    rw [hR.2.1]
    intro _
    have hid := hR.2.2.2.2.2.1 o ho
    refine ⟨fun h3 => h54 hns (fun q => q.1 h3), fun h3 => ⟨by omega, by omega, fun _ => ?_⟩⟩
    rw [hid.1]
    refine ⟨fun h4 => h54 hns (fun q => absurd q.2 (by omega)), fun h4 => ?_⟩
    rw [if_pos ⟨h3, by omega⟩] at hK
    have hw0 : 0 ≤ w := (hro.resolve_left h3).resolve_left (by omega)
    exact o_ref (i := i) hE hV h3 (by omega) hR ho (by omega) hl hW ⟨hw0, hwb hw0⟩ (hp h3).1 (fun S' g1 g2 => hK S' g1.oe (hR.of g1 g2))
theorem el_0 (hV : EV e) (hmo : iv 0 3 (eO e)) (hm : 0 ≤ m) : RecOk e 0 m m (wX8_element E) := by
  refine ⟨fun S o w f i K h1 h2 => el_neg h1 h2, fun S s o w f i p K hE hR hS ho hW hwb hp hi hro hK => ?_⟩
  unfold El at hK
  refine el_head hV hmo hE hR ho hW hwb hp hro hK (fun q1 q2 => ?_)
  rw [if_neg q1, if_neg q2] at hK
  unfold wX8_element_54
  rw [hS]
  intro g
  refine ⟨⟨by omega, by omega⟩, fun h => absurd h (by omega), fun _ S33 hS33 => ?_⟩
  have f33 : Oe S S33 := by
    rw [hS33]
    exact ⟨fun a _ h2 => pI_ne a (by omega), by show (if 210 = 210 ∧ 4 = 12 then (1 : Int) else S.1 210 4) = _; rw [if_neg (by decide)]⟩
  refine hK S33 f33 ?_
  obtain ⟨r1, r2, r3, r4, r5, r6, r7⟩ := hR
  rw [hS33]
  refine ⟨?_, ?_, ?_, ?_, r5, r6, r7⟩
  · have q := r1
    unfold oC at q ⊢
    rw [(pI_ne 22 (by decide)).1, (pI_ne 22 (by decide)).2]
    exact q
  · show (if 210 = 210 ∧ 3 = 12 then (1 : Int) else S.1 210 3) = _
    rw [if_neg (by decide)]
    exact r2
  · show (if 210 = 210 ∧ 12 = 12 then (1 : Int) else S.1 210 12) = _
    rw [if_pos (by decide)]
    rfl
  · show (if 210 = 210 ∧ 11 = 12 then (1 : Int) else S.1 210 11) = _
    rw [if_neg (by decide)]
    exact r4
theorem el_s (hV : EV e) (hmo : iv 0 3 (eO e)) (hd0 : 0 ≤ d) (hdm : d < m) (hm : m ≤ 20) (hrec : RecOk e n m (d + 1) E) : RecOk e (n + 1) m d (wX8_element E) := by
  refine ⟨fun S o w f i K h1 h2 => el_neg h1 h2, fun S s o w f i p K hE hR hS ho hW hwb hp hi hro hK => ?_⟩
  unfold El at hK
  refine el_head hV hmo hE hR ho hW hwb hp hro hK (fun q1 q2 => ?_)
  rw [if_neg q1, if_neg q2] at hK
  have hob := okO_b hV ho
  have hk5 := hR.2.2.2.2.1
  have hkc := hV.2.2.1 o ho
  have hF := hV.2.2.2.1 _ hkc
  have hn := nmo_ok hV ho hW
  have hnb := okN_b hV hn
  unfold wX8_element_54
  rw [hS]
  intro g
  refine ⟨⟨by omega, by omega⟩, fun _ g11 => ?_, fun h => absurd hdm h⟩
  rw [hR.2.2.2.1]
  refine ⟨⟨by omega, by omega⟩, fun S5 h5 => ?_⟩
  have e11 : S5.1 210 11 = s.2.2.2.1 + 1 := by
    rw [h5]
    show (if 210 = 210 ∧ 11 = 11 then s.2.2.2.1 + 1 else S.1 210 11) = _
    rw [if_pos (by decide)]
  rw [e11]
  refine fun _ => ⟨by omega, by omega, fun S9 h9 => ⟨by omega, by omega, ?_⟩⟩
  have hwi : rng w ∧ rng f := by
    rcases hW with q | q
    · omega
    · have g1 := okO_b hV q.1
      have g2 := okF_b hV q.2.1
      omega
  refine ⟨⟨by omega, by omega⟩, fun S11 h11 => ⟨by omega, by omega, ⟨by omega, by omega⟩, fun S14 h14 => ⟨by omega, by omega, hi, fun S17 h17 => ⟨⟨by omega, by omega⟩, ?_⟩⟩⟩⟩
  have f17 : Oe S S17 := by
    rw [h17, h14, h11, h9, h5]
    refine ⟨fun a _ h2 => ?_, ?_⟩
    · have a1 : a ≠ 210 := by omega
      have a2 : a ≠ 211 := by omega
      have a3 : a ≠ 212 := by omega
      have a4 : a ≠ 213 := by omega
      have a5 : a ≠ 214 := by omega
      exact ⟨((((pA_ne a a5).1.trans (pA_ne a a4).1).trans (pA_ne a a3).1).trans (pA_ne a a2).1).trans (pI_ne a a1).1, ((((pA_ne a a5).2.trans (pA_ne a a4).2).trans (pA_ne a a3).2).trans (pA_ne a a2).2).trans (pI_ne a a1).2⟩
    · show (if 210 = 210 ∧ 4 = 11 then s.2.2.2.1 + 1 else S.1 210 4) = _
      rw [if_neg (by decide)]
  have hE17 := hE.oe f17
  have o17 : oC S17 22 s.1 := by
    have q := hR.1
    rw [h17, h14, h11, h9, h5]
    exact q
  have m17 : S17.1 210 3 = eO e := by
    rw [h17, h14, h11, h9, h5]
    show (if 210 = 210 ∧ 3 = 11 then s.2.2.2.1 + 1 else S.1 210 3) = _
    rw [if_neg (by decide)]
    exact hR.2.1
  have d17 : S17.2 211 o = s.2.2.2.1 + 1 := by
    rw [h17, h14, h11, h9]
    show (if 211 = 211 ∧ o = o then s.2.2.2.1 + 1 else S5.2 211 o) = _
    rw [if_pos ⟨rfl, rfl⟩]
  refine r_nameOf hE17 hV ho hW ⟨⟨by omega, by omega⟩, o_startTag hE17 hV o17 ho hn m17 d17 (fun S22 f22 o22 => ?_)⟩
  have hE22 := hE17.of f22
  refine r_hasCo hE22 hV ho ?_
  have bgw : ∀ (T : St) (l : List Int), Of S17 T → oC T 22 (s.1 ++ l) → 1 ≤ l.length → WrR T e (pt (bgn s o (p ++ [(o, nmo e w f o, rko e w f i)])) l) := fun T l fT oT hl => WrR_bgn hV hR ho hW hwb hp (by omega) (fun q3 q4 => q2 ⟨q3, q4⟩) h5 h9 h11 h14 h17 fT oT hl
  cases hc : hCo e o (eF e (eK e o)).toNat 0 with
  | false =>
    rw [hc, if_neg (by decide)] at hK
    refine ⟨⟨by decide, by decide⟩, fun h => absurd rfl h, fun _ => t_spell o22 str13 (fun S31 f31 o31 => hK S31 (f17.tr (f22.tr f31).ow.oe) (bgw S31 _ (f22.tr f31) (by rw [← List.append_assoc]; exact o31) ?_))⟩
    rw [List.length_append]
    have := sTg_pos (e := e) (o := o) (k := nmo e w f o) (x := s.2.2.2.1 + 1)
    omega
  | true =>
    rw [hc, if_pos rfl] at hK
    refine ⟨⟨by decide, by decide⟩, fun _ => t_put o22 ⟨by decide, by decide⟩ (fun r S29 f29 o29 => ?_), fun h => absurd (show ¬ (1 : Int) = 0 by decide) h⟩
    have hR29 := bgw S29 _ (f22.tr f29) (by rw [← List.append_assoc]; exact o29) (by rw [List.length_append]; have := sTg_pos (e := e) (o := o) (k := nmo e w f o) (x := s.2.2.2.1 + 1); omega)
    have f29' : Oe S S29 := f17.tr (f22.tr f29).ow.oe
    obtain ⟨s0, hs0⟩ : ∃ s0, s0 = pt (bgn s o (p ++ [(o, nmo e w f o, rko e w f i)])) (sTg e o (nmo e w f o) (s.2.2.2.1 + 1) ++ [62]) := ⟨_, rfl⟩
    have hI0 : Inn e s0 o d (p ++ [(o, nmo e w f o, rko e w f i)]) := by
      rw [hs0]
      refine ⟨?_, fun q3 => ⟨?_, ?_⟩⟩
      · show 0 < (if o = o then s.2.2.2.1 + 1 else s.2.1 o)
        rw [if_pos rfl]
        omega
      · show (if o = o then p ++ [(o, nmo e w f o, rko e w f i)] else s.2.2.1 o) = _
        rw [if_pos rfl]
      · rw [noc_app, if_pos (show o < 30 by omega)]
        have := (hp q3).2
        omega
    rw [← hs0] at hR29 hK
    have hk0 : 0 ≤ s0.2.2.2.1 := hR29.2.2.2.2.1.1
    unfold wX8_element_158
    refine ⟨fun l1 l5 l6 l7 T => l1 = o ∧ l5 = d ∧ l6 = nmo e w f o ∧ 0 ≤ l7 ∧ l7 ≤ 4 ∧ Oe S T ∧ ∃ s1, Mo e s0 s1 ∧ WrR T e s1 ∧ cns e (El e n) o (p ++ [(o, nmo e w f o, rko e w f i)]) (eF e (eK e o) - l7).toNat l7 s1 = cns e (El e n) o (p ++ [(o, nmo e w f o, rko e w f i)]) (eF e (eK e o)).toNat 0 s0, fun l1 l5 l6 l7 T => (5 - l7).toNat, ⟨rfl, rfl, rfl, by decide, by decide, f29', s0, Mo.rf, hR29, by simp⟩, fun l1 l5 l6 l7 T hJ => ?_⟩
    obtain ⟨rfl, rfl, rfl, i1, i2, fT, s1, mo, hR1, hcc⟩ := hJ
    unfold wX8_element_158'
    refine ⟨?_, fun h => ⟨⟨by omega, by omega⟩, ?_⟩, fun h => ⟨⟨by omega, by omega⟩, ⟨by omega, by omega⟩, ?_⟩⟩
    · exact ⟨by omega, by omega⟩
    · rw [cns_end (by omega)] at hcc
      rw [← hcc] at hK
      exact o_endTag (hE.oe fT) hR1.1 hn hnb (fun S' g1 g2 => hK S' (fT.tr g1.ow.oe) (hR1.of g1.ow g2))
    · refine o_content hV hrec ⟨hd0, by omega⟩ (hE.oe fT) hR1 (fT.2.trans hS) ho ⟨i1, by omega⟩ (hI0.mo hk0 mo) (fun S' g1 g2 => ⟨⟨rfl, rfl, rfl, by omega, by omega, fT.tr g1, _, ?_, g2, ?_⟩, by dsimp only; omega⟩)
      · split
        · exact mo.tr (con_mo (El_mo n))
        · exact mo
      · rw [← hcc]
        by_cases q3 : l7 < eF e (eK e l1)
        · rw [if_pos q3, cns_succ q3]
        · rw [if_neg q3, cns_end (by omega), cns_end (by omega)]
end WF

