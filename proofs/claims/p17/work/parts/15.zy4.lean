/-! WHETHER TWO GRAPHS ARE THE SAME: the class, all of it -/
section YE
variable {S S' : St} {K : Int → St → Prop} {e : Env} {h : Hs} {Q Q' : Pq} {a b f i o : Int}
/-- the same class, and what belongs to it -/
theorem k_lists (hE : cE S e) (hV : EV e) (g : cH6 S e h) (hH : EH e h) (hW : VLq e h) (hL : LQ S Q) (hQ : QI e h Q) (ha : okO e a) (hb : 0 ≤ b ∧ b < h.1) (hk : eK e a = h.2.1 b) (hf : okF e (eK e a) f) (hd : eD e (eK e a) f = 3) (hv : eV e a f = h.2.2.1 b f) (hK : ∀ r S', LO S (ceX true e h a b f (eV e a f).toNat 0 Q) r S' → K r S') : wX2_areListsAlike a b f S K := by
  have n30 := hV.1
  have h30 := hH.1
  have f4 := okF4 hV hf
  have v8 := ((hV.2.2.2.2.2 a f ha hf).2.2.2 hd).1
  have hf' : okF e (h.2.1 b) f := by rw [← hk]; exact hf
  have hd' : eD e (h.2.1 b) f = 3 := by rw [← hk]; exact hd
  have tv := (hW a b f ha.1 ha.2 hb.1 hb.2 hf hk).2 hd hv
  have a0 := ha.1
  have a1 := ha.2
  unfold wX2_areListsAlike
  refine fun _ _ _ => ⟨fun l1 l2 l3 l4 S' => l1 = a ∧ l2 = b ∧ l3 = f ∧ LF S S' ∧ 0 ≤ l4 ∧ l4 ≤ eV e a f ∧ ∃ Q', LQ S' Q' ∧ QI e h Q' ∧ ceX true e h a b f (eV e a f - l4).toNat l4 Q' = ceX true e h a b f (eV e a f).toNat 0 Q, fun l1 l2 l3 l4 S' => (eV e a f - l4).toNat, ⟨rfl, rfl, rfl, LF.rf, by decide, v8.1, Q, hL, hQ, by rw [show eV e a f - 0 = eV e a f by omega]⟩, ?_⟩
  rintro l1 l2 l3 l4 S' ⟨rfl, rfl, rfl, hF, h0, h1, Q1, q1, q2, q3⟩
  have hE' := hE.lf hF
  have g' := g.lf hF
  have fin : l4 = eV e l1 l3 → K 1 S' := fun w => by
    rw [show (eV e l1 l3 - l4).toNat = 0 by omega] at q3
    exact hK 1 S' ⟨hF, Or.inr ⟨rfl, Q1, q3.symm, q1⟩⟩
  refine ⟨⟨by omega, by omega⟩, fun w => fin (by omega), fun w => ⟨⟨by omega, by omega⟩, ⟨by omega, by omega⟩, r_head hE' hV ha hf ⟨⟨by omega, by omega⟩, fun w2 => fin (by omega), fun w2 => ?_⟩⟩⟩
  rw [show (eV e l1 l3 - l4).toNat = (eV e l1 l3 - (l4 + 1)).toNat + 1 by omega] at q3
  have q3 : (match prX true e h Q1 (eP e l1 l3 l4) (h.2.2.2 l2 l3 l4) with | none => none | some Q' => ceX true e h l1 l2 l3 (eV e l1 l3 - (l4 + 1)).toNat (l4 + 1) Q') = ceX true e h l1 l2 l3 (eV e l1 l3).toNat 0 Q := q3
  obtain ⟨t1, t2⟩ := tv l4 h0 (by omega)
  have rt : ∀ N v, iv 0 30 N → tgV N v → rng v := fun N v hN hv => by
    rcases hv with y | y
    · rw [y]
      exact ⟨by decide, by decide⟩
    · exact ⟨by omega, by omega⟩
  refine r_cell hE' hV ha hf (Or.inr hd) h0 (by omega) ⟨⟨by omega, by omega⟩, d_cell g' hV hH hb hf' (Or.inr hd') h0 (by rw [← hv]; omega) ⟨rt _ _ n30 t1, rt _ _ h30 t2, k_pairs hE' hV g' hH q1 q2 t1 t2 (fun r S2 hO => ?_)⟩⟩
  obtain ⟨m2, ⟨rfl, hn⟩ | ⟨rfl, Q2, hs, hL2⟩⟩ := hO
  · rw [hn] at q3
    exact ⟨⟨by decide, by decide⟩, fun y => absurd rfl y, fun _ => hK 0 S2 ⟨hF.tr m2, Or.inl ⟨rfl, q3.symm⟩⟩⟩
  · rw [hs] at q3
    refine ⟨⟨by decide, by decide⟩, fun _ => ⟨⟨rfl, rfl, rfl, hF.tr m2, by omega, by omega, Q2, hL2, (prX_ok q2 t1 t2 hs).1, q3⟩, ?_⟩, fun y => absurd (by decide) y⟩
    show (eV e l1 l3 - (l4 + 1)).toNat < (eV e l1 l3 - l4).toNat
    omega
theorem k_texts (hE : cE S e) (hV : EV e) (g : cH6 S e h) (hH : EH e h) (ha : okO e a) (hb : 0 ≤ b ∧ b < h.1) (hk : eK e a = h.2.1 b) (hf : okF e (eK e a) f) (hd : eD e (eK e a) f = 1) (hv : eV e a f = h.2.2.1 b f) (hK : ∀ r, (r = 1 ∧ txX e h a b f (eV e a f).toNat 0 = true) ∨ (r = 0 ∧ txX e h a b f (eV e a f).toNat 0 = false) → K r S) : wX2_areTextsAlike a b f S K := by
  have n30 := hV.1
  have h30 := hH.1
  have f4 := okF4 hV hf
  have v2 := (hV.2.2.2.2.2 a f ha hf).2.1 hd
  have hf' : okF e (h.2.1 b) f := by rw [← hk]; exact hf
  have hd' : eD e (h.2.1 b) f = 1 := by rw [← hk]; exact hd
  have v3 := (hH.2.2 b f hb.1 hb.2 hf').2.1 hd'
  have a0 := ha.1
  have a1 := ha.2
  unfold wX2_areTextsAlike
  refine fun _ _ _ => ⟨fun l1 l2 l3 l4 S' => l1 = a ∧ l2 = b ∧ l3 = f ∧ S' = S ∧ 0 ≤ l4 ∧ l4 ≤ eV e a f ∧ txX e h a b f (eV e a f - l4).toNat l4 = txX e h a b f (eV e a f).toNat 0, fun l1 l2 l3 l4 S' => (eV e a f - l4).toNat, ⟨rfl, rfl, rfl, rfl, by decide, v2.1.1, by rw [show eV e a f - 0 = eV e a f by omega]⟩, ?_⟩
  rintro l1 l2 l3 l4 S' ⟨rfl, rfl, rfl, rfl, h0, h1, q3⟩
  have fin : l4 = eV e l1 l3 → K 1 S' := fun w => by
    rw [show (eV e l1 l3 - l4).toNat = 0 by omega] at q3
    exact hK 1 (Or.inl ⟨rfl, q3.symm⟩)
  have v21 := v2.1
  refine ⟨⟨by omega, by omega⟩, fun w => fin (by omega), fun w => ⟨⟨by omega, by omega⟩, ⟨by omega, by omega⟩, r_head hE hV ha hf ⟨⟨by omega, by omega⟩, fun w2 => fin (by omega), fun w2 => ?_⟩⟩⟩
  rw [show (eV e l1 l3 - l4).toNat = (eV e l1 l3 - (l4 + 1)).toNat + 1 by omega] at q3
  have q3 : (decide (eP e l1 l3 l4 = h.2.2.2 l2 l3 l4) && txX e h l1 l2 l3 (eV e l1 l3 - (l4 + 1)).toNat (l4 + 1)) = txX e h l1 l2 l3 (eV e l1 l3).toNat 0 := q3
  have p1 := v2.2 l4 h0 (by omega)
  have p2 := v3.2 l4 h0 (by rw [← hv]; omega)
  refine r_cell hE hV ha hf (Or.inl hd) h0 (by omega) ⟨⟨by omega, by omega⟩, d_cell g hV hH hb hf' (Or.inl hd') h0 (by rw [← hv]; omega) ⟨⟨by omega, by omega⟩, ⟨by omega, by omega⟩, fun y => ?_, fun y => ?_⟩⟩
  · rw [decide_eq_true y, Bool.true_and] at q3
    refine ⟨⟨rfl, rfl, rfl, rfl, by omega, by omega, q3⟩, ?_⟩
    show (eV e l1 l3 - (l4 + 1)).toNat < (eV e l1 l3 - l4).toNat
    omega
  · rw [decide_eq_false y, Bool.false_and] at q3
    exact hK 0 (Or.inr ⟨rfl, q3.symm⟩)
theorem k_fields (hE : cE S e) (hV : EV e) (g : cH6 S e h) (hH : EH e h) (hW : VLq e h) (hL : LQ S Q) (hQ : QI e h Q) (ha : okO e a) (hb : 0 ≤ b ∧ b < h.1) (hk : eK e a = h.2.1 b) (hK : ∀ r S', LO S (fsX true e h a b (eF e (eK e a)).toNat 0 Q) r S' → K r S') : wX2_areFieldsAlike a b S K := by
  have n30 := hV.1
  have h30 := hH.1
  have h6 := hV.2.1
  have hc := hV.2.2.1 a ha
  have h4 := hV.2.2.2.1 _ hc
  have c0 := hc.1
  have c1 := hc.2
  have a0 := ha.1
  have a1 := ha.2
  unfold wX2_areFieldsAlike
  refine fun _ _ => r_cls hE hV ha ⟨fun l1 l2 l3 l4 S' => l1 = a ∧ l2 = b ∧ l3 = eK e a ∧ LF S S' ∧ 0 ≤ l4 ∧ l4 ≤ eF e (eK e a) ∧ ∃ Q', LQ S' Q' ∧ QI e h Q' ∧ fsX true e h a b (eF e (eK e a) - l4).toNat l4 Q' = fsX true e h a b (eF e (eK e a)).toNat 0 Q, fun l1 l2 l3 l4 S' => (eF e (eK e a) - l4).toNat, ⟨rfl, rfl, rfl, LF.rf, by decide, h4.1, Q, hL, hQ, by rw [show eF e (eK e a) - 0 = eF e (eK e a) by omega]⟩, ?_⟩
  rintro l1 l2 l3 l4 S' ⟨rfl, rfl, rfl, hF, i0, i1, Q1, q1, q2, q3⟩
  have hE' := hE.lf hF
  have g' := g.lf hF
  refine ⟨⟨by omega, by omega⟩, r_fc hE' hV hc ⟨⟨by omega, by omega⟩, ⟨by omega, by omega⟩, fun w => ?_, fun w => ?_⟩⟩
  · rw [show (eF e (eK e l1) - l4).toNat = 0 by omega] at q3
    exact hK 1 S' ⟨hF, Or.inr ⟨rfl, Q1, q3.symm, q1⟩⟩
  · have hf : okF e (eK e l1) l4 := ⟨hc, i0, by omega⟩
    have hf' : okF e (h.2.1 l2) l4 := by rw [← hk]; exact hf
    have hD := (hV.2.2.2.2.1 _ _ hf).1
    have rv1 := (hV.2.2.2.2.2 l1 l4 ha hf).1
    have rv2 := (hH.2.2 l2 l4 hb.1 hb.2 hf').1
    obtain ⟨v2, v3⟩ := hW l1 l2 l4 ha.1 ha.2 hb.1 hb.2 hf hk
    rw [show (eF e (eK e l1) - l4).toNat = (eF e (eK e l1) - (l4 + 1)).toNat + 1 by omega] at q3
    have q3 : (match flX true e h l1 l2 l4 Q1 with | none => none | some Q' => fsX true e h l1 l2 (eF e (eK e l1) - (l4 + 1)).toNat (l4 + 1) Q') = fsX true e h l1 l2 (eF e (eK e l1)).toNat 0 Q := q3
    have h0 := fun w => ((hV.2.2.2.2.2 l1 l4 ha hf).2.2.2 w).1.1
    have bad : ∀ S2, LF S' S2 → flX true e h l1 l2 l4 Q1 = none → K 0 S2 := fun S2 m2 hn => by
      rw [hn] at q3
      exact hK 0 S2 ⟨hF.tr m2, Or.inl ⟨rfl, q3.symm⟩⟩
    have next : ∀ S2 Q2, LF S' S2 → flX true e h l1 l2 l4 Q1 = some Q2 → LQ S2 Q2 → wX2_areFieldsAlike_141 l1 l2 (eK e l1) l4 S2 K (fun ml1 ml2 ml3 ml4 T' => (ml1 = l1 ∧ ml2 = l2 ∧ ml3 = eK e l1 ∧ LF S T' ∧ 0 ≤ ml4 ∧ ml4 ≤ eF e (eK e l1) ∧ ∃ Q', LQ T' Q' ∧ QI e h Q' ∧ fsX true e h l1 l2 (eF e (eK e l1) - ml4).toNat ml4 Q' = fsX true e h l1 l2 (eF e (eK e l1)).toNat 0 Q) ∧ (eF e (eK e l1) - ml4).toNat < (eF e (eK e l1) - l4).toNat) := fun S2 Q2 m2 hs hL2 => by
      rw [hs] at q3
      unfold wX2_areFieldsAlike_141
      exact ⟨⟨rfl, rfl, rfl, hF.tr m2, by omega, by omega, Q2, hL2, (flX_ok v2 v3 h0 q2 hs).1, q3⟩, by omega⟩
    refine r_shape hE' hV hf ⟨⟨by omega, by omega⟩, fun w2 => ?_, fun w2 => ?_⟩
    · refine ⟨⟨by omega, by omega⟩, r_head hE' hV ha hf ⟨⟨by omega, by omega⟩, d_head g' hV hH hb hf' ⟨rv1, rv2, fun w3 => ?_, fun w3 => ?_⟩⟩⟩
      · unfold wX2_areFieldsAlike_98
        refine ⟨⟨by decide, by decide⟩, fun _ => bad S' LF.rf ?_, fun y => absurd rfl y⟩
        unfold flX
        rw [if_neg (by omega), if_pos w3]
      · have w3 := Classical.not_not.mp w3
        unfold wX2_areFieldsAlike_98 wX2_areFieldsAlike_122
        refine ⟨⟨by decide, by decide⟩, fun y => absurd y (by decide), fun _ => ⟨⟨by omega, by omega⟩, fun w4 => ⟨⟨by omega, by omega⟩, fun w5 => next S' Q1 LF.rf ?_ q1, fun w5 => ?_⟩, fun w4 => ?_⟩⟩
        · unfold flX
          rw [if_neg (by omega), if_neg (fun y => y w3), if_neg (by omega), if_neg (by omega)]
        · have d3 : eD e (eK e l1) l4 = 3 := by omega
          refine ⟨⟨by omega, by omega⟩, ⟨by omega, by omega⟩, ⟨by omega, by omega⟩, k_lists hE' hV g' hH hW q1 q2 ha hb hk hf d3 w3 (fun r S2 hO => ?_)⟩
          have ef : flX true e h l1 l2 l4 Q1 = ceX true e h l1 l2 l4 (eV e l1 l4).toNat 0 Q1 := by
            unfold flX
            rw [if_neg (by omega), if_neg (fun y => y w3), if_neg (by omega), if_pos d3]
          obtain ⟨m2, ⟨rfl, hn⟩ | ⟨rfl, Q2, hs, hL2⟩⟩ := hO
          · exact ⟨⟨by decide, by decide⟩, fun y => absurd rfl y, fun _ => bad S2 m2 (ef.trans hn)⟩
          · exact ⟨⟨by decide, by decide⟩, fun _ => next S2 Q2 m2 (ef.trans hs) hL2, fun y => absurd (by decide) y⟩
        · have d1 : eD e (eK e l1) l4 = 1 := by omega
          refine ⟨⟨by omega, by omega⟩, ⟨by omega, by omega⟩, ⟨by omega, by omega⟩, k_texts hE' hV g' hH ha hb hk hf d1 w3 (fun r hr => ?_)⟩
          have ef : flX true e h l1 l2 l4 Q1 = if txX e h l1 l2 l4 (eV e l1 l4).toNat 0 = true then some Q1 else none := by
            unfold flX
            rw [if_neg (by omega), if_neg (fun y => y w3), if_pos d1]
          rcases hr with ⟨rfl, hr⟩ | ⟨rfl, hr⟩
          · rw [if_pos hr] at ef
            exact ⟨⟨by decide, by decide⟩, fun y => absurd y (by decide), fun _ => ⟨⟨by omega, by omega⟩, fun _ => next S' Q1 LF.rf ef q1, fun y => absurd (by omega) y⟩⟩
          · rw [if_neg (by rw [hr]; decide)] at ef
            exact ⟨⟨by decide, by decide⟩, fun _ => bad S' LF.rf ef, fun y => absurd rfl y⟩
    · have d2 : eD e (eK e l1) l4 = 2 := by omega
      have ef : flX true e h l1 l2 l4 Q1 = prX true e h Q1 (eV e l1 l4) (h.2.2.1 l2 l4) := by
        unfold flX
        rw [if_pos d2]
      refine ⟨⟨by omega, by omega⟩, r_head hE' hV ha hf ⟨⟨by omega, by omega⟩, d_head g' hV hH hb hf' ⟨rv1, rv2, k_pairs hE' hV g' hH q1 q2 (v2 d2).1 (v2 d2).2 (fun r S2 hO => ?_)⟩⟩⟩
      unfold wX2_areFieldsAlike_98 wX2_areFieldsAlike_122
      obtain ⟨m2, ⟨rfl, hn⟩ | ⟨rfl, Q2, hs, hL2⟩⟩ := hO
      · exact ⟨⟨by decide, by decide⟩, fun _ => bad S2 m2 (ef.trans hn), fun y => absurd rfl y⟩
      · exact ⟨⟨by decide, by decide⟩, fun y => absurd y (by decide), fun _ => ⟨⟨by omega, by omega⟩, fun _ => ⟨⟨by omega, by omega⟩, fun _ => next S2 Q2 m2 (ef.trans hs) hL2, fun y => absurd (by omega) y⟩, fun y => absurd (by omega) y⟩⟩
end YE

