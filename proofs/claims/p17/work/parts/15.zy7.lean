/-! WHETHER TWO GRAPHS ARE THE SAME: the model's objects -/
section YH
variable {S S' : St} {K : Int → St → Prop} {B : Int → Int → Int → Int → Int → St → Prop} {e : Env} {h : Hs} {Q Q' : Pq} {a b f i o c k x9 x10 : Int}
theorem n_s130z (hk : iv 0 3 k) (x0 : 0 ≤ x9) (x1 : x9 < 360) (hB : B a b c 0 (f + 1) S) : wX11_areSame_125 a b c f x9 x10 k 0 S K B := by
  have k0 := hk.1
  have k3 := hk.2
  unfold wX11_areSame_125
  refine ⟨fun l1 l2 l3 l4 l5 l6 l7 l8 l9 S' => l1 = a ∧ l2 = b ∧ l3 = c ∧ l4 = 0 ∧ l5 = f ∧ l6 = x9 ∧ l8 = k ∧ l9 = 0 ∧ S' = S, fun _ _ _ _ _ _ _ _ _ _ => 0, ⟨rfl, rfl, rfl, rfl, rfl, rfl, rfl, rfl, rfl⟩, ?_⟩
  rintro l1 l2 l3 l4 l5 l6 l7 l8 l9 S' ⟨rfl, rfl, rfl, rfl, rfl, rfl, rfl, rfl, rfl⟩
  exact ⟨⟨by omega, by omega⟩, fun _ => hB, fun _ => ⟨fun _ => hB, fun _ => ⟨x0, x1, fun _ => ⟨⟨by decide, by decide⟩, fun _ => hB, fun _ => ⟨⟨by decide, by decide⟩, fun _ => hB, fun w => absurd rfl w⟩⟩⟩⟩⟩
theorem n_s130o (hk : k = 0 ∨ k = 2) (hB : B a b c 1 (f + 1) S) : wX11_areSame_125 a b c f x9 x10 k 1 S K B := by
  unfold wX11_areSame_125
  refine ⟨fun l1 l2 l3 l4 l5 l6 l7 l8 l9 S' => l1 = a ∧ l2 = b ∧ l3 = c ∧ l4 = 1 ∧ l5 = f ∧ l8 = k ∧ S' = S, fun _ _ _ _ _ _ _ _ _ _ => 0, ⟨rfl, rfl, rfl, rfl, rfl, rfl, rfl⟩, ?_⟩
  rintro l1 l2 l3 l4 l5 l6 l7 l8 l9 S' ⟨rfl, rfl, rfl, rfl, rfl, rfl, rfl⟩
  exact ⟨⟨by omega, by omega⟩, fun _ => hB, fun w => ⟨fun _ => hB, fun w2 => absurd (hk.resolve_left w) w2⟩⟩
/-- two texts -/
theorem n_s130t (hE : mE S e) (hV : EV e) (g : mH1 S e h) (hH : iv 0 30 h.1) (ha : okO e a) (hb : 0 ≤ b ∧ b < h.1) (hk : eK e a = h.2.1 b) (hf : okF e (eK e a) f) (hd : eD e (eK e a) f = 1) (hv : eV e a f = h.2.2.1 b f) (hB : ∀ r, (r = 1 ∧ txX e h a b f (eV e a f).toNat 0 = true) ∨ (r = 0 ∧ txX e h a b f (eV e a f).toNat 0 = false) → B a b c r (f + 1) S) : wX11_areSame_125 a b c f (4 * a + f) (4 * (30 + b) + f) 1 1 S K B := by
  have n30 := hV.1
  have n1 := n30.2
  have h1 := hH.2
  have f4 := okF4 hV hf
  have v2 := ((hV.2.2.2.2.2 a f ha hf).2.1 hd).1
  have v20 := v2.2
  have hf' : okF e (h.2.1 b) f := by rw [← hk]; exact hf
  have hd' : eD e (h.2.1 b) f = 1 := by rw [← hk]; exact hd
  have a0 := ha.1
  have a1 := ha.2
  unfold wX11_areSame_125
  refine ⟨fun l1 l2 l3 l4 l5 l6 l7 l8 l9 S' => l1 = a ∧ l2 = b ∧ l3 = c ∧ l5 = f ∧ l6 = 4 * a + f ∧ l7 = 4 * (30 + b) + f ∧ l8 = 1 ∧ S' = S ∧ 0 ≤ l9 ∧ l9 ≤ eV e a f ∧ ((l4 = 1 ∧ txX e h a b f (eV e a f - l9).toNat l9 = txX e h a b f (eV e a f).toNat 0) ∨ (l4 = 0 ∧ txX e h a b f (eV e a f).toNat 0 = false)), fun _ _ _ _ _ _ _ _ l9 _ => (eV e a f - l9).toNat, ⟨rfl, rfl, rfl, rfl, rfl, rfl, rfl, rfl, by decide, v2.1, Or.inl ⟨rfl, by rw [show eV e a f - 0 = eV e a f by omega]⟩⟩, ?_⟩
  rintro l1 l2 l3 l4 l5 l6 l7 l8 l9 S' ⟨rfl, rfl, rfl, rfl, rfl, rfl, rfl, rfl, i0, i1, hd4⟩
  have e69 := hE.2.2.1 l1 l5 ha hf
  have bad : txX e h l1 l2 l5 (eV e l1 l5).toNat 0 = false → B l1 l2 l3 0 (l5 + 1) S' := fun w => hB 0 (Or.inr ⟨rfl, w⟩)
  unfold wX11_areSame_130'
  rw [e69]
  rcases hd4 with ⟨rfl, q3⟩ | ⟨rfl, q3⟩
  rotate_left
  · exact ⟨⟨by decide, by decide⟩, fun w => absurd w (by decide), fun _ => ⟨fun w => absurd w (by decide), fun _ => ⟨by omega, by omega, fun _ => ⟨⟨by omega, by omega⟩, fun _ => bad q3, fun _ => ⟨⟨by decide, by decide⟩, fun _ => bad q3, fun w => absurd rfl w⟩⟩⟩⟩⟩
  refine ⟨⟨by decide, by decide⟩, fun w => absurd w (by decide), fun _ => ⟨fun w => absurd w (by decide), fun _ => ⟨by omega, by omega, fun _ => ⟨⟨by omega, by omega⟩, fun w => ?_, fun w => ⟨⟨by decide, by decide⟩, fun w => absurd w (by decide), fun _ => ⟨by omega, by omega, fun _ x12 e12 => ⟨by omega, by omega, fun _ x17 e17 => ⟨fun w3 => absurd rfl w3, fun _ => ?_⟩⟩⟩⟩⟩⟩⟩⟩
  · rw [show (eV e l1 l5 - l9).toNat = 0 by omega] at q3
    exact hB 1 (Or.inl ⟨rfl, q3.symm⟩)
  have p1 := hE.2.2.2.1 l1 l5 l9 ha hf (Or.inl hd) i0 (by omega)
  have p2 := g.2.2.2 l2 l5 l9 hb.1 hb.2 hf' (Or.inl hd') i0 (by rw [← hv]; omega)
  rw [p1] at e12
  rw [p2] at e17
  rw [show (eV e l1 l5 - l9).toNat = (eV e l1 l5 - (l9 + 1)).toNat + 1 by omega] at q3
  have q3 : (decide (eP e l1 l5 l9 = h.2.2.2 l2 l5 l9) && txX e h l1 l2 l5 (eV e l1 l5 - (l9 + 1)).toNat (l9 + 1)) = txX e h l1 l2 l5 (eV e l1 l5).toNat 0 := q3
  have mes : (eV e l1 l5 - (l9 + 1)).toNat < (eV e l1 l5 - l9).toNat := by omega
  refine ⟨fun w4 => ⟨⟨rfl, rfl, rfl, rfl, rfl, rfl, rfl, rfl, by omega, by omega, Or.inr ⟨rfl, ?_⟩⟩, mes⟩, fun w4 => ⟨⟨rfl, rfl, rfl, rfl, rfl, rfl, rfl, rfl, by omega, by omega, Or.inl ⟨rfl, ?_⟩⟩, mes⟩⟩
  · rw [e12, e17] at w4
    rw [decide_eq_false w4, Bool.false_and] at q3
    exact q3.symm
  · have w4 := Classical.not_not.mp w4
    rw [e12, e17] at w4
    rw [decide_eq_true w4, Bool.true_and] at q3
    exact q3
/-- two lists -/
theorem n_s130c (hE : mE S e) (hV : EV e) (g : mH1 S e h) (hH : iv 0 30 h.1) (hW : VLq e h) (hL : LQm S Q) (hQ : QI e h Q) (ha : okO e a) (hb : 0 ≤ b ∧ b < h.1) (hk : eK e a = h.2.1 b) (hf : okF e (eK e a) f) (hd : eD e (eK e a) f = 3) (hv : eV e a f = h.2.2.1 b f) (hB : ∀ r S', LOm S (ceX false e h a b f (eV e a f).toNat 0 Q) r S' → B a b c r (f + 1) S') : wX11_areSame_125 a b c f (4 * a + f) (4 * (30 + b) + f) 3 1 S K B := by
  have n30 := hV.1
  have n1 := n30.2
  have h1 := hH.2
  have f4 := okF4 hV hf
  have v2 := ((hV.2.2.2.2.2 a f ha hf).2.2.2 hd).1
  have v20 := v2.2
  have hf' : okF e (h.2.1 b) f := by rw [← hk]; exact hf
  have hd' : eD e (h.2.1 b) f = 3 := by rw [← hk]; exact hd
  have tv := (hW a b f ha.1 ha.2 hb.1 hb.2 hf hk).2 hd hv
  have a0 := ha.1
  have a1 := ha.2
  unfold wX11_areSame_125
  refine ⟨fun l1 l2 l3 l4 l5 l6 l7 l8 l9 S' => l1 = a ∧ l2 = b ∧ l3 = c ∧ l5 = f ∧ l6 = 4 * a + f ∧ l7 = 4 * (30 + b) + f ∧ l8 = 3 ∧ LFm S S' ∧ 0 ≤ l9 ∧ l9 ≤ eV e a f ∧ ((l4 = 1 ∧ ∃ Q', LQm S' Q' ∧ QI e h Q' ∧ ceX false e h a b f (eV e a f - l9).toNat l9 Q' = ceX false e h a b f (eV e a f).toNat 0 Q) ∨ (l4 = 0 ∧ ceX false e h a b f (eV e a f).toNat 0 Q = none)), fun _ _ _ _ _ _ _ _ l9 _ => (eV e a f - l9).toNat, ⟨rfl, rfl, rfl, rfl, rfl, rfl, rfl, LFm.rf, by decide, v2.1, Or.inl ⟨rfl, Q, hL, hQ, by rw [show eV e a f - 0 = eV e a f by omega]⟩⟩, ?_⟩
  rintro l1 l2 l3 l4 l5 l6 l7 l8 l9 S' ⟨rfl, rfl, rfl, rfl, rfl, rfl, rfl, hF, i0, i1, hd4⟩
  have hE' := hE.lm hF
  have g' := g.lm hF
  have e69 := hE'.2.2.1 l1 l5 ha hf
  have bad : ceX false e h l1 l2 l5 (eV e l1 l5).toNat 0 Q = none → B l1 l2 l3 0 (l5 + 1) S' := fun w => hB 0 S' ⟨hF, Or.inl ⟨rfl, w⟩⟩
  unfold wX11_areSame_130'
  rw [e69]
  rcases hd4 with ⟨rfl, Q1, q1, q2, q3⟩ | ⟨rfl, q3⟩
  rotate_left
  · exact ⟨⟨by decide, by decide⟩, fun w => absurd w (by decide), fun _ => ⟨fun w => absurd w (by decide), fun _ => ⟨by omega, by omega, fun _ => ⟨⟨by omega, by omega⟩, fun _ => bad q3, fun _ => ⟨⟨by decide, by decide⟩, fun _ => bad q3, fun w => absurd rfl w⟩⟩⟩⟩⟩
  refine ⟨⟨by decide, by decide⟩, fun w => absurd w (by decide), fun _ => ⟨fun w => absurd w (by decide), fun _ => ⟨by omega, by omega, fun _ => ⟨⟨by omega, by omega⟩, fun w => ?_, fun w => ⟨⟨by decide, by decide⟩, fun w => absurd w (by decide), fun _ => ⟨by omega, by omega, fun _ x12 e12 => ⟨by omega, by omega, fun _ x17 e17 => ⟨fun _ => ?_, fun w3 => absurd (by decide) w3⟩⟩⟩⟩⟩⟩⟩⟩
  · rw [show (eV e l1 l5 - l9).toNat = 0 by omega] at q3
    exact hB 1 S' ⟨hF, Or.inr ⟨rfl, Q1, q3.symm, q1⟩⟩
  have p1 := hE'.2.2.2.1 l1 l5 l9 ha hf (Or.inr hd) i0 (by omega)
  have p2 := g'.2.2.2 l2 l5 l9 hb.1 hb.2 hf' (Or.inr hd') i0 (by rw [← hv]; omega)
  obtain ⟨t1, t2⟩ := tv l9 i0 (by omega)
  rw [e12, e17, p1, p2]
  rw [show (eV e l1 l5 - l9).toNat = (eV e l1 l5 - (l9 + 1)).toNat + 1 by omega] at q3
  have q3 : (match prX false e h Q1 (eP e l1 l5 l9) (h.2.2.2 l2 l5 l9) with | none => none | some Q' => ceX false e h l1 l2 l5 (eV e l1 l5 - (l9 + 1)).toNat (l9 + 1) Q') = ceX false e h l1 l2 l5 (eV e l1 l5).toNat 0 Q := q3
  have mes : (eV e l1 l5 - (l9 + 1)).toNat < (eV e l1 l5 - l9).toNat := by omega
  refine n_pair n30 hH q1 q2 t1 t2 (fun r S2 hO => ?_)
  obtain ⟨m2, ⟨rfl, hn⟩ | ⟨rfl, Q2, hs, hL2⟩⟩ := hO
  · rw [hn] at q3
    exact ⟨⟨rfl, rfl, rfl, rfl, rfl, rfl, rfl, hF.tr m2, by omega, by omega, Or.inr ⟨rfl, q3.symm⟩⟩, mes⟩
  · rw [hs] at q3
    exact ⟨⟨rfl, rfl, rfl, rfl, rfl, rfl, rfl, hF.tr m2, by omega, by omega, Or.inl ⟨rfl, Q2, hL2, (prX_ok q2 t1 t2 hs).1, q3⟩⟩, mes⟩
/-- two objects -/
theorem n_areSame (hE : mE S e) (hV : EV e) (g : mH1 S e h) (hH : EH e h) (hW : VLq e h) (hL : LQm S Q) (hQ : QI e h Q) (ha : okO e a) (hb : 0 ≤ b ∧ b < h.1) (hK : ∀ r S', LOm S (arX false e h a b Q) r S' → K r S') : wX11_areSame a b S K := by
  have n30 := hV.1
  have n1 := n30.2
  have h30 := hH.1
  have h1 := h30.2
  have h6 := hV.2.1
  have hc := hV.2.2.1 a ha
  have h4 := hV.2.2.2.1 _ hc
  have h42 := h4.2
  have c0 := hc.1
  have c1 := hc.2
  have c6 := h6.2
  have a0 := ha.1
  have a1 := ha.2
  have e1 := hE.2.1 a ha
  have e2 := g.2.1 b hb.1 hb.2
  unfold arX at hK
  unfold wX11_areSame
  rw [e1, e2]
  refine fun _ _ => ⟨a0, by omega, fun _ x3 e3 => ⟨by omega, by omega, fun _ => ⟨fun w => ?_, fun w => ?_⟩⟩⟩
  rotate_left
  · rw [e3] at w
    rw [if_neg w] at hK
    exact hK 0 S ⟨LFm.rf, Or.inl ⟨rfl, rfl⟩⟩
  rw [e3] at w
  have hk : eK e a = h.2.1 b := w
  rw [if_pos hk] at hK
  rw [e3]
  refine ⟨fun l1 l2 l3 l4 l5 S' => l1 = a ∧ l2 = b ∧ l3 = eK e a ∧ LFm S S' ∧ 0 ≤ l5 ∧ l5 ≤ eF e (eK e a) ∧ ((l4 = 1 ∧ ∃ Q', LQm S' Q' ∧ QI e h Q' ∧ fsX false e h a b (eF e (eK e a) - l5).toNat l5 Q' = fsX false e h a b (eF e (eK e a)).toNat 0 Q) ∨ (l4 = 0 ∧ fsX false e h a b (eF e (eK e a)).toNat 0 Q = none)), fun _ _ _ _ l5 _ => (eF e (eK e a) - l5).toNat, ⟨rfl, rfl, rfl, LFm.rf, by decide, h4.1, Or.inl ⟨rfl, Q, hL, hQ, by rw [show eF e (eK e a) - 0 = eF e (eK e a) by omega]⟩⟩, ?_⟩
  rintro l1 l2 l3 l4 l5 S' ⟨rfl, rfl, rfl, hF, i0, i1, hd4⟩
  have hE' := hE.lm hF
  have g' := g.lm hF
  have e56 := hE'.2.2.2.2.2.1 _ hc
  unfold wX11_areSame_28'
  rw [e56]
  rcases hd4 with ⟨rfl, Q1, q1, q2, q3⟩ | ⟨rfl, q3⟩
  rotate_left
  · have bad : K 0 S' := hK 0 S' ⟨hF, Or.inl ⟨rfl, q3⟩⟩
    exact ⟨c0, by omega, fun _ => ⟨⟨by omega, by omega⟩, fun _ => ⟨⟨by decide, by decide⟩, bad⟩, fun _ => ⟨⟨by decide, by decide⟩, fun _ => ⟨⟨by decide, by decide⟩, bad⟩, fun w => absurd rfl w⟩⟩⟩
  refine ⟨c0, by omega, fun _ => ⟨⟨by omega, by omega⟩, fun w => ⟨⟨by decide, by decide⟩, ?_⟩, fun w => ⟨⟨by decide, by decide⟩, fun w => absurd w (by decide), fun _ x9 e9 x10 e10 => ⟨by omega, by omega, fun _ x13 e13 => ?_⟩⟩⟩⟩
  · rw [show (eF e (eK e l1) - l5).toNat = 0 by omega] at q3
    exact hK 1 S' ⟨hF, Or.inr ⟨rfl, Q1, q3.symm, q1⟩⟩
  have hf : okF e (eK e l1) l5 := ⟨hc, i0, by omega⟩
  have hf' : okF e (h.2.1 l2) l5 := by rw [← hk]; exact hf
  have hD := (hV.2.2.2.2.1 _ _ hf).1
  have hD0 := hD.1
  have hD3 := hD.2
  have e59 := (hE'.2.2.2.2.2.2.1 _ _ hf).1
  have u1 := hE'.2.2.1 l1 l5 ha hf
  have u2 := g'.2.2.1 l2 l5 hb.1 hb.2 hf'
  have rv1 := (hV.2.2.2.2.2 l1 l5 ha hf).1
  have rv2 := (hH.2.2 l2 l5 hb.1 hb.2 hf').1
  obtain ⟨v2, v3⟩ := hW l1 l2 l5 ha.1 ha.2 hb.1 hb.2 hf hk
  have h0 := fun w => ((hV.2.2.2.2.2 l1 l5 ha hf).2.2.2 w).1.1
  rw [e59] at e13
  rw [e13, e9, e10, u1, u2]
  rw [show (eF e (eK e l1) - l5).toNat = (eF e (eK e l1) - (l5 + 1)).toNat + 1 by omega] at q3
  have q3 : (match flX false e h l1 l2 l5 Q1 with | none => none | some Q' => fsX false e h l1 l2 (eF e (eK e l1) - (l5 + 1)).toNat (l5 + 1) Q') = fsX false e h l1 l2 (eF e (eK e l1)).toNat 0 Q := q3
  have mes : (eF e (eK e l1) - (l5 + 1)).toNat < (eF e (eK e l1) - l5).toNat := by omega
  have next : ∀ r S2, LOm S' (flX false e h l1 l2 l5 Q1) r S2 → (fun ml1 ml2 ml3 ml4 ml5 T' => (ml1 = l1 ∧ ml2 = l2 ∧ ml3 = eK e l1 ∧ LFm S T' ∧ 0 ≤ ml5 ∧ ml5 ≤ eF e (eK e l1) ∧ ((ml4 = 1 ∧ ∃ Q', LQm T' Q' ∧ QI e h Q' ∧ fsX false e h l1 l2 (eF e (eK e l1) - ml5).toNat ml5 Q' = fsX false e h l1 l2 (eF e (eK e l1)).toNat 0 Q) ∨ (ml4 = 0 ∧ fsX false e h l1 l2 (eF e (eK e l1)).toNat 0 Q = none))) ∧ (eF e (eK e l1) - ml5).toNat < (eF e (eK e l1) - l5).toNat : Int → Int → Int → Int → Int → St → Prop) l1 l2 (eK e l1) r (l5 + 1) S2 := fun r S2 hO => by
    obtain ⟨m2, ⟨rfl, hn⟩ | ⟨rfl, Q2, hs, hL2⟩⟩ := hO
    · rw [hn] at q3
      exact ⟨⟨rfl, rfl, rfl, hF.tr m2, by omega, by omega, Or.inr ⟨rfl, q3.symm⟩⟩, mes⟩
    · rw [hs] at q3
      exact ⟨⟨rfl, rfl, rfl, hF.tr m2, by omega, by omega, Or.inl ⟨rfl, Q2, hL2, (flX_ok v2 v3 h0 q2 hs).1, q3⟩⟩, mes⟩
  refine ⟨fun w2 => ⟨by omega, by omega, fun _ => ⟨by omega, by omega, fun _ => ⟨fun w3 => ?_, fun w3 => ?_⟩⟩⟩, fun w2 => ⟨by omega, by omega, fun _ => ⟨by omega, by omega, fun _ => ?_⟩⟩⟩
  · refine n_s130z hD (by omega) (by omega) (next 0 S' ⟨LFm.rf, Or.inl ⟨rfl, ?_⟩⟩)
    unfold flX
    rw [if_neg w2, if_pos w3]
  · have w3 := Classical.not_not.mp w3
    by_cases d1 : eD e (eK e l1) l5 = 1
    · rw [d1]
      refine n_s130t hE' hV g' h30 ha hb hk hf d1 w3 (fun r hr => next r S' ⟨LFm.rf, ?_⟩)
      have ef : flX false e h l1 l2 l5 Q1 = if txX e h l1 l2 l5 (eV e l1 l5).toNat 0 = true then some Q1 else none := by
        unfold flX
        rw [if_neg w2, if_neg (fun y => y w3), if_pos d1]
      rcases hr with ⟨rfl, hr⟩ | ⟨rfl, hr⟩
      · rw [if_pos hr] at ef
        exact Or.inr ⟨rfl, Q1, ef, q1⟩
      · rw [if_neg (by rw [hr]; decide)] at ef
        exact Or.inl ⟨rfl, ef⟩
    · by_cases d3 : eD e (eK e l1) l5 = 3
      · rw [d3]
        refine n_s130c hE' hV g' h30 hW q1 q2 ha hb hk hf d3 w3 (fun r S2 hO => next r S2 ?_)
        have ef : flX false e h l1 l2 l5 Q1 = ceX false e h l1 l2 l5 (eV e l1 l5).toNat 0 Q1 := by
          unfold flX
          rw [if_neg w2, if_neg (fun y => y w3), if_neg d1, if_pos d3]
        rw [ef]
        exact hO
      · refine n_s130o (by omega) (next 1 S' ⟨LFm.rf, Or.inr ⟨rfl, Q1, ?_, q1⟩⟩)
        unfold flX
        rw [if_neg w2, if_neg (fun y => y w3), if_neg d1, if_neg d3]
  · have d2 := Classical.not_not.mp w2
    rw [d2]
    refine n_pair n30 h30 q1 q2 (v2 d2).1 (v2 d2).2 (fun r S2 hO => ?_)
    have ef : flX false e h l1 l2 l5 Q1 = prX false e h Q1 (eV e l1 l5) (h.2.2.1 l2 l5) := by
      unfold flX
      rw [if_pos d2]
    rw [← ef] at hO
    have nx := next r S2 hO
    obtain ⟨m2, ⟨rfl, hn⟩ | ⟨rfl, Q2, hs, hL2⟩⟩ := hO
    · exact n_s130z ⟨by decide, by decide⟩ (by omega) (by omega) nx
    · exact n_s130o (Or.inr rfl) nx
end YH
/-! WHETHER TWO GRAPHS ARE THE SAME: the model, from its roots -/
section YI
variable {S S' : St} {K : Int → St → Prop} {e : Env} {h : Hs} {Q Q' : Pq} {a b f i o : Int}
theorem n_sameG (hE : mE S e) (hV : EV e) (g : mH1 S e h) (hH : EH e h) (hW : VLq e h) (h18 : ¬ S.1 54 18 = 0) (hb : 0 < h.1) (hK : ∀ r S', LFm S S' → ((r = 1 ∧ okO e a ∧ smX false e h a = true) ∨ (r = 0 ∧ ¬ (okO e a ∧ smX false e h a = true))) → K r S') : wX11_same a S K := by
  have n30 := hV.1
  have n1 := n30.2
  have h30 := hH.1
  have h1 := h30.2
  have hQ0 : QI e h ([] : Pq) := ⟨fun q hq => (by cases hq), fun i j hi => absurd hi (Nat.not_lt_zero _)⟩
  unfold wX11_same
  refine fun _ _ => ⟨fun w => absurd w h18, fun _ => n_isO hE (fun r hr => ?_)⟩
  rcases hr with ⟨rfl, ha⟩ | ⟨rfl, ha⟩
  rotate_left
  · exact ⟨⟨by decide, by decide⟩, fun w => absurd rfl w, fun _ => hK 0 S LFm.rf (Or.inr ⟨rfl, fun w => ha w.1⟩)⟩
  refine ⟨⟨by decide, by decide⟩, fun _ S7 e7 => ?_, fun w => absurd (by decide) w⟩
  have m7 : LFm S S7 := by
    rw [e7]
    exact ⟨fun c j q => pI_j q, fun _ _ _ => rfl⟩
  have hL : LQm S7 ([] : Pq) := ⟨by rw [e7, pI_v]; rfl, fun k hk => absurd hk (Nat.not_lt_zero _)⟩
  refine n_pair n30 h30 hL hQ0 (Or.inr ha) (Or.inr ⟨Int.le_refl _, hb⟩) (fun r S9 hO => ?_)
  obtain ⟨m9, hO⟩ := hO
  have start : (r = 1 ∧ ∃ Q', LQm S9 Q' ∧ QI e h Q' ∧ lpX false e h 31 0 Q' = smX false e h a) ∨ (r = 0 ∧ smX false e h a = false) := by
    unfold smX
    rcases hO with ⟨rfl, hn⟩ | ⟨rfl, Q1, hs, hL1⟩
    · rw [hn]
      exact Or.inr ⟨rfl, rfl⟩
    · rw [hs]
      exact Or.inl ⟨rfl, Q1, hL1, (prX_ok hQ0 (Or.inr ha) (Or.inr ⟨Int.le_refl _, hb⟩) hs).1, rfl⟩
  refine ⟨fun l2 l3 S' => LFm S S' ∧ 0 ≤ l3 ∧ l3 ≤ 30 ∧ ((l2 = 1 ∧ ∃ Q', LQm S' Q' ∧ QI e h Q' ∧ lpX false e h (31 - l3).toNat l3.toNat Q' = smX false e h a) ∨ (l2 = 0 ∧ smX false e h a = false)), fun _ l3 _ => (30 - l3).toNat, ⟨m7.tr m9, by decide, by decide, start⟩, ?_⟩
  rintro l2 l3 S' ⟨hF, c0, c1, hd⟩
  have hE' := hE.lm hF
  have g' := g.lm hF
  unfold wX11_same_32'
  rcases hd with ⟨rfl, Q2, q1, q3, q4⟩ | ⟨rfl, q4⟩
  rotate_left
  · have bad : K 0 S' := hK 0 S' hF (Or.inr ⟨rfl, fun w => by rw [q4] at w; exact absurd w.2 (by decide)⟩)
    exact fun _ => ⟨⟨by omega, by omega⟩, fun _ => ⟨⟨by decide, by decide⟩, bad⟩, fun _ => ⟨⟨by decide, by decide⟩, fun _ => ⟨⟨by decide, by decide⟩, bad⟩, fun w => absurd rfl w⟩⟩
  have ql := q3.len n30.2
  rw [q1.1]
  refine fun _ => ⟨⟨by omega, by omega⟩, fun w => ⟨⟨by decide, by decide⟩, ?_⟩, fun w => ⟨⟨by decide, by decide⟩, fun w => absurd w (by decide), fun _ => ⟨c0, by omega, fun _ => ⟨c0, by omega, fun _ => ?_⟩⟩⟩⟩
  · rw [lpX_end false _ _ _ (by omega)] at q4
    exact hK 1 S' hF (Or.inl ⟨rfl, ha, q4.symm⟩)
  have hk : l3.toNat < Q2.length := by omega
  have hmem := getD_mem (d := ((0, 0) : Int × Int)) hk
  have hq := q3.1 _ hmem
  obtain ⟨k1, k2⟩ := q1.2 l3.toNat hk
  rw [show ((l3.toNat : Nat) : Int) = l3 by omega] at k1 k2
  rw [k1, k2]
  rw [show (31 - l3).toNat = (30 - l3).toNat + 1 by omega] at q4
  unfold lpX at q4
  rw [if_pos hk] at q4
  have mes : (30 - (l3 + 1)).toNat < (30 - l3).toNat := by omega
  have hf4 := hV.2.2.2.1 _ (hV.2.2.1 _ hq.1)
  refine n_areSame hE' hV g' hH hW q1 q3 hq.1 hq.2 (fun r S13 hO => ?_)
  obtain ⟨m13, ⟨rfl, hn⟩ | ⟨rfl, Q3, hs, hL3⟩⟩ := hO
  · rw [hn] at q4
    exact ⟨⟨hF.tr m13, by omega, by omega, Or.inr ⟨rfl, q4.symm⟩⟩, mes⟩
  · rw [hs] at q4
    refine ⟨⟨hF.tr m13, by omega, by omega, Or.inl ⟨rfl, Q3, hL3, ?_, ?_⟩⟩, mes⟩
    · unfold arX at hs
      by_cases w5 : eK e (Q2.getD l3.toNat (0, 0)).1 = h.2.1 (Q2.getD l3.toNat (0, 0)).2
      · rw [if_pos w5] at hs
        exact (fsX_ok hV hW hq.1 hq.2 w5 _ 0 Q2 (by decide) (by omega) q3 hs).1
      · rw [if_neg w5] at hs
        cases hs
    · rw [show (31 - (l3 + 1)).toNat = (30 - l3).toNat by omega, show (l3 + 1).toNat = l3.toNat + 1 by omega]
      exact q4
end YI

