/-! THE SMALL CALLS: the class -/
/-- other objects, the same classes -/
def hp (e : Env) (N : Int) (K : Int → Int) (V : Int → Int → Int) (P : Int → Int → Int → Int) : Env := (fun t a b c => if t = 0 then N else if t = 1 then K a else if t = 2 then V a b else if t = 3 then P a b c else e.1 t a b c, e.2)
def isSg (a : Int) : Prop := (32 ≤ a ∧ a ≤ 126) ∨ a = 9 ∨ a = 10 ∨ a = 13
/-- a bit for each reference -/
def RC (S : St) (e : Env) (c : Int) : Prop := iv 0 15 (S.2 31 c) ∧ ∀ f, 0 ≤ f → f < 4 → (¬ bnd (bsr (S.2 31 c) f) 1 = 0 ↔ (f < eF e c ∧ eD e c f = 2))
/-- only the heap changes -/
def HC (S S' : St) : Prop := (∀ b j, ¬ (b = 42 ∧ j = 3) → S'.1 b j = S.1 b j) ∧ ∀ b, b < 43 ∨ 45 < b → S'.2 b = S.2 b
theorem HC.rf {S : St} : HC S S := ⟨fun _ _ _ => rfl, fun _ _ => rfl⟩
theorem HC.tr {S S1 S2 : St} (h : HC S S1) (g : HC S1 S2) : HC S S2 := ⟨fun a j q => (g.1 a j q).trans (h.1 a j q), fun a q => (g.2 a q).trans (h.2 a q)⟩
theorem cE_hp {S S' : St} {e : Env} {N : Int} {K : Int → Int} {V : Int → Int → Int} {P : Int → Int → Int → Int} (h : cE S e) (q : HC S S') (h1 : S'.1 42 3 = N) (h2 : ∀ o, 0 ≤ o → o < N → S'.2 43 o = K o) (h3 : ∀ o f, 0 ≤ o → o < N → 0 ≤ f → f < 4 → okF e (K o) f → S'.2 44 (o * 4 + f) = V o f) (h4 : ∀ o f i, 0 ≤ o → o < N → okF e (K o) f → (eD e (K o) f = 1 ∨ eD e (K o) f = 3) → 0 ≤ i → i < V o f → S'.2 45 ((o * 4 + f) * 20 + i) = P o f i) : cE S' (hp e N K V P) := by
  obtain ⟨a1, a2, a3, a4, a5, a6, a7, a8⟩ := h
  refine ⟨h1, fun o ho => h2 o ho.1 ho.2, fun o f ho f0 f4 hf => h3 o f ho.1 ho.2 f0 f4 hf, fun o f i ho hf hd i0 i1 => h4 o f i ho.1 ho.2 hf hd i0 i1, (q.1 24 8 (by decide)).trans a5, fun c hc => by rw [q.2 29 (by decide)]; exact a6 c hc, fun c f hf => ?_, fun k hk => ?_⟩
  · rw [q.2 27 (by decide), q.2 28 (by decide), q.2 30 (by decide)]
    exact a7 c f hf
  · rw [q.2 26 (by decide), q.2 25 (by decide)]
    exact a8 k hk
theorem EV_hp {e : Env} {N : Int} {K : Int → Int} {V : Int → Int → Int} {P : Int → Int → Int → Int} (h : EV e) (h1 : iv 0 30 N) (h2 : ∀ o, 0 ≤ o → o < N → okC e (K o)) (h3 : ∀ o f, 0 ≤ o → o < N → okF e (K o) f → rng (V o f) ∧ (eD e (K o) f = 1 → iv 0 20 (V o f) ∧ ∀ i, 0 ≤ i → i < V o f → iv 0 65535 (P o f i)) ∧ (eD e (K o) f = 2 → V o f = -2 ∨ (0 ≤ V o f ∧ V o f < N)) ∧ (eD e (K o) f = 3 → iv 0 8 (V o f) ∧ ∀ i, 0 ≤ i → i < V o f → (0 ≤ P o f i ∧ P o f i < N))) : EV (hp e N K V P) := by
  obtain ⟨a1, a2, a3, a4, a5, a6⟩ := h
  exact ⟨h1, a2, fun o ho => h2 o ho.1 ho.2, a4, a5, fun o f ho hf => h3 o f ho.1 ho.2 hf⟩
section SC
variable {S : St} {K : Int → St → Prop} {e : Env} {a b x : Int}
theorem c_isSign (hK : ∀ r, (r = 1 ∧ isSg a) ∨ (r = 0 ∧ ¬ isSg a) → K r S) : wX10_isSign a S K := by
  unfold wX10_isSign wX10_isSign_12
  intro g
  have k1 : isSg a → K 1 S := fun h => hK 1 (Or.inl ⟨rfl, h⟩)
  have k0 : ¬ isSg a → K 0 S := fun h => hK 0 (Or.inr ⟨rfl, h⟩)
  unfold isSg at k1 k0
  refine ⟨fun h => ⟨g, fun h9 => k1 (by omega), fun h9 => ⟨fun h10 => k1 (by omega), fun h10 => ⟨fun h13 => k0 (by omega), fun h13 => k1 (by omega)⟩⟩⟩, fun h => ⟨fun h2 => k1 (by omega), fun h2 => ⟨g, fun h9 => k1 (by omega), fun h9 => ⟨fun h10 => k1 (by omega), fun h10 => ⟨fun h13 => k0 (by omega), fun h13 => k1 (by omega)⟩⟩⟩⟩⟩
theorem c_unit (hK : ∀ r S', (isSg a ∧ S.1 1 1 < 3000 ∧ r = 1 ∧ S' = sPut S 1 a) ∨ (¬ isSg a ∧ r = 0 ∧ S' = S) ∨ (isSg a ∧ 3000 ≤ S.1 1 1 ∧ r = 0 ∧ S' = sPut S 1 a) → K r S') : wX10_unit a S K := by
  unfold wX10_unit
  intro g
  refine c_isSign (fun r hr => ?_)
  rcases hr with ⟨rfl, h⟩ | ⟨rfl, h⟩
  · refine ⟨⟨by decide, by decide⟩, fun q => absurd q (by decide), fun _ => ⟨by unfold isSg at h; omega, fun r2 S2 h2 e2 => ?_⟩⟩
    rcases h2 with ⟨h2, rfl⟩ | ⟨h2, rfl⟩
    · exact ⟨⟨by decide, by decide⟩, fun q => absurd q (by decide), fun _ => hK 1 S2 (Or.inl ⟨h, h2, rfl, e2⟩)⟩
    · exact ⟨⟨by decide, by decide⟩, fun _ => hK 0 S2 (Or.inr (Or.inr ⟨h, h2, rfl, e2⟩)), fun q => absurd rfl q⟩
  · exact ⟨⟨by decide, by decide⟩, fun _ => hK 0 S (Or.inr (Or.inl ⟨h, rfl, rfl⟩)), fun q => absurd rfl q⟩
theorem c_isF (hE : cE S e) (hV : EV e) (hK : ∀ r, (r = 1 ∧ okF e a b) ∨ (r = 0 ∧ ¬ okF e a b) → K r S) : wX4_isField a b S K := by
  have hc := hE.2.2.2.2.1
  have h6 := hV.2.1
  unfold wX4_isField
  intro g1 g2
  refine ⟨fun h => hK 0 (Or.inr ⟨rfl, fun q => by have := q.1.1; omega⟩), fun h _ => ⟨fun h2 => hK 0 (Or.inr ⟨rfl, fun q => by have := q.1.2; omega⟩), fun h2 => ⟨fun h3 => hK 0 (Or.inr ⟨rfl, fun q => by have := q.2.1; omega⟩), fun h3 => ⟨by omega, by omega, fun _ => ?_⟩⟩⟩⟩
  have ha : okC e a := ⟨by omega, by omega⟩
  have hf := hE.2.2.2.2.2.1 a ha
  exact ⟨fun h4 => hK 0 (Or.inr ⟨rfl, fun q => by have := q.2.2; omega⟩), fun h4 => hK 1 (Or.inl ⟨rfl, ha, by omega, by omega⟩)⟩
theorem c_shp (hE : cE S e) (hV : EV e) (hK : ∀ r, (r = eD e a b + 1 ∧ okF e a b) ∨ (r = 0 ∧ ¬ okF e a b) → K r S) : wX4_shape a b S K := by
  unfold wX4_shape
  intro g1 g2
  refine c_isF hE hV (fun r hr => ?_)
  rcases hr with ⟨rfl, h⟩ | ⟨rfl, h⟩
  · have h6 := hV.2.1
    have h4 := hV.2.2.2.1 a h.1
    have h7 := (hE.2.2.2.2.2.2.1 a b h).1
    obtain ⟨⟨q1, q2⟩, q3, q4⟩ := h
    refine ⟨⟨by decide, by decide⟩, fun q => absurd q (by decide), fun _ => ⟨by omega, by omega, fun _ => ?_⟩⟩
    rw [h7]
    exact hK _ (Or.inl ⟨rfl, ⟨q1, q2⟩, q3, q4⟩)
  · exact ⟨⟨by decide, by decide⟩, fun _ => hK 0 (Or.inr ⟨rfl, h⟩), fun q => absurd rfl q⟩
theorem c_hasO (hE : cE S e) (hK : ∀ r, (r = 1 ∧ okO e a) ∨ (r = 0 ∧ ¬ okO e a) → K r S) : wX1_has a S K := by
  by_cases q : okO e a
  · exact r_has1 hE q (hK 1 (Or.inl ⟨rfl, q⟩))
  · by_cases q2 : a < 0
    · exact r_has0 q2 (hK 0 (Or.inr ⟨rfl, q⟩))
    · exact r_hasN hE (by unfold okO at q; omega) (hK 0 (Or.inr ⟨rfl, q⟩))
theorem c_shapeIn (hE : cE S e) (hV : EV e) (hK : ∀ r, (r = eD e (eK e a) b + 1 ∧ okO e a ∧ okF e (eK e a) b) ∨ (r = 0 ∧ ¬ (okO e a ∧ okF e (eK e a) b)) → K r S) : wX10_shapeIn a b S K := by
  unfold wX10_shapeIn
  intro g1 g2
  refine c_hasO hE (fun r hr => ?_)
  rcases hr with ⟨rfl, h⟩ | ⟨rfl, h⟩
  · refine ⟨⟨by decide, by decide⟩, fun q => absurd q (by decide), fun _ => ?_⟩
    have h2 := hV.2.2.1 a h
    have h6 := hV.2.1
    unfold okC at h2
    refine r_cls hE hV h ⟨⟨by omega, by omega⟩, c_shp hE hV (fun r hr => hK r ?_)⟩
    rcases hr with ⟨q1, q2⟩ | ⟨q1, q2⟩
    · exact Or.inl ⟨q1, h, q2⟩
    · exact Or.inr ⟨q1, fun q => q2 q.2⟩
  · exact ⟨⟨by decide, by decide⟩, fun _ => hK 0 (Or.inr ⟨rfl, fun q => h q.1⟩), fun q => absurd rfl q⟩
/-- a head is put -/
theorem c_putHead (hE : cE S e) (hV : EV e) (ho : okO e a) (hf : okF e (eK e a) b) (gx : rng x) (hK : K 0 (pA S 44 (a * 4 + b) x)) : wX1_putHead a b x S K := by
  have h1 := hE.1
  have h30 := hV.1
  have h4 := hV.2.2.2.1 _ hf.1
  obtain ⟨o0, o1⟩ := ho
  obtain ⟨-, f0, f1⟩ := hf
  unfold wX1_putHead wX1_hasField
  intro g1 g2 g3 _ _
  refine ⟨fun h => absurd h (by omega), fun _ _ => ⟨fun h => absurd h (by omega), fun _ => ⟨fun h => absurd h (by omega), fun _ => ⟨fun h => absurd h (by omega), fun _ => ⟨⟨by decide, by decide⟩, fun q => absurd q (by decide), fun _ => ⟨by omega, by omega, ⟨by omega, by omega⟩, fun S6 e6 => ?_⟩⟩⟩⟩⟩⟩
  rw [e6]
  exact hK
theorem c_set (hE : cE S e) (hV : EV e) (hK : ∀ r S', (okO e a ∧ okF e (eK e a) b ∧ (eD e (eK e a) b = 0 ∨ (eD e (eK e a) b = 2 ∧ (x = -2 ∨ okO e x))) ∧ r = 1 ∧ S' = pA S 44 (a * 4 + b) x) ∨ (¬ (okO e a ∧ okF e (eK e a) b ∧ (eD e (eK e a) b = 0 ∨ (eD e (eK e a) b = 2 ∧ (x = -2 ∨ okO e x)))) ∧ r = 0 ∧ S' = S) → K r S') : wX10_set a b x S K := by
  unfold wX10_set
  intro g1 g2 g3
  have no : ¬ (okO e a ∧ okF e (eK e a) b ∧ (eD e (eK e a) b = 0 ∨ (eD e (eK e a) b = 2 ∧ (x = -2 ∨ okO e x)))) → wX10_set_45 a b x S K := fun h => by
    unfold wX10_set_45 wX10_set_46
    exact ⟨⟨by decide, by decide⟩, fun _ => ⟨⟨by decide, by decide⟩, hK 0 S (Or.inr ⟨h, rfl, rfl⟩)⟩, fun q => absurd rfl q⟩
  have yes : ∀ (ho : okO e a) (hf : okF e (eK e a) b), (eD e (eK e a) b = 0 ∨ (eD e (eK e a) b = 2 ∧ (x = -2 ∨ okO e x))) → wX10_set_41 a b x S K := fun ho hf h => by
    unfold wX10_set_41 wX10_set_46
    exact ⟨⟨by decide, by decide⟩, fun q => absurd q (by decide), fun _ => ⟨g1, g2, g3, c_putHead hE hV ho hf g3 ⟨⟨by decide, by decide⟩, hK 1 _ (Or.inl ⟨ho, hf, h, rfl, rfl⟩)⟩⟩⟩
  refine c_shapeIn hE hV (fun r hr => ?_)
  rcases hr with ⟨hr, ho, hf⟩ | ⟨hr, h⟩
  · have h3 := (hV.2.2.2.2.1 _ _ hf).1
    refine ⟨⟨by omega, by omega⟩, fun q => yes ho hf (Or.inl (by omega)), fun q => ⟨fun q2 => no (fun z => by have := z.2.2; omega), fun q2 => ⟨fun q3 => yes ho hf (Or.inr ⟨by omega, Or.inl q3⟩), fun q3 => c_hasO hE (fun r2 hr2 => ?_)⟩⟩⟩
    rcases hr2 with ⟨rfl, h2⟩ | ⟨rfl, h2⟩
    · exact ⟨⟨by decide, by decide⟩, fun q => absurd q (by decide), fun _ => yes ho hf (Or.inr ⟨by omega, Or.inr h2⟩)⟩
    · refine ⟨⟨by decide, by decide⟩, fun _ => no (fun z => ?_), fun q => absurd rfl q⟩
      rcases z.2.2 with z1 | ⟨z1, z2⟩
      · omega
      · exact z2.elim q3 h2
  · refine ⟨⟨by omega, by omega⟩, fun q => absurd q (by omega), fun q => ⟨fun q2 => no (fun z => h ⟨z.1, z.2.1⟩), fun q2 => absurd (by omega) q2⟩⟩
theorem c_sign (hK : ∀ r, (0 ≤ a ∧ a < S.1 20 1 ∧ r = S.2 20 a) ∨ ((a < 0 ∨ S.1 20 1 ≤ a) ∧ r = -1) → K r S) : wX10_sign a S K := by
  unfold wX10_sign
  intro g r hr
  rcases hr with ⟨h1, h2, rfl⟩ | ⟨h1, rfl⟩
  · refine ⟨⟨by decide, by decide⟩, fun q => absurd q (by decide), fun _ r2 h => ?_⟩
    rcases h with ⟨-, -, h, -⟩ | ⟨h, -⟩
    · exact hK r2 (Or.inl ⟨h1, h2, h⟩)
    · exact absurd h (by omega)
  · exact ⟨⟨by decide, by decide⟩, fun _ => hK _ (Or.inr ⟨h1, rfl⟩), fun q => absurd rfl q⟩
theorem c_forbid (hE : cE S e) (hV : EV e) (hb : iv 0 1 b) (h32 : ∀ c, okC e c → iv 0 1 (S.2 32 c)) (hK : ∀ r S', (okC e a ∧ r = S.2 32 a ∧ S' = pA S 32 a b) ∨ (¬ okC e a ∧ r = 0 ∧ S' = S) → K r S') : wX10_forbid a b S K := by
  have hc := hE.2.2.2.2.1
  have h6 := hV.2.1
  have isC : ∀ (T : St) (K2 : Int → St → Prop), T.1 24 8 = eC e → (∀ r, (r = 1 ∧ okC e a) ∨ (r = 0 ∧ ¬ okC e a) → K2 r T) → wX4_isClass a T K2 := fun T K2 hT h => by
    unfold wX4_isClass
    intro g
    exact ⟨fun q => h 0 (Or.inr ⟨rfl, fun z => by have := z.1; omega⟩), fun q _ => ⟨fun q2 => h 0 (Or.inr ⟨rfl, fun z => by have := z.2; omega⟩), fun q2 => h 1 (Or.inl ⟨rfl, by omega, by omega⟩)⟩⟩
  have put : ∀ K2 : Int → St → Prop, rng a → (okC e a → K2 0 (pA S 32 a b)) → (¬ okC e a → K2 0 S) → wX4_putForbidden a b S K2 := fun K2 ga k1 k0 => by
    unfold wX4_putForbidden
    intro _ _
    refine isC S _ hc (fun r hr => ?_)
    rcases hr with ⟨rfl, h⟩ | ⟨rfl, h⟩
    · refine ⟨⟨by decide, by decide⟩, fun q => absurd q (by decide), fun _ => ⟨by have := h.1; omega, by have := h.2; omega, hb, fun S6 e6 => ?_⟩⟩
      rw [e6]
      exact k1 h
    · exact ⟨⟨by decide, by decide⟩, fun _ => k0 h, fun q => absurd rfl q⟩
  unfold wX10_forbid wX4_isForbidden
  intro g1 g2 _
  refine isC S _ hc (fun r hr => ?_)
  rcases hr with ⟨rfl, h⟩ | ⟨rfl, h⟩
  · have h01 := h32 a h
    refine ⟨⟨by decide, by decide⟩, fun q => absurd q (by decide), fun _ => ⟨by have := h.1; omega, by have := h.2; omega, fun _ => ⟨fun q => ?_, fun q => ?_⟩⟩⟩
    · exact put _ g1 (fun _ => ⟨⟨by decide, by decide⟩, hK 0 _ (Or.inl ⟨h, q.symm, rfl⟩)⟩) (fun z => absurd h z)
    · exact put _ g1 (fun _ => ⟨⟨by decide, by decide⟩, hK 1 _ (Or.inl ⟨h, by omega, rfl⟩)⟩) (fun z => absurd h z)
  · exact ⟨⟨by decide, by decide⟩, fun _ => put _ g1 (fun z => absurd z h) (fun _ => ⟨⟨by decide, by decide⟩, hK 0 S (Or.inr ⟨h, rfl, rfl⟩)⟩), fun q => absurd rfl q⟩
end SC

