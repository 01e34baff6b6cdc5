/-! THE CLASS'S READERS, over an Env -/
section RD
variable {S : St} {K : Int → St → Prop} {e : Env} {o f c i : Int}
theorem r_has1 (hE : cE S e) (ho : okO e o) (hK : K 1 S) : wX1_has o S K := by
  have h1 := hE.1
  obtain ⟨o1, o2⟩ := ho
  unfold wX1_has
  intro _
  exact ⟨fun h => absurd h (by omega), fun _ _ => ⟨fun h => absurd h (by omega), fun _ => hK⟩⟩
theorem r_has0 (ho : o < 0) (hK : K 0 S) : wX1_has o S K := by
  unfold wX1_has
  intro _
  exact ⟨fun _ => hK, fun h => absurd ho h⟩
theorem r_cls (hE : cE S e) (hV : EV e) (ho : okO e o) (hK : K (eK e o) S) : wX1_classOf o S K := by
  have hN := hV.1
  have e1 := hE.2.1 o ho
  unfold wX1_classOf
  intro _
  refine r_has1 hE ho ⟨⟨by decide, by decide⟩, fun h => absurd h (by decide), fun _ => ⟨ho.1, ?_, fun _ => ?_⟩⟩
  · obtain ⟨o1, o2⟩ := ho
    omega
  · rw [e1]
    exact hK
theorem r_cls0 (ho : o < 0) (hK : K (-1) S) : wX1_classOf o S K := by
  unfold wX1_classOf
  intro _
  exact r_has0 ho ⟨⟨by decide, by decide⟩, fun _ => hK, fun h => absurd rfl h⟩
theorem r_head (hE : cE S e) (hV : EV e) (ho : okO e o) (hf : okF e (eK e o) f) (hK : K (eV e o f) S) : wX1_head o f S K := by
  have hN := hV.1
  have hF := hV.2.2.2.1 _ hf.1
  have h1 := hE.1
  have f1 := hf.2.1
  have f2 := hf.2.2
  have o1 := ho.1
  have o2 := ho.2
  have e1 := hE.2.2.1 o f ho (by omega) (by omega) hf
  unfold wX1_head wX1_hasField
  intro _ _ _ _
  refine ⟨fun h => absurd h (by omega), fun _ _ => ⟨fun h => absurd h (by omega), fun _ => ⟨fun h => absurd h (by omega), fun _ => ⟨fun h => absurd h (by omega), fun _ => ⟨⟨by decide, by decide⟩, fun h => absurd h (by decide), fun _ => ⟨by omega, by omega, fun _ => ?_⟩⟩⟩⟩⟩⟩
  rw [e1]
  exact hK
theorem r_cell (hE : cE S e) (hV : EV e) (ho : okO e o) (hf : okF e (eK e o) f) (hd : eD e (eK e o) f = 1 ∨ eD e (eK e o) f = 3) (h0 : 0 ≤ i) (h1 : i < eV e o f) (hK : K (eP e o f i) S) : wX1_cell o f i S K := by
  have hN := hV.1
  have hF := hV.2.2.2.1 _ hf.1
  have hn := hE.1
  have f1 := hf.2.1
  have f2 := hf.2.2
  have o1 := ho.1
  have o2 := ho.2
  have hv := hV.2.2.2.2.2 o f ho hf
  have h20 : eV e o f ≤ 20 := by
    rcases hd with q | q
    · exact (hv.2.1 q).1.2
    · have := (hv.2.2.2 q).1.2
      omega
  have e1 := hE.2.2.1 o f ho (by omega) (by omega) hf
  have e2 := hE.2.2.2.1 o f i ho hf hd h0 h1
  unfold wX1_cell wX1_hasCell
  intro _ _ _ _ _ _
  refine ⟨fun h => absurd h (by omega), fun _ _ => ⟨fun h => absurd h (by omega), fun _ => ⟨fun h => absurd h (by omega), fun _ => ⟨fun h => absurd h (by omega), fun _ => ⟨fun h => absurd h (by omega), fun _ => ⟨fun h => absurd h (by omega), fun _ => ⟨by omega, by omega, fun _ => ⟨fun h => absurd h (by omega), fun _ => ⟨⟨by decide, by decide⟩, fun h => absurd h (by decide), fun _ => ⟨by omega, by omega, fun _ => ?_⟩⟩⟩⟩⟩⟩⟩⟩⟩⟩
  rw [e2]
  exact hK
theorem r_isF1 (hE : cE S e) (hV : EV e) (hf : okF e c f) (hK : K 1 S) : wX4_isField c f S K := by
  have hC := hV.2.1
  have h5 := hE.2.2.2.2.1
  have h6 := hE.2.2.2.2.2.1 c hf.1
  have c1 := hf.1.1
  have c2 := hf.1.2
  have f1 := hf.2.1
  have f2 := hf.2.2
  unfold wX4_isField
  intro _ _
  refine ⟨fun h => absurd h (by omega), fun _ _ => ⟨fun h => absurd h (by omega), fun _ => ⟨fun h => absurd h (by omega), fun _ => ⟨by omega, by omega, fun _ => ⟨fun h => absurd h (by omega), fun _ => hK⟩⟩⟩⟩⟩
theorem r_isF0 (hE : cE S e) (hV : EV e) (hc : okC e c) (h0 : 0 ≤ f) (hf : eF e c ≤ f) (hK : K 0 S) : wX4_isField c f S K := by
  have hC := hV.2.1
  have h5 := hE.2.2.2.2.1
  have h6 := hE.2.2.2.2.2.1 c hc
  have c1 := hc.1
  have c2 := hc.2
  unfold wX4_isField
  intro _ _
  refine ⟨fun h => absurd h (by omega), fun _ _ => ⟨fun h => absurd h (by omega), fun _ => ⟨fun h => absurd h (by omega), fun _ => ⟨by omega, by omega, fun _ => ⟨fun _ => hK, fun h => absurd hf (by omega)⟩⟩⟩⟩⟩
theorem r_isFn (hc : c < 0) (hK : K 0 S) : wX4_isField c f S K := by
  unfold wX4_isField
  intro _ _
  exact ⟨fun _ => hK, fun h => absurd hc h⟩
theorem r_shape (hE : cE S e) (hV : EV e) (hf : okF e c f) (hK : K (eD e c f + 1) S) : wX4_shape c f S K := by
  have hC := hV.2.1
  have hF := hV.2.2.2.1 _ hf.1
  have h7 := (hE.2.2.2.2.2.2.1 c f hf).1
  have c1 := hf.1.1
  have c2 := hf.1.2
  have f1 := hf.2.1
  have f2 := hf.2.2
  unfold wX4_shape
  intro _ _
  refine r_isF1 hE hV hf ⟨⟨by decide, by decide⟩, fun h => absurd h (by decide), fun _ => ⟨by omega, by omega, fun _ => ?_⟩⟩
  rw [h7]
  exact hK
theorem r_shape0 (hE : cE S e) (hV : EV e) (hc : okC e c) (h0 : 0 ≤ f) (hf : eF e c ≤ f) (hK : K 0 S) : wX4_shape c f S K := by
  unfold wX4_shape
  intro _ _
  exact r_isF0 hE hV hc h0 hf ⟨⟨by decide, by decide⟩, fun _ => hK, fun h => absurd rfl h⟩
theorem r_shapen (hc : c < 0) (hK : K 0 S) : wX4_shape c f S K := by
  unfold wX4_shape
  intro _ _
  exact r_isFn hc ⟨⟨by decide, by decide⟩, fun _ => hK, fun h => absurd rfl h⟩
theorem r_isAtt (hE : cE S e) (hV : EV e) (hf : okF e c f) (hK : K (if eD e c f ≤ 1 ∧ eM e c f = 1 then 1 else 0) S) : wX4_isAttribute c f S K := by
  have hC := hV.2.1
  have hF := hV.2.2.2.1 _ hf.1
  have h7 := (hE.2.2.2.2.2.2.1 c f hf).2.1
  have c1 := hf.1.1
  have c2 := hf.1.2
  have f1 := hf.2.1
  have f2 := hf.2.2
  rw [← h7] at hK
  unfold wX4_isAttribute
  intro _ _
  refine r_isF1 hE hV hf ⟨⟨by decide, by decide⟩, fun h => absurd h (by decide), fun _ => ⟨by omega, by omega, fun hb => ?_⟩⟩
  refine ⟨fun h => ?_, fun h => ?_⟩
  · rw [h] at hK
    exact hK
  · have : S.2 28 (c * 4 + f) = 1 := by omega
    rw [this] at hK
    exact hK
theorem r_impl (hE : cE S e) (hV : EV e) (hc : okC e c) (hK : rng (S.2 30 c) → K (S.2 30 c) S) : wX4_implicit c S K := by
  have hC := hV.2.1
  have h5 := hE.2.2.2.2.1
  have c1 := hc.1
  have c2 := hc.2
  unfold wX4_implicit wX4_isClass
  intro _ _
  exact ⟨fun h => absurd h (by omega), fun _ _ => ⟨fun h => absurd h (by omega), fun _ => ⟨⟨by decide, by decide⟩, fun h => absurd h (by decide), fun _ => ⟨by omega, by omega, fun q => hK ⟨by omega, by omega⟩⟩⟩⟩⟩
theorem r_fc (hE : cE S e) (hV : EV e) (hc : okC e c) (hK : K (eF e c) S) : wX4_fieldCount c S K := by
  have hC := hV.2.1
  have h5 := hE.2.2.2.2.1
  have h6 := hE.2.2.2.2.2.1 c hc
  have c1 := hc.1
  have c2 := hc.2
  unfold wX4_fieldCount wX4_isClass
  intro _ _
  refine ⟨fun h => absurd h (by omega), fun _ _ => ⟨fun h => absurd h (by omega), fun _ => ⟨⟨by decide, by decide⟩, fun h => absurd h (by decide), fun _ => ⟨by omega, by omega, fun q => ?_⟩⟩⟩⟩
  rw [h6]
  exact hK
theorem r_fname (hK : K (6 + c * 4 + f) S) : wX4_fieldName c f S K := by
  unfold wX4_fieldName
  intro _ _
  exact hK
theorem r_isFN {k : Int} (hK : K (if 6 ≤ k then 1 else 0) S) : wX4_isFieldName k S K := by
  unfold wX4_isFieldName
  intro _
  refine ⟨fun h => ?_, fun h => ?_⟩
  · rw [if_neg (by omega)] at hK
    exact hK
  · rw [if_pos (by omega)] at hK
    exact hK
end RD

