/-! WHAT IS ASKED: the class's heaps -/
section ZE
variable {S : St} {K : Int → St → Prop} {e : Env} {h : Hs} {a b f i : Int}
theorem k_shpB (hE : cE S e) (hV : EV e) (g : cH6 S e h) (hH : EH e h) (hK : ∀ r, (r = eD e (h.2.1 b) f + 1 ∧ (0 ≤ b ∧ b < h.1) ∧ okF e (h.2.1 b) f) ∨ (r = 0 ∧ ¬ ((0 ≤ b ∧ b < h.1) ∧ okF e (h.2.1 b) f)) → K r S) : wX10_shapeIn_b b f S K := by
  unfold wX10_shapeIn_b
  refine fun _ _ => d_has g (fun r hr => ?_)
  rcases hr with ⟨rfl, hb⟩ | ⟨rfl, hb⟩
  · have hc := hH.2.1 b hb.1 hb.2
    have h6 := hV.2.1
    refine ⟨⟨by decide, by decide⟩, fun w => absurd w (by decide), fun _ => d_cls g hH hb ⟨⟨by have := hc.1; omega, by have := hc.2; omega⟩, c_shp hE hV (fun r hr => ?_)⟩⟩
    rcases hr with ⟨r1, hf⟩ | ⟨r1, hf⟩
    · exact hK r (Or.inl ⟨r1, hb, hf⟩)
    · exact hK r (Or.inr ⟨r1, fun w => hf w.2⟩)
  · exact ⟨⟨by decide, by decide⟩, fun _ => hK 0 (Or.inr ⟨rfl, fun w => hb w.1⟩), fun w => absurd rfl w⟩
/-- a cell, or none -/
theorem k_clA (hE : cE S e) (hV : EV e) (ho : okO e b) (hf : okF e (eK e b) f) (hd : eD e (eK e b) f = 1 ∨ eD e (eK e b) f = 3) (hK : K (if 0 ≤ i ∧ i < eV e b f then eP e b f i else -2) S) : wX1_cell b f i S K := by
  by_cases hi : 0 ≤ i ∧ i < eV e b f
  · rw [if_pos hi] at hK
    exact r_cell hE hV ho hf hd hi.1 hi.2 hK
  · rw [if_neg hi] at hK
    have h30 := hV.1
    have f4 := okF4 hV hf
    have o0 := ho.1
    have o1 := ho.2
    have e44 := hE.2.2.1 b f ho f4.1 f4.2 hf
    have e42 := hE.1
    unfold wX1_cell wX1_hasCell
    intro _ _ _ _ _ _
    rw [e42, e44]
    have no : (rng 0 ∧ ((0 : Int) = 0 → K (-2) S) ∧ (¬ (0 : Int) = 0 → (0 : Int) ≤ (b * 4 + f) * 20 + i ∧ (b * 4 + f) * 20 + i < (2400 : Int) ∧ (iv (-2147483648) 2147483647 (S.2 45 ((b * 4 + f) * 20 + i)) → K (S.2 45 ((b * 4 + f) * 20 + i)) S))) := ⟨⟨by decide, by decide⟩, fun _ => hK, fun w => absurd rfl w⟩
    refine ⟨fun z => no, fun _ _ => ⟨fun z => no, fun _ => ⟨fun z => no, fun _ => ⟨fun z => no, fun _ => ⟨fun z => no, fun _ => ⟨fun z => no, fun _ => ⟨by omega, by omega, fun _ => ⟨fun z => no, fun z => absurd ⟨by omega, by omega⟩ hi⟩⟩⟩⟩⟩⟩⟩⟩
theorem k_clB (g : cH6 S e h) (hV : EV e) (hH : EH e h) (ho : 0 ≤ b ∧ b < h.1) (hf : okF e (h.2.1 b) f) (hd : eD e (h.2.1 b) f = 1 ∨ eD e (h.2.1 b) f = 3) (hK : K (if 0 ≤ i ∧ i < h.2.2.1 b f then h.2.2.2 b f i else -2) S) : wX1_cell_b b f i S K := by
  by_cases hi : 0 ≤ i ∧ i < h.2.2.1 b f
  · rw [if_pos hi] at hK
    exact d_cell g hV hH ho hf hd hi.1 hi.2 hK
  · rw [if_neg hi] at hK
    have h30 := hH.1
    have f4 := okF4 hV hf
    have e48 := g.2.2.1 b f ho.1 ho.2 hf
    unfold wX1_cell_b wX1_hasCell_c
    intro _ _ _ _ _ _
    rw [g.1, e48]
    have no : (rng 0 ∧ ((0 : Int) = 0 → K (-2) S) ∧ (¬ (0 : Int) = 0 → (0 : Int) ≤ (b * 4 + f) * 20 + i ∧ (b * 4 + f) * 20 + i < (2400 : Int) ∧ (iv (-2147483648) 2147483647 (S.2 49 ((b * 4 + f) * 20 + i)) → K (S.2 49 ((b * 4 + f) * 20 + i)) S))) := ⟨⟨by decide, by decide⟩, fun _ => hK, fun w => absurd rfl w⟩
    refine ⟨fun z => no, fun _ _ => ⟨fun z => no, fun _ => ⟨fun z => no, fun _ => ⟨fun z => no, fun _ => ⟨fun z => no, fun _ => ⟨fun z => no, fun _ => ⟨by omega, by omega, fun _ => ⟨fun z => no, fun z => absurd ⟨by omega, by omega⟩ hi⟩⟩⟩⟩⟩⟩⟩⟩
end ZE

