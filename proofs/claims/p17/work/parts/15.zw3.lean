/-! WHAT ELEMENTS MEAN: the model: a field is filled, an id is told, a class is named by a value -/
/-- only values and parts above those of the two heaps -/
def BF (S S' : St) : Prop := S'.1 = S.1 ∧ (∀ a, ¬ a = 69 → ¬ a = 70 → S'.2 a = S.2 a) ∧ (∀ i, i < 240 → S'.2 69 i = S.2 69 i) ∧ ∀ i, i < 4800 → S'.2 70 i = S.2 70 i
theorem BF.rf {S : St} : BF S S := ⟨rfl, fun _ _ _ => rfl, fun _ _ => rfl, fun _ _ => rfl⟩
theorem BF.nf {S S' : St} (h : BF S S') : NF S S' := ⟨fun a j _ => by rw [h.1], fun a q _ => h.2.1 a (by omega) (by omega), fun j _ => by rw [h.2.1 67 (by decide) (by decide)], fun j _ => by rw [h.2.1 68 (by decide) (by decide)], h.2.2.1, h.2.2.2⟩
section NB
variable {S S' : St} {K : Int → St → Prop} {T W : Int → Int} {n x y o f v u c r p a b d i k z w : Int} {X : Xs} {e : Env} {fb : Int → Int} {M M' : Mm} {L : List Int} {h h' : Hs}
theorem pcs_sb (hp : pcs S L) : sbT (S.2 104) 0 L.length = L := by
  rw [sbT_eq]
  refine ⟨by omega, fun d hd => ?_⟩
  rw [show (0 : Int) + (d : Int) = d by omega]
  exact hp.2 d (by omega)
theorem pcs_at (hp : pcs S L) (i0 : 0 ≤ i) (i1 : i < L.length) : S.2 104 i = L.getD i.toNat 0 ∧ S.2 104 i ∈ L := by
  have := hp.2 i.toNat (by omega)
  rw [show ((i.toNat : Nat) : Int) = i by omega] at this
  refine ⟨this, ?_⟩
  rw [this, List.getD_eq_getElem?_getD, List.getElem?_eq_getElem (show i.toNat < L.length by omega)]
  exact List.getElem_mem _
theorem nmV_rng (q : nmV L = some v) : rng v := by
  have two : ∀ D neg, nm2 D neg = some v → rng v := fun D neg w => by
    unfold nm2 at w
    by_cases c1 : D.length = 0 ∨ 10 < D.length
    · rw [if_pos c1] at w
      cases w
    · rw [if_neg c1] at w
      cases hv : nvL D 0 with
      | none =>
        rw [hv] at w
        cases w
      | some y =>
        rw [hv] at w
        dsimp only at w
        by_cases c2 : rng (if neg = true then -y else y)
        · rw [if_pos c2] at w
          injection w with w
          rw [← w]
          exact c2
        · rw [if_neg c2] at w
          cases w
  unfold nmV at q
  cases hl : L with
  | nil =>
    rw [hl] at q
    cases q
  | cons u l =>
    rw [hl] at q
    dsimp only at q
    by_cases c : u = 45
    · rw [if_pos c] at q
      exact two _ _ q
    · rw [if_neg c] at q
      exact two _ _ q
theorem fil_EH (hH : EH e h) (ho : 0 ≤ o ∧ o < h.1) (hL : ∀ u ∈ L, isSn u) (hk : eD e (h.2.1 o) f = 0 ∨ eD e (h.2.1 o) f = 1) (q : fil e h o f L = some h') : EH e h' := by
  unfold fil at q
  by_cases c1 : eD e (h.2.1 o) f = 0
  · rw [if_pos c1] at q
    cases hv : nmV L with
    | none =>
      rw [hv] at q
      cases q
    | some y =>
      rw [hv] at q
      injection q with q
      rw [← q]
      exact EH_V hH ho (Or.inl ⟨c1, nmV_rng hv⟩)
  · rw [if_neg c1] at q
    by_cases c2 : L.length ≤ 20 ∧ (∀ u ∈ L, 32 ≤ u)
    · rw [if_pos c2] at q
      injection q with q
      rw [← q]
      refine EH_T hH (hk.resolve_left c1) c2.1 (fun u hu => ?_)
      have q1 := hL u hu
      have q2 := c2.2 u hu
      exact ⟨q2, by omega⟩
    · rw [if_neg c2] at q
      cases q
theorem n_become (g : mH S e h) (hE : mE S e) (hV : EV e) (hW : EW e h) (ho : 0 ≤ o ∧ o < h.1) (hf : okF e (h.2.1 o) f) (hk : eD e (h.2.1 o) f = 0 ∨ eD e (h.2.1 o) f = 1) (hp : pcs S L) (hl : L.length ≤ 3000) (hL : ∀ u ∈ L, isSn u) (hK0 : fil e h o f L = none → ∀ S', BF S S' → K 0 S') (hK : ∀ h' S', fil e h o f L = some h' → BF S S' → mH S' e h' → EW e h' → K 1 S') : wX11_becomes o f S K := by
  have h30 := hW.1
  have f4 := okF4 hV hf
  have h6 := hV.2.1
  have hc := hW.2.1 o ho.1 ho.2
  have c0 := hc.1
  have c1 := hc.2
  have e68 := g.2.1 o ho.1 ho.2
  have e59 := (hE.2.2.2.2.2.2.1 _ _ hf).1
  have e67 := hp.1
  have sb := pcs_sb hp
  unfold wX11_becomes
  intro _ _ x1 e1
  rw [e1, e68]
  refine ⟨by omega, by omega, fun _ => ⟨by omega, by omega, fun _ x6 e6' x9 e9 => ?_⟩⟩
  rw [e59] at e6'
  rw [e6']
  refine ⟨fun z => ?_, fun z => ?_⟩
  · have d0 : eD e (h.2.1 o) f = 0 := hk.resolve_right z
    unfold fil at hK0 hK
    rw [if_pos d0] at hK0 hK
    have bad : nmV L = none → K 0 S := fun q => by
      rw [q] at hK0
      exact hK0 rfl S BF.rf
    have good : ∀ v, nmV L = some v → K 1 (pA S 69 x9 v) := fun v q => by
      rw [q] at hK
      have : x9 = 4 * (60 + o) + f := by omega
      rw [this]
      exact hK _ _ rfl ⟨rfl, fun a q1 _ => (pA_ne a q1).2, fun i hi => by rw [pA_if, if_neg (by omega)], fun i _ => by rw [(pA_ne 70 (by decide)).2]⟩ (mH_V g hV hf (Or.inl d0)) (EW_V hW (Or.inl ⟨d0, nmV_rng q⟩))
    have t139 : ∀ (neg : Bool) (s0 : Int), ((neg = true ∧ s0 = 1) ∨ (neg = false ∧ s0 = 0)) → s0 ≤ L.length → nmV L = nm2 (sbT (S.2 104) s0 L.length) neg → wX11_becomes_139 x9 s0 S K := fun neg s0 hs h0 hn => by
      unfold wX11_becomes_139
      rw [e67]
      unfold nm2 at hn
      rw [sbT_len] at hn
      refine fun _ => ⟨⟨by omega, by omega⟩, fun q => bad (by rw [hn, if_pos (by omega)]), fun q => ⟨⟨by omega, by omega⟩, fun q2 => ?_, fun q2 => bad (by rw [hn, if_pos (by omega)])⟩⟩
      rw [if_neg (by omega)] at hn
      refine ⟨fun l5 l6 l7 l9 S' => l5 = x9 ∧ l6 = s0 ∧ S' = S ∧ s0 ≤ l9 ∧ l9 ≤ L.length ∧ nvL (sbT (S.2 104) l9 L.length) l7 = nvL (sbT (S.2 104) s0 L.length) 0, fun l5 l6 l7 l9 S' => ((L.length : Int) - l9).toNat, ⟨rfl, rfl, rfl, by omega, h0, rfl⟩, ?_⟩
      rintro l5 l6 l7 l9 S' ⟨rfl, rfl, rfl, i0, i1, i2⟩
      have fin : ∀ s1 : Int, s1 = (if neg = true then -l7 else l7) → nvL (sbT (S'.2 104) l6 L.length) 0 = some l7 → wX11_becomes_236 l5 s1 S' K := fun s1 hs1 hv => by
        have hb := nvL_bd _ 0 l7 (by decide) hv
        have q3 : (10 : Int) ^ (sbT (S'.2 104) l6 L.length).length ≤ 10 ^ 10 := by
          have := Nat.pow_le_pow_right (show 0 < 10 by decide) (show (sbT (S'.2 104) l6 L.length).length ≤ 10 by rw [sbT_len]; omega)
          exact_mod_cast this
        have q4 : ((10 : Int) ^ 10) = 10000000000 := by decide
        rw [hv] at hn
        dsimp only at hn
        rw [← hs1] at hn
        have bs : -10000000000 < s1 ∧ s1 < 10000000000 := by
          rw [hs1]
          by_cases q : neg = true
          · rw [if_pos q]
            omega
          · rw [if_neg q]
            omega
        unfold wX11_becomes_236
        refine ⟨⟨by omega, by omega⟩, fun q => bad (by rw [hn, if_neg (fun w => by have := w.1; omega)]), fun q => ⟨⟨by omega, by omega⟩, fun q5 => ⟨by omega, by omega, ⟨by omega, by omega⟩, fun S6 e6 => ?_⟩, fun q5 => bad (by rw [hn, if_neg (fun w => by have := w.2; omega)])⟩⟩
        rw [e6]
        exact good s1 (by rw [hn, if_pos ⟨by omega, by omega⟩])
      unfold wX11_becomes_171'
      rw [e67]
      refine fun _ => ⟨⟨by omega, by omega⟩, fun q5 => ⟨⟨by omega, by omega⟩, fun q6 => ?_, fun q6 => ?_⟩, fun q5 => ⟨by omega, by omega, fun _ => n_isDg (fun r hr => ?_)⟩⟩
      · rw [sbT_nil q5] at i2
        refine fin l7 ?_ i2.symm
        rcases hs with ⟨-, w⟩ | ⟨w, -⟩
        · exact absurd w q6
        · rw [w]
          exact (if_neg (by decide)).symm
      · rw [sbT_nil q5] at i2
        refine fin (-l7) ?_ i2.symm
        rcases hs with ⟨w, -⟩ | ⟨-, w⟩
        · rw [w]
          exact (if_pos rfl).symm
        · omega
      · rw [sbT_cons (show l9 < L.length by omega)] at i2
        rcases hr with ⟨rfl, hd⟩ | ⟨rfl, hd⟩
        · refine ⟨⟨by decide, by decide⟩, fun _ => ⟨by omega, by omega, fun _ x14 e14 => ⟨⟨rfl, rfl, rfl, by omega, by omega, ?_⟩, ?_⟩⟩, fun w => absurd (by decide) w⟩
          · rw [e14]
            exact (if_pos hd).symm.trans i2
          · show ((L.length : Int) - (l9 + 1)).toNat < ((L.length : Int) - l9).toNat
            omega
        · have h3' : nvL (sbT (S'.2 104) l6 L.length) 0 = none := ((if_neg hd).symm.trans i2).symm
          rw [h3'] at hn
          exact ⟨⟨by decide, by decide⟩, fun w => absurd rfl w, fun _ => bad hn⟩
    rw [e67]
    unfold wX11_becomes_138
    refine fun _ => ⟨fun q => ?_, fun q => ⟨by decide, by decide, fun _ => ⟨fun q2 => ?_, fun q2 => ?_⟩⟩⟩
    · refine t139 false 0 (Or.inr ⟨rfl, rfl⟩) (by omega) ?_
      rw [sb]
      have : L = [] := List.length_eq_zero_iff.mp (by omega)
      rw [this]
      exact ((if_pos (Or.inl rfl)).symm : (none : Option Int) = nm2 [] false)
    · refine t139 false 0 (Or.inr ⟨rfl, rfl⟩) (by omega) ?_
      have hc := sbT_cons (T := S.2 104) (show (0 : Int) < L.length by omega)
      rw [sb] at hc
      rw [sb]
      rw [hc]
      show (if S.2 104 0 = 45 then _ else _) = _
      rw [if_neg q2]
    · refine t139 true 1 (Or.inl ⟨rfl, rfl⟩) (by omega) ?_
      have hc := sbT_cons (T := S.2 104) (show (0 : Int) < L.length by omega)
      rw [sb] at hc
      rw [hc, List.length_cons]
      show (if S.2 104 0 = 45 then nm2 (sbT (S.2 104) (0 + 1) L.length) true else _) = _
      rw [if_pos (Classical.not_not.mp q2)]
      have : (sbT (S.2 104) (0 + 1) (L.length : Int)).length + 1 = L.length := by
        rw [sbT_len]
        omega
      rw [this]
      rfl
  · have d1 : eD e (h.2.1 o) f = 1 := Classical.not_not.mp z
    unfold fil at hK0 hK
    rw [if_neg (by omega)] at hK0 hK
    rw [e67]
    refine fun _ => ⟨fun q => ?_, fun q => ?_⟩
    · have e9 : x9 = 4 * (60 + o) + f := by omega
      refine ⟨fun l5 l6 S' => l5 = 4 * (60 + o) + f ∧ 0 ≤ l6 ∧ l6 ≤ L.length ∧ S'.1 = S.1 ∧ (∀ a, ¬ a = 70 → S'.2 a = S.2 a) ∧ (∀ y, S'.2 70 y = if 20 * (4 * (60 + o) + f) ≤ y ∧ y < 20 * (4 * (60 + o) + f) + l6 then L.getD (y - 20 * (4 * (60 + o) + f)).toNat 0 else S.2 70 y) ∧ ∀ j : Nat, j < l6 → 32 ≤ L.getD j 0, fun l5 l6 S' => ((L.length : Int) - l6).toNat, ⟨e9, by decide, by omega, rfl, fun _ _ => rfl, fun y => by rw [if_neg (by omega)], fun j hj => by omega⟩, ?_⟩
      rintro l5 l6 S' ⟨h5, i0, i1, q1, q2, q3, q4⟩
      have f67 : S'.1 54 67 = L.length := by rw [q1]; exact e67
      have bf : BF S S' := ⟨q1, fun a _ w => q2 a w, fun i _ => by rw [q2 69 (by decide)], fun i hi => by rw [q3, if_neg (by omega)]⟩
      have f104 : S'.2 104 = S.2 104 := q2 104 (by decide)
      unfold wX11_becomes_49'
      rw [f67, h5, f104]
      refine fun _ => ⟨⟨by omega, by omega⟩, fun w => ⟨by omega, by omega, ⟨by omega, by omega⟩, fun S5 e5 => ?_⟩, fun w => ⟨by omega, by omega, fun _ => n_in (fun r hr => ?_)⟩⟩
      · have c2 : L.length ≤ 20 ∧ (∀ u ∈ L, 32 ≤ u) := by
          refine ⟨by omega, fun u hu => ?_⟩
          obtain ⟨j, hj, rfl⟩ := List.getElem_of_mem hu
          have := q4 j (by omega)
          rw [List.getD_eq_getElem?_getD, List.getElem?_eq_getElem hj] at this
          exact this
        rw [if_pos c2] at hK
        have i2 : l6 = L.length := by omega
        rw [i2] at q3
        refine hK _ S5 rfl ⟨by rw [e5]; exact q1, fun a w1 w2 => by rw [e5, (pA_ne a w1).2]; exact q2 a w2, fun i hi => by rw [e5, pA_if, if_neg (by omega), q2 69 (by decide)], fun i hi => by rw [e5, (pA_ne 70 (by decide)).2, q3, if_neg (by omega)]⟩ (mH_T g hV hW hf d1 c2.1 (fun a ha => ?_) (fun y => ?_) (fun y => ?_)) (EW_T hW d1 c2.1)
        · rw [e5, (pA_ne a (by omega)).2]
          exact q2 a (by omega)
        · rw [e5, pA_if, q2 69 (by decide)]
        · rw [e5, (pA_ne 70 (by decide)).2]
          exact q3 y
      · obtain ⟨p1, p2⟩ := pcs_at hp i0 (by omega)
        have hsn := isSn_b (hL _ p2)
        rcases hr with ⟨rfl, hr⟩ | ⟨rfl, hr⟩
        · refine ⟨⟨by decide, by decide⟩, fun _ => ⟨by omega, by omega, fun _ => ⟨by omega, by omega, fun S16 e16 => ⟨⟨rfl, by omega, by omega, by rw [e16]; exact q1, fun a ha => ?_, fun y => ?_, fun j hj => ?_⟩, ?_⟩⟩⟩, fun w => absurd (by decide) w⟩
          · rw [e16, (pA_ne a ha).2]
            exact q2 a ha
          · rw [e16, pA_if, q3 y, f104]
            by_cases hy : y = 20 * (4 * (60 + o) + f) + l6
            · rw [if_pos hy, if_pos (by omega), show y - 20 * (4 * (60 + o) + f) = l6 by omega]
              exact p1
            · rw [if_neg hy]
              by_cases hz : 20 * (4 * (60 + o) + f) ≤ y ∧ y < 20 * (4 * (60 + o) + f) + l6
              · rw [if_pos hz, if_pos (by omega)]
              · rw [if_neg hz, if_neg (by omega)]
          · by_cases qj : j = l6.toNat
            · rw [qj, ← p1]
              exact hr.1
            · exact q4 j (by omega)
          · show ((L.length : Int) - (l6 + 1)).toNat < ((L.length : Int) - l6).toNat
            omega
        · refine ⟨⟨by decide, by decide⟩, fun w => absurd rfl w, fun _ => ?_⟩
          rw [if_neg (fun c2 => hr ⟨c2.2 _ p2, by omega⟩)] at hK0
          exact hK0 rfl S' bf
    · rw [if_neg (fun c2 => q (by omega))] at hK0
      exact hK0 rfl S BF.rf
end NB

