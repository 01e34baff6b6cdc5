/-! THE SMALL CALLS: the class: what is made, texts, lists, what is taken -/
def FTx (S : St) : Prop := S.1 1 1 ≤ 20 ∧ ∀ p, 0 ≤ p → p < S.1 1 1 → 32 ≤ S.2 1 p
def Bn (S T : St) (a N m rf : Int) : Prop := HC S T ∧ (∀ x, T.2 43 x = if x = N then a else S.2 43 x) ∧ (∀ x, T.2 44 x = if N * 4 ≤ x ∧ x < N * 4 + m then (if bnd (bsr rf (x - N * 4)) 1 = 0 then 0 else -2) else S.2 44 x) ∧ T.2 45 = S.2 45
def Tt (S T : St) (x n m : Int) : Prop := HC S T ∧ T.1 42 3 = S.1 42 3 ∧ T.2 43 = S.2 43 ∧ (∀ y, T.2 44 y = if y = x then n else S.2 44 y) ∧ ∀ y, T.2 45 y = if x * 20 ≤ y ∧ y < x * 20 + m then S.2 1 (y - x * 20) else S.2 45 y
section SD
variable {S : St} {K : Int → St → Prop} {e : Env} {a b x : Int}
theorem c_born (hE : cE S e) (hV : EV e) (ha : okC e a) (hB : RC S e a) (hK0 : ¬ eN e < 30 → K (-1) S) (hK : eN e < 30 → ∀ T, Bn S T a (eN e) 4 (S.2 31 a) → T.1 42 3 = eN e + 1 → K (eN e) T) : wX1_born a (S.2 31 a) S K := by
  have h1 := hE.1
  have h30 := hV.1
  have h6 := hV.2.1
  obtain ⟨a0, a1⟩ := ha
  unfold wX1_born
  intro g1 g2 _
  rw [h1]
  refine ⟨fun h => ⟨by omega, h, ⟨by omega, by omega⟩, fun S4 e4 => ?_⟩, hK0⟩
  have hN : eN e < 30 := h
  refine ⟨fun l2 l3 T => l2 = S.2 31 a ∧ 0 ≤ l3 ∧ l3 ≤ 4 ∧ Bn S T a (eN e) l3 (S.2 31 a) ∧ T.1 42 3 = eN e, fun l2 l3 T => (4 - l3).toNat, ⟨rfl, by decide, by decide, ?_, by rw [e4]; exact h1⟩, ?_⟩
  · rw [e4]
    refine ⟨⟨fun _ _ _ => rfl, fun b q => (pA_ne b (by omega)).2⟩, fun x => pA_if, fun x => ?_, (pA_ne 45 (by decide)).2⟩
    rw [if_neg (by omega), (pA_ne 44 (by decide)).2]
  · rintro l2 l3 T ⟨rfl, h0, h4, ⟨b1, b2, b3, b4⟩, hT⟩
    refine ⟨⟨by omega, by omega⟩, fun q _ => ⟨by rw [hT]; exact ⟨by omega, by omega⟩, fun S5 e5 _ => ?_⟩, fun q _ => ?_⟩
    · have e42 : S5.1 42 3 = eN e + 1 := by
        rw [e5, hT]
        rfl
      rw [e42, show eN e + 1 - 1 = eN e by omega]
      have l4 : l3 = 4 := by omega
      rw [l4] at b3
      refine hK hN S5 ⟨⟨fun b j z => ?_, fun b z => ?_⟩, fun x => ?_, fun x => ?_, ?_⟩ e42
      · rw [e5]
        exact (if_neg z).trans (b1.1 b j z)
      · rw [e5]
        exact b1.2 b z
      · rw [e5]
        exact b2 x
      · rw [e5]
        exact b3 x
      · rw [e5]
        exact b4
    · have fin : ∀ s0, (s0 = if bnd (bsr (S.2 31 a) l3) 1 = 0 then 0 else -2) → iv (-2) 0 s0 → wX1_born_54 (S.2 31 a) l3 s0 (T.1 42 3 * 4 + l3) T K (fun ml2 ml3 T1 => (ml2 = S.2 31 a ∧ 0 ≤ ml3 ∧ ml3 ≤ 4 ∧ Bn S T1 a (eN e) ml3 (S.2 31 a) ∧ T1.1 42 3 = eN e) ∧ (4 - ml3).toNat < (4 - l3).toNat) := fun s0 hs hi => by
        unfold wX1_born_54
        rw [hT]
        refine ⟨by omega, by omega, ⟨by omega, by omega⟩, fun S2 e2 => ⟨⟨rfl, by omega, by omega, ⟨⟨fun b j z => ?_, fun b z => ?_⟩, fun x => ?_, fun x => ?_, ?_⟩, by rw [e2]; exact hT⟩, by omega⟩⟩
        · rw [e2]
          exact b1.1 b j z
        · rw [e2, (pA_ne b (by omega)).2]
          exact b1.2 b z
        · rw [e2, (pA_ne 43 (by decide)).2]
          exact b2 x
        · rw [e2, pA_if, b3 x]
          by_cases hx : x = eN e * 4 + l3
          · rw [if_pos hx, if_pos (by omega), hs, show x - eN e * 4 = l3 by omega]
          · rw [if_neg hx]
            by_cases hy : eN e * 4 ≤ x ∧ x < eN e * 4 + l3
            · rw [if_pos hy]
              exact (if_pos (by omega)).symm
            · rw [if_neg hy, if_neg (by omega)]
        · rw [e2, (pA_ne 45 (by decide)).2]
          exact b4
      exact ⟨fun z => fin 0 (by rw [if_pos z]) ⟨by decide, by decide⟩, fun z => fin (-2) (by rw [if_neg z]) ⟨by decide, by decide⟩⟩
theorem c_make (hE : cE S e) (hV : EV e) (hB : ∀ c, okC e c → RC S e c) (hK0 : ¬ (okC e a ∧ eN e < 30) → K (-1) S) (hK : okC e a → eN e < 30 → ∀ T, Bn S T a (eN e) 4 (S.2 31 a) → T.1 42 3 = eN e + 1 → K (eN e) T) : wX10_make a S K := by
  have hc := hE.2.2.2.2.1
  have h6 := hV.2.1
  have isC : ∀ K2 : Int → St → Prop, (∀ r, (r = 1 ∧ okC e a) ∨ (r = 0 ∧ ¬ okC e a) → K2 r S) → wX4_isClass a S K2 := fun K2 h => by
    unfold wX4_isClass
    intro g
    exact ⟨fun q => h 0 (Or.inr ⟨rfl, fun z => by have := z.1; omega⟩), fun q _ => ⟨fun q2 => h 0 (Or.inr ⟨rfl, fun z => by have := z.2; omega⟩), fun q2 => h 1 (Or.inl ⟨rfl, by omega, by omega⟩)⟩⟩
  unfold wX10_make wX4_references
  intro g
  refine isC _ (fun r hr => ?_)
  rcases hr with ⟨rfl, h⟩ | ⟨rfl, h⟩
  · refine ⟨⟨by decide, by decide⟩, fun q => absurd q (by decide), fun _ _ => isC _ (fun r hr => ?_)⟩
    rcases hr with ⟨rfl, -⟩ | ⟨-, h2⟩
    · have hb := (hB a h).1
      refine ⟨⟨by decide, by decide⟩, fun q => absurd q (by decide), fun _ => ⟨by have := h.1; omega, by have := h.2; omega, fun _ => ⟨⟨by omega, by omega⟩, ?_⟩⟩⟩
      exact c_born hE hV h (hB a h) (fun q => hK0 (fun z => q z.2)) (fun q => hK h q)
    · exact absurd h h2
  · exact ⟨⟨by decide, by decide⟩, fun _ => hK0 (fun z => h z.1), fun q => absurd rfl q⟩
theorem c_isFT (hn : iv 0 3000 (S.1 1 1)) (hK : ∀ r, (r = 1 ∧ FTx S) ∨ (r = 0 ∧ ¬ FTx S) → K r S) : wX10_isFieldText 0 (S.1 1 1) S K := by
  unfold wX10_isFieldText
  intro _ _
  refine ⟨⟨by omega, by omega⟩, fun h => ?_, fun h => hK 0 (Or.inr ⟨rfl, fun z => by have := z.1; omega⟩)⟩
  refine ⟨fun l2 l3 T => l2 = S.1 1 1 ∧ T = S ∧ 0 ≤ l3 ∧ l3 ≤ S.1 1 1 ∧ ∀ p, 0 ≤ p → p < l3 → 32 ≤ S.2 1 p, fun l2 l3 T => (S.1 1 1 - l3).toNat, ⟨rfl, rfl, by decide, by omega, fun p p0 p1 => by omega⟩, ?_⟩
  rintro l2 l3 T ⟨rfl, rfl, h0, h1, h2⟩
  refine ⟨⟨by omega, by omega⟩, ⟨by omega, by omega⟩, fun q => hK 1 (Or.inl ⟨rfl, by omega, fun p p0 p1 => h2 p p0 (by omega)⟩), fun q r hr => ?_⟩
  rcases hr with ⟨-, -, r1, r2⟩ | ⟨r1, -⟩
  · refine ⟨⟨by omega, by omega⟩, fun z => ⟨⟨rfl, rfl, by omega, by omega, fun p p0 p1 => ?_⟩, by show (T.1 1 1 - (l3 + 1)).toNat < (T.1 1 1 - l3).toNat; omega⟩, fun z => hK 0 (Or.inr ⟨rfl, fun w => by have := w.2 l3 h0 (by omega); omega⟩)⟩
    by_cases hp : p = l3
    · rw [hp]
      omega
    · exact h2 p p0 (by omega)
  · exact absurd r1 (by omega)
theorem c_putText (hE : cE S e) (hV : EV e) (ho : okO e a) (hf : okF e (eK e a) b) (hn : iv 0 20 (S.1 1 1)) (hK : ∀ T, Tt S T (a * 4 + b) (S.1 1 1) (S.1 1 1) → K 0 T) : wX1_putText a b 0 (S.1 1 1) S K := by
  have h1 := hE.1
  have h30 := hV.1
  have h4 := hV.2.2.2.1 _ hf.1
  obtain ⟨o0, o1⟩ := ho
  obtain ⟨-, f0, f1⟩ := hf
  unfold wX1_putText wX1_hasField
  intro g1 g2 g3 g4 _ _
  refine ⟨fun h => absurd h (by omega), fun _ _ => ⟨fun h => absurd h (by omega), fun _ => ⟨fun h => absurd h (by omega), fun _ => ⟨fun h => absurd h (by omega), fun _ => ⟨⟨by decide, by decide⟩, fun _ x5 e5 => ?_, fun q => absurd (by decide) q⟩⟩⟩⟩⟩
  rw [if_neg (by omega)]
  refine ⟨⟨by omega, by omega⟩, by omega, by omega, ⟨by omega, by omega⟩, fun S8 e8 => ?_⟩
  refine ⟨fun l4 l6 l7 T => l4 = 0 ∧ l6 = x5 ∧ 0 ≤ l7 ∧ l7 ≤ S.1 1 1 ∧ Tt S T x5 (S.1 1 1) l7, fun l4 l6 l7 T => (S.1 1 1 - l7).toNat, ⟨rfl, rfl, by decide, by omega, ?_⟩, ?_⟩
  · rw [e8, show S.1 1 1 - 0 = S.1 1 1 by omega]
    refine ⟨⟨fun _ _ _ => rfl, fun b q => (pA_ne b (by omega)).2⟩, rfl, (pA_ne 43 (by decide)).2, fun y => pA_if, fun y => ?_⟩
    rw [if_neg (by omega), (pA_ne 45 (by decide)).2]
  · rintro l4 l6 l7 T ⟨rfl, rfl, i0, i1, t1, t2, t3, t4, t5⟩
    have e1 : T.1 1 1 = S.1 1 1 := t1.1 1 1 (by decide)
    have e2 : T.2 1 = S.2 1 := t1.2 1 (by decide)
    have e44 : T.2 44 l6 = S.1 1 1 := by rw [t4, if_pos rfl]
    have fin : l7 = S.1 1 1 → K 0 T := fun q => by
      rw [q] at t5
      rw [e5] at t4 t5
      exact hK T ⟨t1, t2, t3, t4, t5⟩
    refine ⟨⟨by omega, by omega⟩, fun q => fin (by omega), fun q => ⟨by omega, by omega, fun _ => ?_⟩⟩
    rw [e44]
    refine ⟨fun q2 => fin (by omega), fun q2 => ⟨⟨by omega, by omega⟩, fun r hr => ?_⟩⟩
    rw [e1, e2, Int.zero_add] at hr
    rcases hr with ⟨-, -, r1, r2⟩ | ⟨r1, -⟩
    · refine ⟨by omega, by omega, ⟨by omega, by omega⟩, fun S10 e10 => ⟨⟨rfl, rfl, by omega, by omega, ⟨fun b j z => ?_, fun b z => ?_⟩, ?_, ?_, fun y => ?_, fun y => ?_⟩, by show (S.1 1 1 - (l7 + 1)).toNat < (S.1 1 1 - l7).toNat; omega⟩⟩
      · rw [e10]
        exact t1.1 b j z
      · rw [e10, (pA_ne b (by omega)).2]
        exact t1.2 b z
      · rw [e10]
        exact t2
      · rw [e10, (pA_ne 43 (by decide)).2]
        exact t3
      · rw [e10, (pA_ne 44 (by decide)).2]
        exact t4 y
      · rw [e10, pA_if, t5 y]
        by_cases hy : y = l6 * 20 + l7
        · rw [if_pos hy, if_pos (by omega), r1, show y - l6 * 20 = l7 by omega]
        · rw [if_neg hy]
          by_cases hz : l6 * 20 ≤ y ∧ y < l6 * 20 + l7
          · rw [if_pos hz, if_pos (by omega)]
          · rw [if_neg hz, if_neg (by omega)]
    · exact absurd r1 (by omega)
theorem c_text (hE : cE S e) (hV : EV e) (hn : iv 0 3000 (S.1 1 1)) (hK0 : ¬ (okO e a ∧ okF e (eK e a) b ∧ eD e (eK e a) b = 1 ∧ FTx S) → K 0 S) (hK : okO e a → okF e (eK e a) b → eD e (eK e a) b = 1 → FTx S → ∀ T, Tt S T (a * 4 + b) (S.1 1 1) (S.1 1 1) → K 1 (sClr T 1)) : wX10_text a b S K := by
  unfold wX10_text
  intro g1 g2
  refine c_shapeIn hE hV (fun r hr => ?_)
  rcases hr with ⟨hr, ho, hf⟩ | ⟨hr, h⟩
  · have h3 := (hV.2.2.2.2.1 _ _ hf).1
    refine ⟨⟨by omega, by omega⟩, fun q => hK0 (fun z => by have := z.2.2.1; omega), fun q _ => ⟨⟨by omega, by omega⟩, c_isFT hn (fun r2 hr2 => ?_)⟩⟩
    rcases hr2 with ⟨rfl, h2⟩ | ⟨rfl, h2⟩
    · refine ⟨⟨by decide, by decide⟩, fun _ _ => ⟨⟨by omega, by omega⟩, c_putText hE hV ho hf ⟨hn.1, h2.1⟩ (fun T hT S' e' => ?_)⟩, fun q => absurd (by decide) q⟩
      rw [e']
      exact hK ho hf (by omega) h2 T hT
    · exact ⟨⟨by decide, by decide⟩, fun q => absurd rfl q, fun _ => hK0 (fun z => h2 z.2.2.2)⟩
  · exact ⟨⟨by omega, by omega⟩, fun _ => hK0 (fun z => h ⟨z.1, z.2.1⟩), fun q => absurd (by omega) q⟩
theorem c_add (hE : cE S e) (hV : EV e) (hK0 : ¬ (okO e a ∧ okF e (eK e a) b ∧ eD e (eK e a) b = 3 ∧ okO e x ∧ eV e a b < 8) → K (-1) S) (hK : okO e a → okF e (eK e a) b → eD e (eK e a) b = 3 → okO e x → eV e a b < 8 → K (eV e a b + 1) (pA (pA S 44 (a * 4 + b) (eV e a b + 1)) 45 ((a * 4 + b) * 20 + eV e a b) x)) : wX10_add a b x S K := by
  unfold wX10_add
  intro g1 g2 g3
  refine c_shapeIn hE hV (fun r hr => ?_)
  rcases hr with ⟨hr, ho, hf⟩ | ⟨hr, h⟩
  · have h3 := (hV.2.2.2.2.1 _ _ hf).1
    refine ⟨⟨by omega, by omega⟩, fun q => hK0 (fun z => by have := z.2.2.1; omega), fun q => c_hasO hE (fun r2 hr2 => ?_)⟩
    have hd : eD e (eK e a) b = 3 := by omega
    rcases hr2 with ⟨rfl, h2⟩ | ⟨rfl, h2⟩
    · refine ⟨⟨by decide, by decide⟩, fun _ => ?_, fun q => absurd (by decide) q⟩
      have h8 := ((hV.2.2.2.2.2 a b ho hf).2.2.2 hd).1
      unfold wX1_append
      intro _ _ _
      refine r_head hE hV ho hf ⟨⟨by omega, by omega⟩, fun z => ⟨⟨by omega, by omega⟩, c_putHead hE hV ho hf ⟨by omega, by omega⟩ ?_⟩, fun z => hK0 (fun w => z w.2.2.2.2)⟩
      have h1 := hE.1
      have h30 := hV.1
      have h4 := hV.2.2.2.1 _ hf.1
      have k := hK ho hf hd h2 z
      obtain ⟨o0, o1⟩ := ho
      obtain ⟨-, f0, f1⟩ := hf
      have e42 : (pA S 44 (a * 4 + b) (eV e a b + 1)).1 42 3 = eN e := h1
      have e44 : (pA S 44 (a * 4 + b) (eV e a b + 1)).2 44 (a * 4 + b) = eV e a b + 1 := by rw [pA_if, if_pos rfl]
      unfold wX1_putCell wX1_hasCell
      intro _ _ _ _ _ _ _
      rw [e42, e44]
      refine ⟨fun h => absurd h (by omega), fun _ _ => ⟨fun h => absurd h (by omega), fun _ => ⟨fun h => absurd h (by omega), fun _ => ⟨fun h => absurd h (by omega), fun _ => ⟨fun h => absurd h (by omega), fun _ => ⟨fun h => absurd h (by omega), fun _ => ⟨by omega, by omega, fun _ => ⟨fun h => absurd h (by omega), fun _ => ⟨⟨by decide, by decide⟩, fun q => absurd q (by decide), fun _ => ⟨by omega, by omega, ⟨by omega, by omega⟩, fun S6 e6 => ?_⟩⟩⟩⟩⟩⟩⟩⟩⟩⟩
      rw [e6]
      exact k
    · exact ⟨⟨by decide, by decide⟩, fun q => absurd rfl q, fun _ => hK0 (fun z => h2 z.2.2.2.1)⟩
  · exact ⟨⟨by omega, by omega⟩, fun _ => hK0 (fun z => h ⟨z.1, z.2.1⟩), fun q => absurd (by omega) q⟩
theorem c_take (hn : iv 0 3000 (S.1 20 1)) (hK : ∀ S', (∀ b, b ≠ 1 → S'.1 b = S.1 b ∧ S'.2 b = S.2 b) → S'.1 1 1 = S.1 20 1 → (∀ p, 0 ≤ p → p < S.1 20 1 → S'.2 1 p = S.2 20 p) → K (S.1 20 1) S') : wX10_take S K := by
  intro S' e'
  have h0 : oC (sClr S 1) 1 [] := ⟨rfl, rfl, fun i _ h => absurd h (Nat.not_lt_zero _)⟩
  have h1 := oC_puts (l := txt S 20) h0
  rw [← e', List.nil_append] at h1
  have hl : (txt S 20).length = (S.1 20 1).toNat := by unfold txt; simp
  obtain ⟨q1, -, q3⟩ := h1
  rw [hl, if_pos (by omega)] at q1
  have q1 : S'.1 1 1 = S.1 20 1 := by omega
  rw [hl] at q3
  intro _
  rw [q1]
  refine hK S' (fun b hb => ?_) q1 (fun p p0 p1 => ?_)
  · rw [e']
    exact ⟨(sPuts_ne b hb).1.trans (sClr_ne b hb).1, (sPuts_ne b hb).2.trans (sClr_ne b hb).2⟩
  · have q := q3 p.toNat (by omega) (by omega)
    rw [show ((p.toNat : Nat) : Int) = p by omega] at q
    rw [q, List.getD_eq_getElem?_getD]
    unfold txt
    rw [List.getElem?_map, List.getElem?_range (by omega)]
    show S.2 20 ((p.toNat : Nat) : Int) = _
    rw [show ((p.toNat : Nat) : Int) = p by omega]
end SD

