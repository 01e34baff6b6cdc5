/-! WHAT ELEMENTS MEAN: the model's heap that is read into; what fills a field -/
def mH (S : St) (e : Env) (h : Hs) : Prop := S.2 67 2 = h.1 ∧ (∀ o, 0 ≤ o → o < h.1 → S.2 68 (60 + o) = h.2.1 o) ∧ (∀ o f, 0 ≤ o → o < h.1 → okF e (h.2.1 o) f → S.2 69 (4 * (60 + o) + f) = h.2.2.1 o f) ∧ ∀ o f i, 0 ≤ o → o < h.1 → okF e (h.2.1 o) f → (eD e (h.2.1 o) f = 1 ∨ eD e (h.2.1 o) f = 3) → 0 ≤ i → i < h.2.2.1 o f → S.2 70 (20 * (4 * (60 + o) + f) + i) = h.2.2.2 o f i
/-- no word of what is in the lists -/
def EW (e : Env) (h : Hs) : Prop := iv 0 30 h.1 ∧ (∀ o, 0 ≤ o → o < h.1 → okC e (h.2.1 o)) ∧ ∀ o f, 0 ≤ o → o < h.1 → okF e (h.2.1 o) f → rng (h.2.2.1 o f) ∧ (eD e (h.2.1 o) f = 1 → iv 0 20 (h.2.2.1 o f)) ∧ (eD e (h.2.1 o) f = 3 → iv 0 8 (h.2.2.1 o f))
section NH
variable {S S' : St} {K : Int → St → Prop} {T W : Int → Int} {n x y o f v u c r p a b d i k z w : Int} {X : Xs} {e : Env} {fb : Int → Int} {M M' : Mm} {L : List Int} {h h' : Hs}
theorem EH.ew (g : EH e h) : EW e h := ⟨g.1, g.2.1, fun o f o0 o1 hf => ⟨(g.2.2 o f o0 o1 hf).1, fun q => ((g.2.2 o f o0 o1 hf).2.1 q).1, fun q => ((g.2.2 o f o0 o1 hf).2.2.2 q).1⟩⟩
theorem EW_V (g : EW e h) (hk : (eD e (h.2.1 o) f = 0 ∧ rng x) ∨ (eD e (h.2.1 o) f = 2 ∧ rng x)) : EW e (zV h o f x) := by
  refine ⟨g.1, g.2.1, fun o' f' o0 o1 hf => ?_⟩
  obtain ⟨b1, b2, b3⟩ := g.2.2 o' f' o0 o1 hf
  show rng (if o' = o ∧ f' = f then x else h.2.2.1 o' f') ∧ (eD e (h.2.1 o') f' = 1 → iv 0 20 (if o' = o ∧ f' = f then x else h.2.2.1 o' f')) ∧ (eD e (h.2.1 o') f' = 3 → iv 0 8 (if o' = o ∧ f' = f then x else h.2.2.1 o' f'))
  by_cases q : o' = o ∧ f' = f
  · rw [if_pos q, q.1, q.2]
    rcases hk with ⟨k1, k2⟩ | ⟨k1, k2⟩
    · exact ⟨k2, fun z => absurd z (by omega), fun z => absurd z (by omega)⟩
    · exact ⟨k2, fun z => absurd z (by omega), fun z => absurd z (by omega)⟩
  · rw [if_neg q]
    exact ⟨b1, b2, b3⟩
theorem EW_T (g : EW e h) (hk : eD e (h.2.1 o) f = 1) (hl : L.length ≤ 20) : EW e (zT h o f L) := by
  refine ⟨g.1, g.2.1, fun o' f' o0 o1 hf => ?_⟩
  obtain ⟨b1, b2, b3⟩ := g.2.2 o' f' o0 o1 hf
  show rng (if o' = o ∧ f' = f then (L.length : Int) else h.2.2.1 o' f') ∧ (eD e (h.2.1 o') f' = 1 → iv 0 20 (if o' = o ∧ f' = f then (L.length : Int) else h.2.2.1 o' f')) ∧ (eD e (h.2.1 o') f' = 3 → iv 0 8 (if o' = o ∧ f' = f then (L.length : Int) else h.2.2.1 o' f'))
  by_cases q : o' = o ∧ f' = f
  · rw [if_pos q, q.1, q.2]
    exact ⟨⟨by omega, by omega⟩, fun _ => ⟨by omega, by omega⟩, fun z => absurd z (by omega)⟩
  · rw [if_neg q]
    exact ⟨b1, b2, b3⟩
theorem EW_A (g : EW e h) (ho : 0 ≤ o ∧ o < h.1) (hf : okF e (h.2.1 o) f) (hk : eD e (h.2.1 o) f = 3) (h8 : h.2.2.1 o f < 8) : EW e (zA h o f x) := by
  refine ⟨g.1, g.2.1, fun o' f' o0 o1 hf' => ?_⟩
  obtain ⟨b1, b2, b3⟩ := g.2.2 o' f' o0 o1 hf'
  have c3 := (g.2.2 o f ho.1 ho.2 hf).2.2 hk
  show rng (if o' = o ∧ f' = f then h.2.2.1 o f + 1 else h.2.2.1 o' f') ∧ (eD e (h.2.1 o') f' = 1 → iv 0 20 (if o' = o ∧ f' = f then h.2.2.1 o f + 1 else h.2.2.1 o' f')) ∧ (eD e (h.2.1 o') f' = 3 → iv 0 8 (if o' = o ∧ f' = f then h.2.2.1 o f + 1 else h.2.2.1 o' f'))
  by_cases q : o' = o ∧ f' = f
  · rw [if_pos q, q.1, q.2]
    exact ⟨⟨by omega, by omega⟩, fun z => absurd z (by omega), fun _ => ⟨by omega, by omega⟩⟩
  · rw [if_neg q]
    exact ⟨b1, b2, b3⟩
theorem EW_B (g : EW e h) (hN : h.1 < 30) (hc : okC e c) : EW e (zB e h c) := by
  obtain ⟨a1, a2, a3⟩ := g
  have e1 : (zB e h c).1 = h.1 + 1 := rfl
  refine ⟨⟨by rw [e1]; omega, by rw [e1]; omega⟩, fun o' o0 o1 => ?_, fun o' f' o0 o1 hf => ?_⟩
  · show okC e (if o' = h.1 then c else h.2.1 o')
    by_cases q : o' = h.1
    · rw [if_pos q]
      exact hc
    · rw [if_neg q]
      exact a2 o' o0 (by omega)
  · have hf : okF e (if o' = h.1 then c else h.2.1 o') f' := hf
    show rng (if o' = h.1 then (if eD e c f' = 2 then -2 else 0) else h.2.2.1 o' f') ∧ (eD e (if o' = h.1 then c else h.2.1 o') f' = 1 → iv 0 20 (if o' = h.1 then (if eD e c f' = 2 then -2 else 0) else h.2.2.1 o' f')) ∧ (eD e (if o' = h.1 then c else h.2.1 o') f' = 3 → iv 0 8 (if o' = h.1 then (if eD e c f' = 2 then -2 else 0) else h.2.2.1 o' f'))
    by_cases q : o' = h.1
    · rw [if_pos q, if_pos q]
      by_cases w : eD e c f' = 2
      · rw [if_pos w]
        exact ⟨⟨by decide, by decide⟩, fun z => absurd z (by omega), fun z => absurd z (by omega)⟩
      · rw [if_neg w]
        exact ⟨⟨by decide, by decide⟩, fun _ => ⟨by decide, by decide⟩, fun _ => ⟨by decide, by decide⟩⟩
    · rw [if_neg q, if_neg q]
      rw [if_neg q] at hf
      rw [e1] at o1
      exact a3 o' f' o0 (by omega) hf
theorem mH.tb (g : mH S e h) (e2 : ∀ a, 67 ≤ a → a ≤ 70 → S'.2 a = S.2 a) : mH S' e h := by
  unfold mH at g ⊢
  rw [e2 67 (by decide) (by decide), e2 68 (by decide) (by decide), e2 69 (by decide) (by decide), e2 70 (by decide) (by decide)]
  exact g
theorem EW.c20 (hW : EW e h) (o0 : 0 ≤ o) (o1 : o < h.1) (hf : okF e (h.2.1 o) f) (hd : eD e (h.2.1 o) f = 1 ∨ eD e (h.2.1 o) f = 3) : h.2.2.1 o f ≤ 20 := by
  obtain ⟨-, b2, b3⟩ := hW.2.2 o f o0 o1 hf
  rcases hd with z | z
  · have := b2 z
    omega
  · have := b3 z
    omega
theorem mH_V (g : mH S e h) (hV : EV e) (hf : okF e (h.2.1 o) f) (hk : eD e (h.2.1 o) f = 0 ∨ eD e (h.2.1 o) f = 2) : mH (pA S 69 (4 * (60 + o) + f) x) e (zV h o f x) := by
  obtain ⟨a1, a2, a3, a4⟩ := g
  have f4 := okF4 hV hf
  refine ⟨by rw [(pA_ne 67 (by decide)).2]; exact a1, fun o' o0 o1 => ?_, fun o' f' o0 o1 hf' => ?_, fun o' f' i o0 o1 hf' hd i0 i1 => ?_⟩
  · rw [(pA_ne 68 (by decide)).2]
    exact a2 o' o0 o1
  · have f5 := okF4 hV hf'
    rw [pA_if]
    show _ = if o' = o ∧ f' = f then x else h.2.2.1 o' f'
    by_cases q : o' = o ∧ f' = f
    · rw [if_pos (by omega), if_pos q]
    · rw [if_neg (by omega), if_neg q]
      exact a3 o' f' o0 o1 hf'
  · have hd : eD e (h.2.1 o') f' = 1 ∨ eD e (h.2.1 o') f' = 3 := hd
    have q : ¬ (o' = o ∧ f' = f) := fun q => by
      rw [q.1, q.2] at hd
      omega
    have i1 : i < if o' = o ∧ f' = f then x else h.2.2.1 o' f' := i1
    rw [if_neg q] at i1
    rw [(pA_ne 70 (by decide)).2]
    exact a4 o' f' i o0 o1 hf' hd i0 i1
theorem mH_C (g : mH S e h) (hV : EV e) (hW : EW e h) (hf : okF e (h.2.1 o) f) (i0 : 0 ≤ i) (i1 : i < 20) : mH (pA S 70 (20 * (4 * (60 + o) + f) + i) x) e (zC h o f i x) := by
  obtain ⟨a1, a2, a3, a4⟩ := g
  have f4 := okF4 hV hf
  refine ⟨by rw [(pA_ne 67 (by decide)).2]; exact a1, fun o' o0 o1 => ?_, fun o' f' o0 o1 hf' => ?_, fun o' f' j o0 o1 hf' hd j0 j1 => ?_⟩
  · rw [(pA_ne 68 (by decide)).2]
    exact a2 o' o0 o1
  · rw [(pA_ne 69 (by decide)).2]
    exact a3 o' f' o0 o1 hf'
  · have f5 := okF4 hV hf'
    have hd : eD e (h.2.1 o') f' = 1 ∨ eD e (h.2.1 o') f' = 3 := hd
    have j1 : j < h.2.2.1 o' f' := j1
    have j2 := hW.c20 o0 o1 hf' hd
    rw [pA_if]
    show _ = if o' = o ∧ f' = f ∧ j = i then x else h.2.2.2 o' f' j
    by_cases q : o' = o ∧ f' = f ∧ j = i
    · rw [if_pos (by omega), if_pos q]
    · rw [if_neg (by omega), if_neg q]
      exact a4 o' f' j o0 o1 hf' hd j0 j1
/-- a list gets longer; what is in the new cell is what was there -/
theorem mH_A (g : mH S e h) (hV : EV e) (hW : EW e h) (ho : 0 ≤ o ∧ o < h.1) (hf : okF e (h.2.1 o) f) (hk : eD e (h.2.1 o) f = 3) : mH (pA S 69 (4 * (60 + o) + f) (h.2.2.1 o f + 1)) e (zA h o f (S.2 70 (20 * (4 * (60 + o) + f) + h.2.2.1 o f))) := by
  obtain ⟨a1, a2, a3, a4⟩ := g
  have f4 := okF4 hV hf
  refine ⟨by rw [(pA_ne 67 (by decide)).2]; exact a1, fun o' o0 o1 => ?_, fun o' f' o0 o1 hf' => ?_, fun o' f' j o0 o1 hf' hd j0 j1 => ?_⟩
  · rw [(pA_ne 68 (by decide)).2]
    exact a2 o' o0 o1
  · have f5 := okF4 hV hf'
    rw [pA_if]
    show _ = if o' = o ∧ f' = f then h.2.2.1 o f + 1 else h.2.2.1 o' f'
    by_cases q : o' = o ∧ f' = f
    · rw [if_pos (by omega), if_pos q]
    · rw [if_neg (by omega), if_neg q]
      exact a3 o' f' o0 o1 hf'
  · have hd : eD e (h.2.1 o') f' = 1 ∨ eD e (h.2.1 o') f' = 3 := hd
    have j1 : j < if o' = o ∧ f' = f then h.2.2.1 o f + 1 else h.2.2.1 o' f' := j1
    rw [(pA_ne 70 (by decide)).2]
    show _ = if o' = o ∧ f' = f ∧ j = h.2.2.1 o f then S.2 70 (20 * (4 * (60 + o) + f) + h.2.2.1 o f) else h.2.2.2 o' f' j
    by_cases q : o' = o ∧ f' = f ∧ j = h.2.2.1 o f
    · rw [if_pos q, q.1, q.2.1, q.2.2]
    · rw [if_neg q]
      refine a4 o' f' j o0 o1 hf' hd j0 ?_
      by_cases w : o' = o ∧ f' = f
      · rw [if_pos w] at j1
        rw [w.1, w.2]
        omega
      · rw [if_neg w] at j1
        exact j1
theorem mH_T (g : mH S e h) (hV : EV e) (hW : EW e h) (hf : okF e (h.2.1 o) f) (hk : eD e (h.2.1 o) f = 1) (h20 : L.length ≤ 20) (t1 : ∀ a, a = 67 ∨ a = 68 → S'.2 a = S.2 a) (t4 : ∀ y, S'.2 69 y = if y = 4 * (60 + o) + f then (L.length : Int) else S.2 69 y) (t5 : ∀ y, S'.2 70 y = if 20 * (4 * (60 + o) + f) ≤ y ∧ y < 20 * (4 * (60 + o) + f) + L.length then L.getD (y - 20 * (4 * (60 + o) + f)).toNat 0 else S.2 70 y) : mH S' e (zT h o f L) := by
  obtain ⟨a1, a2, a3, a4⟩ := g
  have f4 := okF4 hV hf
  refine ⟨by rw [t1 67 (Or.inl rfl)]; exact a1, fun o' o0 o1 => ?_, fun o' f' o0 o1 hf' => ?_, fun o' f' j o0 o1 hf' hd j0 j1 => ?_⟩
  · rw [t1 68 (Or.inr rfl)]
    exact a2 o' o0 o1
  · have f5 := okF4 hV hf'
    rw [t4]
    show _ = if o' = o ∧ f' = f then (L.length : Int) else h.2.2.1 o' f'
    by_cases q : o' = o ∧ f' = f
    · rw [if_pos (by omega), if_pos q]
    · rw [if_neg (by omega), if_neg q]
      exact a3 o' f' o0 o1 hf'
  · have f5 := okF4 hV hf'
    have hd : eD e (h.2.1 o') f' = 1 ∨ eD e (h.2.1 o') f' = 3 := hd
    have j1 : j < if o' = o ∧ f' = f then (L.length : Int) else h.2.2.1 o' f' := j1
    rw [t5]
    show _ = if o' = o ∧ f' = f ∧ 0 ≤ j ∧ j < L.length then L.getD j.toNat 0 else h.2.2.2 o' f' j
    by_cases q : o' = o ∧ f' = f
    · rw [if_pos q] at j1
      rw [if_pos (by omega), if_pos ⟨q.1, q.2, j0, j1⟩]
      congr 1
      omega
    · rw [if_neg q] at j1
      have j2 := hW.c20 o0 o1 hf' hd
      rw [if_neg (by omega), if_neg (fun w => q ⟨w.1, w.2.1⟩)]
      exact a4 o' f' j o0 o1 hf' hd j0 j1
/-- an object is made -/
def MbB (S T : St) (a N m : Int) : Prop := T.1 = S.1 ∧ (∀ b, b < 67 ∨ 69 < b → T.2 b = S.2 b) ∧ (∀ x, T.2 67 x = if x = 2 then N + 1 else S.2 67 x) ∧ (∀ x, T.2 68 x = if x = 60 + N then a else S.2 68 x) ∧ ∀ x, T.2 69 x = if 4 * (60 + N) ≤ x ∧ x < 4 * (60 + N) + m then (if S.2 59 (4 * a + (x - 4 * (60 + N))) = 2 then -2 else 0) else S.2 69 x
theorem MbB.nf (h : MbB S S' a d b) (h0 : 0 ≤ d) : NF S S' := by
  obtain ⟨t1, t2, t3, t4, t5⟩ := h
  refine ⟨fun a j _ => by rw [t1], fun b q _ => t2 b (by omega), fun j q => by rw [t3, if_neg q], fun j q => by rw [t4, if_neg (by omega)], fun j q => by rw [t5, if_neg (by omega)], fun j _ => by rw [t2 70 (by decide)]⟩
theorem mH_B (g : mH S e h) (hE : mE S e) (hV : EV e) (hN : 0 ≤ h.1) (hT : MbB S S' a h.1 4) : mH S' e (zB e h a) := by
  obtain ⟨a1, a2, a3, a4⟩ := g
  obtain ⟨-, t2, t3, t4, t5⟩ := hT
  refine ⟨by rw [t3, if_pos rfl]; rfl, fun o' o0 o1 => ?_, fun o' f' o0 o1 hf' => ?_, fun o' f' j o0 o1 hf' hd j0 j1 => ?_⟩
  · have o1 : o' < h.1 + 1 := o1
    rw [t4]
    show _ = if o' = h.1 then a else h.2.1 o'
    by_cases q : o' = h.1
    · rw [if_pos (by omega), if_pos q]
    · rw [if_neg (by omega), if_neg q]
      exact a2 o' o0 (by omega)
  · have o1 : o' < h.1 + 1 := o1
    have hf' : okF e (if o' = h.1 then a else h.2.1 o') f' := hf'
    have f5 := okF4 hV hf'
    rw [t5]
    show _ = if o' = h.1 then (if eD e a f' = 2 then -2 else 0) else h.2.2.1 o' f'
    by_cases q : o' = h.1
    · rw [if_pos q] at hf'
      rw [if_pos (by omega), if_pos q, show 4 * a + (4 * (60 + o') + f' - 4 * (60 + h.1)) = 4 * a + f' by omega, (hE.2.2.2.2.2.2.1 a f' hf').1]
    · rw [if_neg q] at hf'
      rw [if_neg (by omega), if_neg q]
      exact a3 o' f' o0 (by omega) hf'
  · have o1 : o' < h.1 + 1 := o1
    have hf' : okF e (if o' = h.1 then a else h.2.1 o') f' := hf'
    have hd : eD e (if o' = h.1 then a else h.2.1 o') f' = 1 ∨ eD e (if o' = h.1 then a else h.2.1 o') f' = 3 := hd
    have j1 : j < if o' = h.1 then (if eD e a f' = 2 then -2 else 0) else h.2.2.1 o' f' := j1
    by_cases q : o' = h.1
    · rw [if_pos q] at j1 hd
      rw [if_neg (by omega)] at j1
      omega
    · rw [if_neg q] at j1 hd hf'
      rw [t2 70 (by decide)]
      exact a4 o' f' j o0 (by omega) hf' hd j0 j1
theorem n_obj (g : mH S e h) (hV : EV e) (hW : EW e h) (ha : okC e a) (hN : h.1 < 30) (hK : ∀ T, MbB S T a h.1 4 → K (60 + h.1) T) : wX11_object 2 a S K := by
  have h67 := g.1
  have h30 := hW.1
  have h6 := hV.2.1
  have a0 := ha.1
  have a1 := ha.2
  unfold wX11_object
  intro _ _
  rw [h67]
  refine ⟨by decide, by decide, fun _ x3 e3 => ⟨by decide, by decide, fun _ => ⟨by decide, by decide, ⟨by omega, by omega⟩, fun S7 e7 => ⟨by omega, by omega, ⟨by omega, by omega⟩, fun S10 e10 => ?_⟩⟩⟩⟩
  have e3 : x3 = 60 + h.1 := by omega
  refine ⟨fun l2 l3 l4 T => l2 = a ∧ l3 = 60 + h.1 ∧ 0 ≤ l4 ∧ l4 ≤ 4 ∧ MbB S T a h.1 l4, fun l2 l3 l4 T => (4 - l4).toNat, ⟨rfl, e3, by decide, by decide, ?_⟩, ?_⟩
  · rw [e10, e7, e3]
    refine ⟨rfl, fun b q => ?_, fun y => ?_, fun y => ?_, fun y => ?_⟩
    · rw [(pA_ne b (by omega)).2, (pA_ne b (by omega)).2]
    · rw [(pA_ne 67 (by decide)).2, pA_if]
    · rw [pA_if, (pA_ne 68 (by decide)).2]
    · rw [(pA_ne 69 (by decide)).2, (pA_ne 69 (by decide)).2, if_neg (by omega)]
  · rintro l2 l3 l4 T ⟨rfl, rfl, i0, i1, b1, b2, b3, b4, b5⟩
    refine ⟨⟨by omega, by omega⟩, fun q => ?_, fun q => ⟨by omega, by omega, fun _ => ?_⟩⟩
    · rw [show l4 = 4 by omega] at b5
      exact hK T ⟨b1, b2, b3, b4, b5⟩
    · have e59 : T.2 59 (4 * l2 + l4) = S.2 59 (4 * l2 + l4) := by rw [b2 59 (by decide)]
      rw [e59]
      have fin : ∀ s0, (s0 = if S.2 59 (4 * l2 + l4) = 2 then -2 else 0) → iv (-2) 0 s0 → wX11_object_81 l2 (60 + h.1) l4 s0 (4 * (60 + h.1) + l4) T K (fun ml2 ml3 ml4 T1 => (ml2 = l2 ∧ ml3 = 60 + h.1 ∧ 0 ≤ ml4 ∧ ml4 ≤ 4 ∧ MbB S T1 l2 h.1 ml4) ∧ (4 - ml4).toNat < (4 - l4).toNat) := fun s0 hs hi => by
        unfold wX11_object_81
        refine ⟨by omega, by omega, ⟨by omega, by omega⟩, fun S2 e2 => ⟨⟨rfl, rfl, by omega, by omega, ?_, fun b z => ?_, fun y => ?_, fun y => ?_, fun y => ?_⟩, by omega⟩⟩
        · rw [e2]
          exact b1
        · rw [e2, (pA_ne b (by omega)).2]
          exact b2 b z
        · rw [e2, (pA_ne 67 (by decide)).2]
          exact b3 y
        · rw [e2, (pA_ne 68 (by decide)).2]
          exact b4 y
        · rw [e2, pA_if, b5 y]
          by_cases hy : y = 4 * (60 + h.1) + l4
          · rw [if_pos hy, if_pos (by omega), hs, show y - 4 * (60 + h.1) = l4 by omega]
          · rw [if_neg hy]
            by_cases hz : 4 * (60 + h.1) ≤ y ∧ y < 4 * (60 + h.1) + l4
            · rw [if_pos hz]
              exact (if_pos (by omega)).symm
            · rw [if_neg hz, if_neg (by omega)]
      unfold wX11_object_58
      refine ⟨fun z => ⟨⟨by decide, by decide⟩, fun _ => fin 0 (by rw [if_neg z]) ⟨by decide, by decide⟩, fun w => absurd rfl w⟩, fun z => ⟨⟨by decide, by decide⟩, fun w => absurd w (by decide), fun _ => fin (-2) (by rw [if_pos (Classical.not_not.mp z)]) ⟨by decide, by decide⟩⟩⟩
/-- the piece that is looked at -/
def pcs (S : St) (L : List Int) : Prop := S.1 54 67 = L.length ∧ ∀ d : Nat, d < L.length → S.2 104 (d : Int) = L.getD d 0
theorem n_pcT (hC : CNm T n X S) (x0 : 0 ≤ x) (x1 : x < X.1.length) (hK : ∀ S', (∀ a, ¬ a = 104 → S'.2 a = S.2 a) → (∀ a j, ¬ (a = 54 ∧ j = 67) → S'.1 a j = S.1 a j) → pcs S' (txE X x) → K 0 S') : wX11_pieceOfText x S K := by
  have l := hC.len
  unfold wX11_pieceOfText
  intro _ S1 e1
  refine ⟨fun l1 l2 S' => l1 = x ∧ 0 ≤ l2 ∧ l2 ≤ X.2.2.length ∧ (∀ a, ¬ a = 104 → S'.2 a = S.2 a) ∧ (∀ a j, ¬ (a = 54 ∧ j = 67) → S'.1 a j = S.1 a j) ∧ pcs S' (((X.2.2.take l2.toNat).filter (fun u => decide (u.2 = x))).map (fun u => u.1)), fun l1 l2 S' => ((X.2.2.length : Int) - l2).toNat, ⟨rfl, by decide, by omega, fun a _ => by rw [e1]; rfl, fun a j q => by rw [e1]; exact pI_j q, by rw [e1]; exact pI_v, fun d hd => absurd hd (Nat.not_lt_zero _)⟩, ?_⟩
  rintro l1 l2 S' ⟨rfl, h0, h1, q1, q2, q3, q4⟩
  have hC' : S'.1 54 56 = X.2.2.length := (q2 54 56 (by decide)).trans l.2.2.2.2.2.2.2
  intro _
  rw [hC']
  refine ⟨⟨by omega, by omega⟩, fun q => ?_, fun q => ⟨h0, by omega, fun _ => ?_⟩⟩
  · rw [List.take_of_length_le (by omega)] at q3 q4
    exact hK S' q1 q2 ⟨q3, q4⟩
  · obtain ⟨e96, e97, hsn⟩ := cn_v hC h0 (show l2 < X.2.2.length by omega)
    have e1' := sgV_at (X := X) h0 (show l2 < X.2.2.length by omega)
    have sn := flt_snoc (V := X.2.2) (k := l2.toNat) (P := fun u => decide (u.2 = l1)) (by omega)
    have f96 : S'.2 96 l2 = sgV X l2 := by rw [q1 96 (by decide)]; exact e96
    have f97 : S'.2 97 l2 = (X.2.2.getD l2.toNat (0, 0)).2 := by rw [q1 97 (by decide)]; exact e97
    have lb : ((((X.2.2.take l2.toNat).filter (fun u => decide (u.2 = l1))).map (fun u => u.1)).length : Int) ≤ l2 := by
      rw [List.length_map]
      have a1 := List.length_filter_le (fun u : Int × Int => decide (u.2 = l1)) (X.2.2.take l2.toNat)
      have a2 := List.length_take_le l2.toNat X.2.2
      omega
    rw [f97]
    unfold wX11_pieceOfText_50
    refine ⟨⟨by omega, by omega⟩, fun w => ⟨⟨rfl, by omega, by omega, q1, q2, ?_⟩, ?_⟩, fun w _ => ⟨h0, by omega, fun _ => ?_⟩⟩
    · rw [show (l2 + 1).toNat = l2.toNat + 1 by omega, sn, if_neg (by rw [decide_eq_true_eq]; exact w), List.append_nil]
      exact ⟨q3, q4⟩
    · show ((X.2.2.length : Int) - (l2 + 1)).toNat < ((X.2.2.length : Int) - l2).toNat
      omega
    · rw [q3, f96]
      refine ⟨by omega, by omega, fun S12 e12 _ => ?_⟩
      have f67 : S12.1 54 67 = ((((X.2.2.take l2.toNat).filter (fun u => decide (u.2 = l1))).map (fun u => u.1)).length : Int) := by
        rw [e12]
        exact q3
      rw [f67]
      refine ⟨⟨by omega, by omega⟩, fun S14 e14 => ⟨⟨rfl, by omega, by omega, fun a ha => ?_, fun a j hj => ?_, ?_, fun d hd => ?_⟩, ?_⟩⟩
      · rw [e14]
        show S12.2 a = _
        rw [e12, (pA_ne a ha).2]
        exact q1 a ha
      · rw [e14, pI_j hj, e12]
        exact q2 a j hj
      · rw [e14, pI_v, show (l2 + 1).toNat = l2.toNat + 1 by omega, sn, if_pos (decide_eq_true (Classical.not_not.mp w)), List.map_append, List.length_append]
        rfl
      · rw [show (l2 + 1).toNat = l2.toNat + 1 by omega, sn, if_pos (decide_eq_true (Classical.not_not.mp w)), List.map_append] at hd ⊢
        rw [List.length_append] at hd
        rw [e14]
        show S12.2 104 _ = _
        rw [e12, pA_if]
        by_cases qd : d < (((X.2.2.take l2.toNat).filter (fun u => decide (u.2 = l1))).map (fun u => u.1)).length
        · rw [if_neg (by omega), gD_a qd]
          exact q4 d qd
        · have hd1 : d < (((X.2.2.take l2.toNat).filter (fun u => decide (u.2 = l1))).map (fun u => u.1)).length + 1 := hd
          rw [if_pos (by omega), gD_b (by omega), show d - (((X.2.2.take l2.toNat).filter (fun u => decide (u.2 = l1))).map (fun u => u.1)).length = 0 by omega, e1']
          rfl
      · show ((X.2.2.length : Int) - (l2 + 1)).toNat < ((X.2.2.length : Int) - l2).toNat
        omega
theorem n_pcV (hC : CNm T n X S) (a0 : 0 ≤ a) (a1 : a < X.2.1.length) (hK : ∀ S', (∀ a, ¬ a = 104 → S'.2 a = S.2 a) → (∀ a j, ¬ (a = 54 ∧ j = 67) → S'.1 a j = S.1 a j) → pcs S' (vlA X a) → K 0 S') : wX11_pieceOfValue a S K := by
  have l := hC.len
  obtain ⟨⟨-, -, e94, e95⟩, -, -, -, k1, k2, k3⟩ := cn_a hC a0 a1
  unfold wX11_pieceOfValue
  refine fun _ => ⟨a0, by omega, fun _ S3 e3 => ?_⟩
  rw [e95] at e3
  refine ⟨fun l1 l2 S' => l1 = a ∧ 0 ≤ l2 ∧ l2 ≤ (gAt X a).2.2.2 - (gAt X a).2.2.1 ∧ (∀ a, ¬ a = 104 → S'.2 a = S.2 a) ∧ S'.1 = S3.1 ∧ ∀ d : Int, 0 ≤ d → d < l2 → S'.2 104 d = sgV X ((gAt X a).2.2.1 + d), fun l1 l2 S' => ((gAt X a).2.2.2 - (gAt X a).2.2.1 - l2).toNat, ⟨rfl, by decide, by omega, fun b _ => by rw [e3]; rfl, rfl, fun d d0 d1 => by omega⟩, ?_⟩
  rintro l1 l2 S' ⟨rfl, h0, h1, q1, q2, q3⟩
  have f67 : S'.1 54 67 = (gAt X l1).2.2.2 - (gAt X l1).2.2.1 := by
    rw [q2, e3]
    exact pI_v
  have f94 : S'.2 94 l1 = (gAt X l1).2.2.1 := by
    rw [q1 94 (by decide)]
    exact e94
  intro _
  rw [f67]
  refine ⟨⟨by omega, by omega⟩, fun q => hK S' q1 (fun a j hj => ?_) ⟨?_, fun d hd => ?_⟩, fun q => ⟨a0, by omega, fun _ => ?_⟩⟩
  · rw [q2, e3]
    exact pI_j hj
  · rw [f67]
    unfold vlA
    rw [sbT_len]
    omega
  · unfold vlA at hd ⊢
    rw [sbT_len] at hd
    rw [sbT_get hd]
    exact q3 d (by omega) (by omega)
  · rw [f94]
    obtain ⟨e96, -, -⟩ := cn_v hC (show 0 ≤ (gAt X l1).2.2.1 + l2 by omega) (by omega)
    refine ⟨by omega, by omega, fun _ => ⟨h0, by omega, fun S9 e9 => ⟨⟨rfl, by omega, by omega, fun b hb => ?_, ?_, fun d d0 d1 => ?_⟩, ?_⟩⟩⟩
    · rw [e9, (pA_ne b hb).2]
      exact q1 b hb
    · rw [e9]
      exact q2
    · rw [e9, pA_if]
      by_cases qd : d = l2
      · rw [if_pos qd, q1 96 (by decide), e96, qd]
      · rw [if_neg qd]
        exact q3 d d0 (by omega)
    · show ((gAt X l1).2.2.2 - (gAt X l1).2.2.1 - (l2 + 1)).toNat < ((gAt X l1).2.2.2 - (gAt X l1).2.2.1 - l2).toNat
      omega
end NH

