/-! WHAT ELEMENTS MEAN: the class's heap that is read into (cells 50 to 53) -/
def cH (S : St) (e : Env) (h : Hs) : Prop := S.1 50 3 = h.1 ∧ (∀ o, 0 ≤ o → o < h.1 → S.2 51 o = h.2.1 o) ∧ (∀ o f, 0 ≤ o → o < h.1 → okF e (h.2.1 o) f → S.2 52 (o * 4 + f) = h.2.2.1 o f) ∧ ∀ o f i, 0 ≤ o → o < h.1 → okF e (h.2.1 o) f → (eD e (h.2.1 o) f = 1 ∨ eD e (h.2.1 o) f = 3) → 0 ≤ i → i < h.2.2.1 o f → S.2 53 ((o * 4 + f) * 20 + i) = h.2.2.2 o f i
def EH (e : Env) (h : Hs) : Prop := iv 0 30 h.1 ∧ (∀ o, 0 ≤ o → o < h.1 → okC e (h.2.1 o)) ∧ ∀ o f, 0 ≤ o → o < h.1 → okF e (h.2.1 o) f → rng (h.2.2.1 o f) ∧ (eD e (h.2.1 o) f = 1 → iv 0 20 (h.2.2.1 o f) ∧ ∀ i, 0 ≤ i → i < h.2.2.1 o f → iv 32 126 (h.2.2.2 o f i)) ∧ (eD e (h.2.1 o) f = 2 → h.2.2.1 o f = -2 ∨ (0 ≤ h.2.2.1 o f ∧ h.2.2.1 o f < h.1)) ∧ (eD e (h.2.1 o) f = 3 → iv 0 8 (h.2.2.1 o f) ∧ ∀ i, 0 ≤ i → i < h.2.2.1 o f → h.2.2.2 o f i = -2 ∨ (0 ≤ h.2.2.2 o f i ∧ h.2.2.2 o f i < h.1))
/-- only this heap changes -/
def HF (S S' : St) : Prop := (∀ a j, ¬ (a = 50 ∧ j = 3) → S'.1 a j = S.1 a j) ∧ ∀ a, (a < 51 ∨ 53 < a) → S'.2 a = S.2 a
theorem HF.rf {S : St} : HF S S := ⟨fun _ _ _ => rfl, fun _ _ => rfl⟩
theorem HF.tr {S S1 S2 : St} (h : HF S S1) (g : HF S1 S2) : HF S S2 := ⟨fun a j q => (g.1 a j q).trans (h.1 a j q), fun a q => (g.2 a q).trans (h.2 a q)⟩
theorem HF.mf {S S' : St} (h : HF S S') : MF S S' := ⟨fun a q => funext fun j => h.1 a j (fun z => q z.1), fun a q _ => h.2 a q⟩
theorem HF.p52 {S : St} {i x : Int} : HF S (pA S 52 i x) := ⟨fun _ _ _ => rfl, fun a q => (pA_ne a (by omega)).2⟩
theorem HF.p53 {S : St} {i x : Int} : HF S (pA S 53 i x) := ⟨fun _ _ _ => rfl, fun a q => (pA_ne a (by omega)).2⟩
section HV
variable {e : Env} {h : Hs} {o f x i c : Int} {L : List Int}
theorem okF4 (hV : EV e) (hf : okF e c f) : 0 ≤ f ∧ f < 4 := by
  have := hV.2.2.2.1 c hf.1
  have h1 := hf.2
  omega
theorem EH_V (hH : EH e h) (ho : 0 ≤ o ∧ o < h.1) (hk : (eD e (h.2.1 o) f = 0 ∧ rng x) ∨ (eD e (h.2.1 o) f = 2 ∧ 0 ≤ x ∧ x < h.1)) : EH e (zV h o f x) := by
  obtain ⟨a1, a2, a3⟩ := hH
  refine ⟨a1, a2, fun o' f' o0 o1 hf => ?_⟩
  show rng (if o' = o ∧ f' = f then x else h.2.2.1 o' f') ∧ (eD e (h.2.1 o') f' = 1 → iv 0 20 (if o' = o ∧ f' = f then x else h.2.2.1 o' f') ∧ ∀ i, 0 ≤ i → i < (if o' = o ∧ f' = f then x else h.2.2.1 o' f') → iv 32 126 (h.2.2.2 o' f' i)) ∧ (eD e (h.2.1 o') f' = 2 → (if o' = o ∧ f' = f then x else h.2.2.1 o' f') = -2 ∨ (0 ≤ (if o' = o ∧ f' = f then x else h.2.2.1 o' f') ∧ (if o' = o ∧ f' = f then x else h.2.2.1 o' f') < h.1)) ∧ (eD e (h.2.1 o') f' = 3 → iv 0 8 (if o' = o ∧ f' = f then x else h.2.2.1 o' f') ∧ ∀ i, 0 ≤ i → i < (if o' = o ∧ f' = f then x else h.2.2.1 o' f') → h.2.2.2 o' f' i = -2 ∨ (0 ≤ h.2.2.2 o' f' i ∧ h.2.2.2 o' f' i < h.1))
  by_cases q : o' = o ∧ f' = f
  · rw [if_pos q, q.1, q.2]
    rcases hk with ⟨k1, k2⟩ | ⟨k1, k2, k3⟩
    · exact ⟨k2, fun z => absurd z (by omega), fun z => absurd z (by omega), fun z => absurd z (by omega)⟩
    · exact ⟨⟨by omega, by omega⟩, fun z => absurd z (by omega), fun _ => Or.inr ⟨k2, k3⟩, fun z => absurd z (by omega)⟩
  · rw [if_neg q]
    exact a3 o' f' o0 o1 hf
theorem EH_C (hH : EH e h) (hk : eD e (h.2.1 o) f = 3) (hx : x = -2 ∨ (0 ≤ x ∧ x < h.1)) : EH e (zC h o f i x) := by
  obtain ⟨a1, a2, a3⟩ := hH
  refine ⟨a1, a2, fun o' f' o0 o1 hf => ?_⟩
  obtain ⟨b1, b2, b3, b4⟩ := a3 o' f' o0 o1 hf
  refine ⟨b1, fun z => ⟨(b2 z).1, fun j j0 j1 => ?_⟩, b3, fun z => ⟨(b4 z).1, fun j j0 j1 => ?_⟩⟩
  · show iv 32 126 (if o' = o ∧ f' = f ∧ j = i then x else h.2.2.2 o' f' j)
    have z' : eD e (h.2.1 o') f' = 1 := z
    rw [if_neg (fun w => by rw [w.1, w.2.1] at z'; omega)]
    exact (b2 z).2 j j0 j1
  · show (if o' = o ∧ f' = f ∧ j = i then x else h.2.2.2 o' f' j) = -2 ∨ (0 ≤ (if o' = o ∧ f' = f ∧ j = i then x else h.2.2.2 o' f' j) ∧ (if o' = o ∧ f' = f ∧ j = i then x else h.2.2.2 o' f' j) < h.1)
    by_cases w : o' = o ∧ f' = f ∧ j = i
    · rw [if_pos w]
      exact hx
    · rw [if_neg w]
      exact (b4 z).2 j j0 j1
theorem EH_A (hH : EH e h) (ho : 0 ≤ o ∧ o < h.1) (hk : eD e (h.2.1 o) f = 3) (h8 : h.2.2.1 o f < 8) (hx : x = -2 ∨ (0 ≤ x ∧ x < h.1)) : EH e (zA h o f x) := by
  obtain ⟨a1, a2, a3⟩ := hH
  refine ⟨a1, a2, fun o' f' o0 o1 hf => ?_⟩
  obtain ⟨b1, b2, b3, b4⟩ := a3 o' f' o0 o1 hf
  show rng (if o' = o ∧ f' = f then h.2.2.1 o f + 1 else h.2.2.1 o' f') ∧ (eD e (h.2.1 o') f' = 1 → iv 0 20 (if o' = o ∧ f' = f then h.2.2.1 o f + 1 else h.2.2.1 o' f') ∧ ∀ i, 0 ≤ i → i < (if o' = o ∧ f' = f then h.2.2.1 o f + 1 else h.2.2.1 o' f') → iv 32 126 (if o' = o ∧ f' = f ∧ i = h.2.2.1 o f then x else h.2.2.2 o' f' i)) ∧ (eD e (h.2.1 o') f' = 2 → (if o' = o ∧ f' = f then h.2.2.1 o f + 1 else h.2.2.1 o' f') = -2 ∨ (0 ≤ (if o' = o ∧ f' = f then h.2.2.1 o f + 1 else h.2.2.1 o' f') ∧ (if o' = o ∧ f' = f then h.2.2.1 o f + 1 else h.2.2.1 o' f') < h.1)) ∧ (eD e (h.2.1 o') f' = 3 → iv 0 8 (if o' = o ∧ f' = f then h.2.2.1 o f + 1 else h.2.2.1 o' f') ∧ ∀ i, 0 ≤ i → i < (if o' = o ∧ f' = f then h.2.2.1 o f + 1 else h.2.2.1 o' f') → (if o' = o ∧ f' = f ∧ i = h.2.2.1 o f then x else h.2.2.2 o' f' i) = -2 ∨ (0 ≤ (if o' = o ∧ f' = f ∧ i = h.2.2.1 o f then x else h.2.2.2 o' f' i) ∧ (if o' = o ∧ f' = f ∧ i = h.2.2.1 o f then x else h.2.2.2 o' f' i) < h.1))
  by_cases q : o' = o ∧ f' = f
  · rw [if_pos q]
    rw [q.1, q.2] at b4 ⊢
    obtain ⟨c1, c2⟩ := b4 hk
    refine ⟨⟨by omega, by omega⟩, fun z => absurd z (by omega), fun z => absurd z (by omega), fun _ => ⟨⟨by omega, by omega⟩, fun i i0 i1 => ?_⟩⟩
    by_cases w : i = h.2.2.1 o f
    · rw [if_pos ⟨rfl, rfl, w⟩]
      exact hx
    · rw [if_neg (fun z => w z.2.2)]
      exact c2 i i0 (by omega)
  · rw [if_neg q]
    refine ⟨b1, fun z => ⟨(b2 z).1, fun i i0 i1 => ?_⟩, b3, fun z => ⟨(b4 z).1, fun i i0 i1 => ?_⟩⟩
    · rw [if_neg (fun w => q ⟨w.1, w.2.1⟩)]
      exact (b2 z).2 i i0 i1
    · rw [if_neg (fun w => q ⟨w.1, w.2.1⟩)]
      exact (b4 z).2 i i0 i1
theorem EH_T (hH : EH e h) (hk : eD e (h.2.1 o) f = 1) (hl : L.length ≤ 20) (hL : ∀ u ∈ L, iv 32 126 u) : EH e (zT h o f L) := by
  obtain ⟨a1, a2, a3⟩ := hH
  refine ⟨a1, a2, fun o' f' o0 o1 hf => ?_⟩
  obtain ⟨b1, b2, b3, b4⟩ := a3 o' f' o0 o1 hf
  show rng (if o' = o ∧ f' = f then (L.length : Int) else h.2.2.1 o' f') ∧ (eD e (h.2.1 o') f' = 1 → iv 0 20 (if o' = o ∧ f' = f then (L.length : Int) else h.2.2.1 o' f') ∧ ∀ i, 0 ≤ i → i < (if o' = o ∧ f' = f then (L.length : Int) else h.2.2.1 o' f') → iv 32 126 (if o' = o ∧ f' = f ∧ 0 ≤ i ∧ i < L.length then L.getD i.toNat 0 else h.2.2.2 o' f' i)) ∧ (eD e (h.2.1 o') f' = 2 → (if o' = o ∧ f' = f then (L.length : Int) else h.2.2.1 o' f') = -2 ∨ (0 ≤ (if o' = o ∧ f' = f then (L.length : Int) else h.2.2.1 o' f') ∧ (if o' = o ∧ f' = f then (L.length : Int) else h.2.2.1 o' f') < h.1)) ∧ (eD e (h.2.1 o') f' = 3 → iv 0 8 (if o' = o ∧ f' = f then (L.length : Int) else h.2.2.1 o' f') ∧ ∀ i, 0 ≤ i → i < (if o' = o ∧ f' = f then (L.length : Int) else h.2.2.1 o' f') → (if o' = o ∧ f' = f ∧ 0 ≤ i ∧ i < L.length then L.getD i.toNat 0 else h.2.2.2 o' f' i) = -2 ∨ (0 ≤ (if o' = o ∧ f' = f ∧ 0 ≤ i ∧ i < L.length then L.getD i.toNat 0 else h.2.2.2 o' f' i) ∧ (if o' = o ∧ f' = f ∧ 0 ≤ i ∧ i < L.length then L.getD i.toNat 0 else h.2.2.2 o' f' i) < h.1))
  by_cases q : o' = o ∧ f' = f
  · rw [if_pos q]
    rw [q.1, q.2]
    refine ⟨⟨by omega, by omega⟩, fun _ => ⟨⟨by omega, by omega⟩, fun i i0 i1 => ?_⟩, fun z => absurd z (by omega), fun z => absurd z (by omega)⟩
    rw [if_pos ⟨rfl, rfl, i0, i1⟩]
    refine hL _ ?_
    rw [List.getD_eq_getElem?_getD, List.getElem?_eq_getElem (show i.toNat < L.length by omega)]
    exact List.getElem_mem _
  · rw [if_neg q]
    refine ⟨b1, fun z => ⟨(b2 z).1, fun i i0 i1 => ?_⟩, b3, fun z => ⟨(b4 z).1, fun i i0 i1 => ?_⟩⟩
    · rw [if_neg (fun w => q ⟨w.1, w.2.1⟩)]
      exact (b2 z).2 i i0 i1
    · rw [if_neg (fun w => q ⟨w.1, w.2.1⟩)]
      exact (b4 z).2 i i0 i1
theorem EH_B (hH : EH e h) (hN : h.1 < 30) (hc : okC e c) : EH e (zB e h c) := by
  obtain ⟨a1, a2, a3⟩ := hH
  have e1 : (zB e h c).1 = h.1 + 1 := rfl
  refine ⟨⟨by rw [e1]; omega, by rw [e1]; omega⟩, fun o' o0 o1 => ?_, fun o' f' o0 o1 hf => ?_⟩
  · show okC e (if o' = h.1 then c else h.2.1 o')
    by_cases q : o' = h.1
    · rw [if_pos q]
      exact hc
    · rw [if_neg q]
      exact a2 o' o0 (by omega)
  · have hf : okF e (if o' = h.1 then c else h.2.1 o') f' := hf
    show rng (if o' = h.1 then (if eD e c f' = 2 then -2 else 0) else h.2.2.1 o' f') ∧ (eD e (if o' = h.1 then c else h.2.1 o') f' = 1 → iv 0 20 (if o' = h.1 then (if eD e c f' = 2 then -2 else 0) else h.2.2.1 o' f') ∧ ∀ i, 0 ≤ i → i < (if o' = h.1 then (if eD e c f' = 2 then -2 else 0) else h.2.2.1 o' f') → iv 32 126 (h.2.2.2 o' f' i)) ∧ (eD e (if o' = h.1 then c else h.2.1 o') f' = 2 → (if o' = h.1 then (if eD e c f' = 2 then -2 else 0) else h.2.2.1 o' f') = -2 ∨ (0 ≤ (if o' = h.1 then (if eD e c f' = 2 then -2 else 0) else h.2.2.1 o' f') ∧ (if o' = h.1 then (if eD e c f' = 2 then -2 else 0) else h.2.2.1 o' f') < h.1 + 1)) ∧ (eD e (if o' = h.1 then c else h.2.1 o') f' = 3 → iv 0 8 (if o' = h.1 then (if eD e c f' = 2 then -2 else 0) else h.2.2.1 o' f') ∧ ∀ i, 0 ≤ i → i < (if o' = h.1 then (if eD e c f' = 2 then -2 else 0) else h.2.2.1 o' f') → h.2.2.2 o' f' i = -2 ∨ (0 ≤ h.2.2.2 o' f' i ∧ h.2.2.2 o' f' i < h.1 + 1))
    by_cases q : o' = h.1
    · rw [if_pos q, if_pos q]
      by_cases w : eD e c f' = 2
      · rw [if_pos w]
        exact ⟨⟨by decide, by decide⟩, fun z => absurd z (by omega), fun _ => Or.inl rfl, fun z => absurd z (by omega)⟩
      · rw [if_neg w]
        exact ⟨⟨by decide, by decide⟩, fun _ => ⟨⟨by decide, by decide⟩, fun i i0 i1 => by omega⟩, fun z => absurd z w, fun _ => ⟨⟨by decide, by decide⟩, fun i i0 i1 => by omega⟩⟩
    · rw [if_neg q, if_neg q]
      rw [if_neg q] at hf
      rw [e1] at o1
      obtain ⟨b1, b2, b3, b4⟩ := a3 o' f' o0 (by omega) hf
      refine ⟨b1, b2, fun z => ?_, fun z => ⟨(b4 z).1, fun i i0 i1 => ?_⟩⟩
      · rcases b3 z with w | w
        · exact Or.inl w
        · exact Or.inr ⟨w.1, by omega⟩
      · rcases (b4 z).2 i i0 i1 with w | w
        · exact Or.inl w
        · exact Or.inr ⟨w.1, by omega⟩
end HV
section HC2
variable {S S' : St} {K : Int → St → Prop} {e : Env} {h : Hs} {o f x i a b : Int} {L : List Int}
theorem cH.tb (g : cH S e h) (e1 : S'.1 50 3 = S.1 50 3) (e2 : ∀ a, 51 ≤ a → a ≤ 53 → S'.2 a = S.2 a) : cH S' e h := by
  unfold cH at g ⊢
  rw [e1, e2 51 (by decide) (by decide), e2 52 (by decide) (by decide), e2 53 (by decide) (by decide)]
  exact g
theorem cH_V (g : cH S e h) (hV : EV e) (hf : okF e (h.2.1 o) f) (hk : eD e (h.2.1 o) f = 0 ∨ eD e (h.2.1 o) f = 2) : cH (pA S 52 (o * 4 + f) x) e (zV h o f x) := by
  obtain ⟨a1, a2, a3, a4⟩ := g
  have f4 := okF4 hV hf
  refine ⟨a1, fun o' o0 o1 => ?_, fun o' f' o0 o1 hf' => ?_, fun o' f' i o0 o1 hf' hd i0 i1 => ?_⟩
  · rw [(pA_ne 51 (by decide)).2]
    exact a2 o' o0 o1
  · have f5 := okF4 hV hf'
    rw [pA_if]
    show _ = if o' = o ∧ f' = f then x else h.2.2.1 o' f'
    by_cases q : o' = o ∧ f' = f
    · rw [if_pos (by omega), if_pos q]
    · rw [if_neg (by omega), if_neg q]
      exact a3 o' f' o0 o1 hf'
  · have hd : eD e (h.2.1 o') f' = 1 ∨ eD e (h.2.1 o') f' = 3 := hd
    have q : ¬ (o' = o ∧ f' = f) := fun q => by
      rw [q.1, q.2] at hd
      omega
    have i1 : i < if o' = o ∧ f' = f then x else h.2.2.1 o' f' := i1
    rw [if_neg q] at i1
    rw [(pA_ne 53 (by decide)).2]
    exact a4 o' f' i o0 o1 hf' hd i0 i1
theorem cH_C (g : cH S e h) (hV : EV e) (hH : EH e h) (hf : okF e (h.2.1 o) f) (i0 : 0 ≤ i) (i1 : i < 20) : cH (pA S 53 ((o * 4 + f) * 20 + i) x) e (zC h o f i x) := by
  obtain ⟨a1, a2, a3, a4⟩ := g
  have f4 := okF4 hV hf
  refine ⟨a1, fun o' o0 o1 => ?_, fun o' f' o0 o1 hf' => ?_, fun o' f' j o0 o1 hf' hd j0 j1 => ?_⟩
  · rw [(pA_ne 51 (by decide)).2]
    exact a2 o' o0 o1
  · rw [(pA_ne 52 (by decide)).2]
    exact a3 o' f' o0 o1 hf'
  · have f5 := okF4 hV hf'
    have hd : eD e (h.2.1 o') f' = 1 ∨ eD e (h.2.1 o') f' = 3 := hd
    have j1 : j < h.2.2.1 o' f' := j1
    have j2 : j < 20 := by
      obtain ⟨-, b2, -, b4⟩ := hH.2.2 o' f' o0 o1 hf'
      rcases hd with z | z
      · have := (b2 z).1
        omega
      · have := (b4 z).1
        omega
    rw [pA_if]
    show _ = if o' = o ∧ f' = f ∧ j = i then x else h.2.2.2 o' f' j
    by_cases q : o' = o ∧ f' = f ∧ j = i
    · rw [if_pos (by omega), if_pos q]
    · rw [if_neg (by omega), if_neg q]
      exact a4 o' f' j o0 o1 hf' hd j0 j1
theorem cH_A (g : cH S e h) (hV : EV e) (hH : EH e h) (ho : 0 ≤ o ∧ o < h.1) (hf : okF e (h.2.1 o) f) (hk : eD e (h.2.1 o) f = 3) : cH (pA (pA S 52 (o * 4 + f) (h.2.2.1 o f + 1)) 53 ((o * 4 + f) * 20 + h.2.2.1 o f) x) e (zA h o f x) := by
  obtain ⟨a1, a2, a3, a4⟩ := g
  have f4 := okF4 hV hf
  have h8 := ((hH.2.2 o f ho.1 ho.2 hf).2.2.2 hk).1
  refine ⟨a1, fun o' o0 o1 => ?_, fun o' f' o0 o1 hf' => ?_, fun o' f' j o0 o1 hf' hd j0 j1 => ?_⟩
  · rw [(pA_ne 51 (by decide)).2, (pA_ne 51 (by decide)).2]
    exact a2 o' o0 o1
  · have f5 := okF4 hV hf'
    rw [(pA_ne 52 (by decide)).2, pA_if]
    show _ = if o' = o ∧ f' = f then h.2.2.1 o f + 1 else h.2.2.1 o' f'
    by_cases q : o' = o ∧ f' = f
    · rw [if_pos (by omega), if_pos q]
    · rw [if_neg (by omega), if_neg q]
      exact a3 o' f' o0 o1 hf'
  · have f5 := okF4 hV hf'
    have hd : eD e (h.2.1 o') f' = 1 ∨ eD e (h.2.1 o') f' = 3 := hd
    have j1 : j < if o' = o ∧ f' = f then h.2.2.1 o f + 1 else h.2.2.1 o' f' := j1
    have j2 : j < 20 := by
      by_cases q : o' = o ∧ f' = f
      · rw [if_pos q] at j1
        omega
      · rw [if_neg q] at j1
        obtain ⟨-, b2, -, b4⟩ := hH.2.2 o' f' o0 o1 hf'
        rcases hd with z | z
        · have := (b2 z).1
          omega
        · have := (b4 z).1
          omega
    rw [pA_if, (pA_ne 53 (by decide)).2]
    show _ = if o' = o ∧ f' = f ∧ j = h.2.2.1 o f then x else h.2.2.2 o' f' j
    by_cases q : o' = o ∧ f' = f ∧ j = h.2.2.1 o f
    · rw [if_pos (by omega), if_pos q]
    · rw [if_neg (by omega), if_neg q]
      refine a4 o' f' j o0 o1 hf' hd j0 ?_
      by_cases w : o' = o ∧ f' = f
      · rw [if_pos w] at j1
        rw [w.1, w.2]
        omega
      · rw [if_neg w] at j1
        exact j1
/-- a text is put; an object is born -/
def TtB (S T : St) (W : Int → Int) (x a n m : Int) : Prop := HF S T ∧ T.1 50 3 = S.1 50 3 ∧ T.2 51 = S.2 51 ∧ (∀ y, T.2 52 y = if y = x then n else S.2 52 y) ∧ ∀ y, T.2 53 y = if x * 20 ≤ y ∧ y < x * 20 + m then W (a + (y - x * 20)) else S.2 53 y
def BnB (S T : St) (a N m rf : Int) : Prop := HF S T ∧ (∀ x, T.2 51 x = if x = N then a else S.2 51 x) ∧ (∀ x, T.2 52 x = if N * 4 ≤ x ∧ x < N * 4 + m then (if bnd (bsr rf (x - N * 4)) 1 = 0 then 0 else -2) else S.2 52 x) ∧ T.2 53 = S.2 53
theorem cH_T {W : Int → Int} {l : Int} (g : cH S e h) (hV : EV e) (hH : EH e h) (hf : okF e (h.2.1 o) f) (hk : eD e (h.2.1 o) f = 1) (hl : sbT W a b = L) (hb : b - a = l) (h0 : 0 ≤ l) (h20 : l ≤ 20) (hT : TtB S S' W (o * 4 + f) a l l) : cH S' e (zT h o f L) := by
  obtain ⟨a1, a2, a3, a4⟩ := g
  obtain ⟨-, t2, t3, t4, t5⟩ := hT
  have f4 := okF4 hV hf
  have hlen : (L.length : Int) = l := by
    rw [← hl, sbT_len]
    omega
  refine ⟨t2.trans a1, fun o' o0 o1 => ?_, fun o' f' o0 o1 hf' => ?_, fun o' f' j o0 o1 hf' hd j0 j1 => ?_⟩
  · rw [t3]
    exact a2 o' o0 o1
  · have f5 := okF4 hV hf'
    rw [t4]
    show _ = if o' = o ∧ f' = f then (L.length : Int) else h.2.2.1 o' f'
    by_cases q : o' = o ∧ f' = f
    · rw [if_pos (by omega), if_pos q, hlen]
    · rw [if_neg (by omega), if_neg q]
      exact a3 o' f' o0 o1 hf'
  · have f5 := okF4 hV hf'
    have hd : eD e (h.2.1 o') f' = 1 ∨ eD e (h.2.1 o') f' = 3 := hd
    have j1 : j < if o' = o ∧ f' = f then (L.length : Int) else h.2.2.1 o' f' := j1
    rw [t5]
    show _ = if o' = o ∧ f' = f ∧ 0 ≤ j ∧ j < L.length then L.getD j.toNat 0 else h.2.2.2 o' f' j
    by_cases q : o' = o ∧ f' = f
    · rw [if_pos q] at j1
      rw [if_pos (by omega), if_pos ⟨q.1, q.2, j0, j1⟩, ← hl, sbT_get (by omega)]
      congr 1
      omega
    · rw [if_neg q] at j1
      have j2 : j < 20 := by
        obtain ⟨-, b2, -, b4⟩ := hH.2.2 o' f' o0 o1 hf'
        rcases hd with z | z
        · have := (b2 z).1
          omega
        · have := (b4 z).1
          omega
      rw [if_neg (by omega), if_neg (fun w => q ⟨w.1, w.2.1⟩)]
      exact a4 o' f' j o0 o1 hf' hd j0 j1
theorem cH_B (g : cH S e h) (hV : EV e) (hN : 0 ≤ h.1) (hB : RC S e a) (hT : BnB S S' a h.1 4 (S.2 31 a)) (h50 : S'.1 50 3 = h.1 + 1) : cH S' e (zB e h a) := by
  obtain ⟨a1, a2, a3, a4⟩ := g
  obtain ⟨-, t2, t3, t4⟩ := hT
  refine ⟨h50, fun o' o0 o1 => ?_, fun o' f' o0 o1 hf' => ?_, fun o' f' j o0 o1 hf' hd j0 j1 => ?_⟩
  · have o1 : o' < h.1 + 1 := o1
    rw [t2]
    show _ = if o' = h.1 then a else h.2.1 o'
    by_cases q : o' = h.1
    · rw [if_pos q, if_pos q]
    · rw [if_neg q, if_neg q]
      exact a2 o' o0 (by omega)
  · have o1 : o' < h.1 + 1 := o1
    have hf' : okF e (if o' = h.1 then a else h.2.1 o') f' := hf'
    have f5 := okF4 hV hf'
    rw [t3]
    show _ = if o' = h.1 then (if eD e a f' = 2 then -2 else 0) else h.2.2.1 o' f'
    by_cases q : o' = h.1
    · rw [if_pos q] at hf'
      rw [if_pos (by omega), if_pos q, show o' * 4 + f' - h.1 * 4 = f' by omega]
      have w := hB.2 f' f5.1 f5.2
      by_cases q2 : eD e a f' = 2
      · rw [if_neg (w.mpr ⟨hf'.2.2, q2⟩), if_pos q2]
      · rw [if_pos (Classical.not_not.mp (fun z => q2 (w.mp z).2)), if_neg q2]
    · rw [if_neg q] at hf'
      rw [if_neg (by omega), if_neg q]
      exact a3 o' f' o0 (by omega) hf'
  · have o1 : o' < h.1 + 1 := o1
    have hf' : okF e (if o' = h.1 then a else h.2.1 o') f' := hf'
    have hd : eD e (if o' = h.1 then a else h.2.1 o') f' = 1 ∨ eD e (if o' = h.1 then a else h.2.1 o') f' = 3 := hd
    have j1 : j < if o' = h.1 then (if eD e a f' = 2 then -2 else 0) else h.2.2.1 o' f' := j1
    by_cases q : o' = h.1
    · rw [if_pos q] at j1 hd
      rw [if_neg (by omega)] at j1
      omega
    · rw [if_neg q] at j1 hd hf'
      rw [t4]
      exact a4 o' f' j o0 (by omega) hf' hd j0 j1
theorem b_has (g : cH S e h) (hK : ∀ r, (r = 1 ∧ 0 ≤ o ∧ o < h.1) ∨ (r = 0 ∧ ¬ (0 ≤ o ∧ o < h.1)) → K r S) : wX1_has_b o S K := by
  unfold wX1_has_b
  intro _
  rw [g.1]
  exact ⟨fun z => hK 0 (Or.inr ⟨rfl, by omega⟩), fun z _ => ⟨fun z2 => hK 0 (Or.inr ⟨rfl, by omega⟩), fun z2 => hK 1 (Or.inl ⟨rfl, by omega, by omega⟩)⟩⟩
theorem b_cls (g : cH S e h) (hH : EH e h) (ho : 0 ≤ o ∧ o < h.1) (hK : K (h.2.1 o) S) : wX1_classOf_b o S K := by
  have h30 := hH.1
  unfold wX1_classOf_b
  refine fun _ => b_has g (fun r hr => ?_)
  rcases hr with ⟨rfl, -⟩ | ⟨-, z⟩
  · refine ⟨⟨by decide, by decide⟩, fun z => absurd z (by decide), fun _ => ⟨ho.1, by omega, fun _ => ?_⟩⟩
    rw [g.2.1 o ho.1 ho.2]
    exact hK
  · exact absurd ho z
theorem b_hasF (g : cH S e h) (ho : 0 ≤ o ∧ o < h.1) (hf : 0 ≤ f ∧ f < 4) (hK : K 1 S) : wX1_hasField_b o f S K := by
  unfold wX1_hasField_b
  intro _ _
  rw [g.1]
  exact ⟨fun z => absurd z (by omega), fun _ _ => ⟨fun z => absurd z (by omega), fun _ => ⟨fun z => absurd z (by omega), fun _ => ⟨fun z => absurd z (by omega), fun _ => hK⟩⟩⟩⟩
theorem b_putHead (g : cH S e h) (hH : EH e h) (ho : 0 ≤ o ∧ o < h.1) (hf : 0 ≤ f ∧ f < 4) (hx : rng x) (hK : K 0 (pA S 52 (o * 4 + f) x)) : wX1_putHead_b o f x S K := by
  have h30 := hH.1
  unfold wX1_putHead_b
  refine fun _ _ _ => b_hasF g ho hf ⟨⟨by decide, by decide⟩, fun z => absurd z (by decide), fun _ => ⟨by omega, by omega, ⟨by omega, by omega⟩, fun S6 e6 => ?_⟩⟩
  rw [e6]
  exact hK
theorem b_putCell (h1 : S.1 50 3 = h.1) (hH : EH e h) (ho : 0 ≤ o ∧ o < h.1) (hf : 0 ≤ f ∧ f < 4) (i0 : 0 ≤ i) (i1 : i < 20) (i2 : i < S.2 52 (o * 4 + f)) (hx : rng x) (hK : K 0 (pA S 53 ((o * 4 + f) * 20 + i) x)) : wX1_putCell_b o f i x S K := by
  have h30 := hH.1
  unfold wX1_putCell_b wX1_hasCell_b
  intro _ _ _ _ _ _ _
  rw [h1]
  refine ⟨fun h => absurd h (by omega), fun _ _ => ⟨fun h => absurd h (by omega), fun _ => ⟨fun h => absurd h (by omega), fun _ => ⟨fun h => absurd h (by omega), fun _ => ⟨fun h => absurd h (by omega), fun _ => ⟨fun h => absurd h (by omega), fun _ => ⟨by omega, by omega, fun _ => ⟨fun h => absurd h (by omega), fun _ => ⟨⟨by decide, by decide⟩, fun q => absurd q (by decide), fun _ => ⟨by omega, by omega, ⟨by omega, by omega⟩, fun S6 e6 => ?_⟩⟩⟩⟩⟩⟩⟩⟩⟩⟩
  rw [e6]
  exact hK
theorem b_append (g : cH S e h) (hV : EV e) (hH : EH e h) (ho : 0 ≤ o ∧ o < h.1) (hf : okF e (h.2.1 o) f) (hk : eD e (h.2.1 o) f = 3) (hx : rng x) (hK0 : ¬ h.2.2.1 o f < 8 → K (-1) S) (hK : h.2.2.1 o f < 8 → K (h.2.2.1 o f + 1) (pA (pA S 52 (o * 4 + f) (h.2.2.1 o f + 1)) 53 ((o * 4 + f) * 20 + h.2.2.1 o f) x)) : wX1_append_b o f x S K := by
  have f4 := okF4 hV hf
  have h30 := hH.1
  have h8 := ((hH.2.2 o f ho.1 ho.2 hf).2.2.2 hk).1
  have e52 := g.2.2.1 o f ho.1 ho.2 hf
  unfold wX1_append_b wX1_head_b
  refine fun _ _ _ _ _ => b_hasF g ho f4 ⟨⟨by decide, by decide⟩, fun z => absurd z (by decide), fun _ => ⟨by omega, by omega, fun _ => ?_⟩⟩
  rw [e52]
  refine ⟨⟨by omega, by omega⟩, fun z => ⟨⟨by omega, by omega⟩, b_putHead g hH ho f4 ⟨by omega, by omega⟩ (b_putCell g.1 hH ho f4 (by omega) (by omega) ?_ hx (hK z))⟩, hK0⟩
  rw [pA_if, if_pos rfl]
  omega
theorem b_born (g : cH S e h) (hH : EH e h) (ha : okC e a) (h6 : eC e ≤ 6) (hB : RC S e a) (hK0 : ¬ h.1 < 30 → K (-1) S) (hK : h.1 < 30 → ∀ T, BnB S T a h.1 4 (S.2 31 a) → T.1 50 3 = h.1 + 1 → K h.1 T) : wX1_born_b a (S.2 31 a) S K := by
  have h1 := g.1
  have h30 := hH.1
  obtain ⟨a0, a1⟩ := ha
  unfold wX1_born_b
  intro g1 g2 _
  rw [h1]
  refine ⟨fun hN => ⟨by omega, hN, ⟨by omega, by omega⟩, fun S4 e4 => ?_⟩, hK0⟩
  refine ⟨fun l2 l3 T => l2 = S.2 31 a ∧ 0 ≤ l3 ∧ l3 ≤ 4 ∧ BnB S T a h.1 l3 (S.2 31 a) ∧ T.1 50 3 = h.1, fun l2 l3 T => (4 - l3).toNat, ⟨rfl, by decide, by decide, ?_, by rw [e4]; exact h1⟩, ?_⟩
  · rw [e4]
    refine ⟨⟨fun _ _ _ => rfl, fun b q => (pA_ne b (by omega)).2⟩, fun x => pA_if, fun x => ?_, (pA_ne 53 (by decide)).2⟩
    rw [if_neg (by omega), (pA_ne 52 (by decide)).2]
  · rintro l2 l3 T ⟨rfl, h0, h4, ⟨b1, b2, b3, b4⟩, hT⟩
    refine ⟨⟨by omega, by omega⟩, fun q _ => ⟨by rw [hT]; exact ⟨by omega, by omega⟩, fun S5 e5 _ => ?_⟩, fun q _ => ?_⟩
    · have e42 : S5.1 50 3 = h.1 + 1 := by
        rw [e5, hT]
        rfl
      rw [e42, show h.1 + 1 - 1 = h.1 by omega]
      have l4 : l3 = 4 := by omega
      rw [l4] at b3
      refine hK hN S5 ⟨⟨fun b j z => ?_, fun b z => ?_⟩, fun x => ?_, fun x => ?_, ?_⟩ e42
      · rw [e5]
        exact (if_neg z).trans (b1.1 b j z)
      · rw [e5]
        exact b1.2 b z
      · rw [e5]
        exact b2 x
      · rw [e5]
        exact b3 x
      · rw [e5]
        exact b4
    · have fin : ∀ s0, (s0 = if bnd (bsr (S.2 31 a) l3) 1 = 0 then 0 else -2) → iv (-2) 0 s0 → wX1_born_b_54 (S.2 31 a) l3 s0 (T.1 50 3 * 4 + l3) T K (fun ml2 ml3 T1 => (ml2 = S.2 31 a ∧ 0 ≤ ml3 ∧ ml3 ≤ 4 ∧ BnB S T1 a h.1 ml3 (S.2 31 a) ∧ T1.1 50 3 = h.1) ∧ (4 - ml3).toNat < (4 - l3).toNat) := fun s0 hs hi => by
        unfold wX1_born_b_54
        rw [hT]
        refine ⟨by omega, by omega, ⟨by omega, by omega⟩, fun S2 e2 => ⟨⟨rfl, by omega, by omega, ⟨⟨fun b j z => ?_, fun b z => ?_⟩, fun x => ?_, fun x => ?_, ?_⟩, by rw [e2]; exact hT⟩, by omega⟩⟩
        · rw [e2]
          exact b1.1 b j z
        · rw [e2, (pA_ne b (by omega)).2]
          exact b1.2 b z
        · rw [e2, (pA_ne 51 (by decide)).2]
          exact b2 x
        · rw [e2, pA_if, b3 x]
          by_cases hx : x = h.1 * 4 + l3
          · rw [if_pos hx, if_pos (by omega), hs, show x - h.1 * 4 = l3 by omega]
          · rw [if_neg hx]
            by_cases hy : h.1 * 4 ≤ x ∧ x < h.1 * 4 + l3
            · rw [if_pos hy]
              exact (if_pos (by omega)).symm
            · rw [if_neg hy, if_neg (by omega)]
        · rw [e2, (pA_ne 53 (by decide)).2]
          exact b4
      exact ⟨fun z => fin 0 (by rw [if_pos z]) ⟨by decide, by decide⟩, fun z => fin (-2) (by rw [if_neg z]) ⟨by decide, by decide⟩⟩
end HC2

