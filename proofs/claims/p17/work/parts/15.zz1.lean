/-! THE TEXT OF CLASSES: what the names are made of, what may be marked -/
def PWe (e : Env) : Prop := (∀ k, ∀ u ∈ e.2 k, qN u ∨ u = 45) ∧ ∀ c f, eM e c f = 1 → eD e c f ≤ 1 ∨ eD e c f = 3
section ZB
variable {T : Int → Int} {n p c : Int} {e : Env} {nm : List Int} {kd mk : Int}
theorem qn_N : ∀ (k : Nat) (p : Int), ∀ u ∈ catF (fun j => [T j]) (qn T k p) p, qN u
  | 0, p, u, hu => by
    have hu : u ∈ ([] : List Int) := hu
    cases hu
  | k + 1, p, u, hu => by
    unfold qn at hu
    by_cases q : qN (T p)
    · rw [if_pos q] at hu
      have hu : u ∈ [T p] ++ catF (fun j => [T j]) (qn T k (p + 1)) (p + 1) := hu
      rcases List.mem_append.mp hu with w | w
      · rw [List.mem_singleton.mp w]
        exact q
      · exact qn_N k (p + 1) u w
    · rw [if_neg q] at hu
      have hu : u ∈ ([] : List Int) := hu
      cases hu
theorem qR_N : ∀ u ∈ qR T p, qN u := fun u hu => by
  unfold qR at hu
  by_cases q : qB (T p)
  · rw [if_pos q] at hu
    exact qn_N 8 p u hu
  · rw [if_neg q] at hu
    cases hu
theorem xl_N : ∀ (l : List Int), (∀ u ∈ l, qN u) → ∀ u ∈ xl l, qN u ∨ u = 45
  | [], _, u, hu => by
    have hu : u ∈ ([] : List Int) := hu
    cases hu
  | w :: l, h, u, hu => by
    have hu : u ∈ xf w ++ xl l := hu
    have hw := h w (List.mem_cons_self ..)
    rcases List.mem_append.mp hu with z | z
    · rcases xf_cas w with ⟨-, q⟩ | ⟨-, q⟩ | ⟨-, -, q⟩
      · rw [q] at z
        rcases List.mem_cons.mp z with z | z
        · exact Or.inl (Or.inr (Or.inr (Or.inr (Or.inl z))))
        · exact Or.inr (List.mem_singleton.mp z)
      · rw [q] at z
        rcases List.mem_cons.mp z with z | z
        · exact Or.inl (Or.inr (Or.inr (Or.inr (Or.inl z))))
        · exact Or.inl (Or.inr (Or.inr (Or.inr (Or.inl (List.mem_singleton.mp z)))))
      · rw [q] at z
        rw [List.mem_singleton.mp z]
        exact Or.inl hw
    · exact xl_N l (fun x hx => h x (List.mem_cons_of_mem _ hx)) u z
theorem PWe_0 : PWe e0 := ⟨fun k u hu => (by
  have hu : u ∈ ([] : List Int) := hu
  cases hu), fun c f h => (by
  have h : (0 : Int) = 1 := h
  omega)⟩
theorem PW_AC (hW : PWe e) (hn : ∀ u ∈ nm, qN u) : PWe (eAC e nm) := by
  refine ⟨fun k u hu => ?_, fun c f h => hW.2 c f h⟩
  have hu : u ∈ (if k = eC e then xl nm else if k = 1000 + eC e then nm else e.2 k) := hu
  by_cases q : k = eC e
  · rw [if_pos q] at hu
    exact xl_N nm hn u hu
  · rw [if_neg q] at hu
    by_cases q2 : k = 1000 + eC e
    · rw [if_pos q2] at hu
      exact Or.inl (hn u hu)
    · rw [if_neg q2] at hu
      exact hW.1 k u hu
theorem PW_AF (hW : PWe e) (hn : ∀ u ∈ nm, qN u) (hm : mk = 1 → kd ≤ 1 ∨ kd = 3) : PWe (eAF e nm kd mk) := by
  refine ⟨fun k u hu => ?_, fun c f h1 => ?_⟩
  · have hu : u ∈ (if k = 6 + nC e * 4 + nF e then xl nm else if k = 1000 + (6 + nC e * 4 + nF e) then nm else e.2 k) := hu
    by_cases q : k = 6 + nC e * 4 + nF e
    · rw [if_pos q] at hu
      exact xl_N nm hn u hu
    · rw [if_neg q] at hu
      by_cases q2 : k = 1000 + (6 + nC e * 4 + nF e)
      · rw [if_pos q2] at hu
        exact Or.inl (hn u hu)
      · rw [if_neg q2] at hu
        exact hW.1 k u hu
  · rw [eM_AF] at h1
    rw [eD_AF]
    by_cases q : c = nC e ∧ f = nF e
    · rw [if_pos q] at h1 ⊢
      exact hm h1
    · rw [if_neg q] at h1 ⊢
      exact hW.2 c f h1
theorem qF_W (hW : PWe e) : PWe (qF T e p).1 := by
  unfold qF
  by_cases h1 : qR T p = []
  · rw [if_pos h1]
    exact hW
  · rw [if_neg h1]
    by_cases h2 : T (p + (qR T p).length) = 58
    · rw [if_pos h2]
      by_cases h4 : qK (T (p + (qR T p).length + 1)) = -1
      · rw [if_pos h4]
        exact hW
      · rw [if_neg h4]
        refine PW_AF hW qR_N (fun hm => ?_)
        unfold qM at hm
        by_cases z : (T (p + (qR T p).length + 2) = 64 ∧ qK (T (p + (qR T p).length + 1)) ≤ 1) ∨ (T (p + (qR T p).length + 2) = 42 ∧ qK (T (p + (qR T p).length + 1)) = 3 ∧ eI e (nC e) = -1)
        · rcases z with ⟨-, z⟩ | ⟨-, z, -⟩
          · exact Or.inl z
          · exact Or.inr z
        · rw [if_neg z] at hm
          omega
    · rw [if_neg h2]
      exact hW
theorem qE_W (hW : PWe e) : PWe (qE T e p).1 := by
  unfold qE
  by_cases h : T p = 41
  · rw [if_pos h]
    exact hW
  · rw [if_neg h]
    exact hW
theorem qFs_W : ∀ (k : Nat) (e : Env) (p : Int), PWe e → PWe (qFs T k e p).1
  | 0, e, p, hW => qE_W hW
  | k + 1, e, p, hW => by
    have w := qF_W (T := T) (p := p) hW
    unfold qFs
    by_cases h : (qF T e p).2.2 = 0
    · rw [if_pos h]
      exact w
    · rw [if_neg h]
      by_cases h2 : k ≠ 0 ∧ T (qF T e p).2.1 = 44
      · rw [if_pos h2]
        exact qFs_W k _ _ w
      · rw [if_neg h2]
        exact qE_W w
theorem qO_W (hW : PWe e) : PWe (qO T e p).1 := by
  unfold qO
  by_cases h1 : qR T p = []
  · rw [if_pos h1]
    exact hW
  · rw [if_neg h1]
    by_cases h2 : T (p + (qR T p).length) = 40
    · rw [if_pos h2]
      by_cases h4 : T (p + (qR T p).length + 1) = 41
      · rw [if_pos h4]
        exact PW_AC hW qR_N
      · rw [if_neg h4]
        exact qFs_W 4 _ _ (PW_AC hW qR_N)
    · rw [if_neg h2]
      exact hW
theorem qC_W : ∀ (k : Nat) (e : Env) (p : Int), PWe e → PWe (qC T k e p).1
  | 0, e, p, hW => hW
  | k + 1, e, p, hW => by
    have w := qO_W (T := T) (p := p) hW
    unfold qC
    by_cases h : (qO T e p).2.2 = 0
    · rw [if_pos h]
      exact w
    · rw [if_neg h]
      by_cases h2 : k ≠ 0 ∧ T (qO T e p).2.1 = 59
      · rw [if_pos h2]
        exact qC_W k _ _ w
      · rw [if_neg h2]
        exact w
/-- all names are signs -/
def NSg (e : Env) : Prop := ∀ k, ∀ u ∈ e.2 k, isSn u
theorem PWe.sg (h : PWe e) : NSg e := fun k u hu => (by
  rcases h.1 k u hu with w | w
  · exact Or.inl ⟨by omega, by omega⟩
  · exact Or.inl ⟨by omega, by omega⟩)
theorem imp_eI (hP : PV e) (hc : okC e c) : imp e c = eI e c := by
  obtain ⟨f4, i3, iF, hi⟩ := hP.2.1 c hc
  have f0 := f4.1
  unfold imp
  rcases fnd_or (P := fun f => decide (eD e c f = 3 ∧ eM e c f = 1)) (eF e c).toNat 0 with ⟨w1, w2⟩ | ⟨w1, w2, w3, -⟩
  · rw [w1]
    by_cases q : eI e c = -1
    · exact q.symm
    · have i0 := i3.1
      have z := (hi (eI e c) (by omega) iF).mp rfl
      have y := w2 (eI e c) (by omega) (by omega)
      rw [decide_eq_false_iff_not] at y
      exact absurd z y
  · rw [decide_eq_true_eq] at w3
    exact ((hi _ w1 (by omega)).mpr w3).symm
theorem XE_of (hP : PV e) (hW : PWe e) (hB : ¬ BadN e) : XE e := by
  have hb : ¬ Brk e := fun h => hB (Or.inl h)
  have hm : ¬ Mix e := fun h => hB (Or.inr h)
  have eLx : ∀ k, okN e k → eL e k = xl (eR e k) := fun k hk => (hP.2.2.2 k hk).1
  have oC : ∀ c, okC e c → okN e c := fun c hc => Or.inl hc
  have oF : ∀ c f, okF e c f → okN e (6 + c * 4 + f) := fun c f hf => Or.inr ⟨c, f, hf, rfl⟩
  have inj : ∀ a b, okN e a → okN e b → eL e a = eL e b → eR e a = eR e b := fun a b ha hb h => by
    rw [eLx a ha, eLx b hb] at h
    exact xl_inj _ _ h
  have wrd : ∀ w, xl w = w → ∀ a, okN e a → eL e a = w → eR e a = w := fun w hw a ha h => by
    rw [eLx a ha] at h
    exact xl_inj _ _ (h.trans hw.symm)
  refine ⟨fun k hk u hu => ?_, fun c d hc hd he => ?_, fun c f g hf hg he => ?_, fun c g f d hg h3 h1 hf hd he => ?_, fun c f g hf hg f3 f1 g3 g1 => ?_, fun c f hf h => hW.2 c f h, fun c f hf => ⟨fun h => ?_, fun h => ?_, fun h => ?_⟩⟩
  · rcases hW.1 k u hu with w | w
    · exact ⟨by omega, by omega⟩
    · exact ⟨by omega, by omega⟩
  · have he := inj _ _ (oC c hc) (oC d hd) he
    by_cases q : c = d
    · exact q
    · exfalso
      rcases (show c < d ∨ d < c by omega) with w | w
      · exact hb (Or.inl ⟨d, hd, c, hc.1, w, he⟩)
      · exact hb (Or.inl ⟨c, hc, d, hd.1, w, he.symm⟩)
  · have he := inj _ _ (oF c f hf) (oF c g hg) he
    by_cases q : f = g
    · exact q
    · exfalso
      rcases (show f < g ∨ g < f by omega) with w | w
      · exact hb (Or.inr ⟨c, g, hg, Or.inr (Or.inr ⟨f, hf.2.1, w, he⟩)⟩)
      · exact hb (Or.inr ⟨c, f, hf, Or.inr (Or.inr ⟨g, hg.2.1, w, he.symm⟩)⟩)
  · have he := inj _ _ (oF c f hf) (oC d hd) he
    have i := ((hP.2.1 c hg.1).2.2.2 g hg.2.1 hg.2.2).mpr ⟨h3, h1⟩
    have g0 := hg.2.1
    exact hm ⟨c, f, hf, by omega, d, hd, he.symm⟩
  · have i1 := ((hP.2.1 c hf.1).2.2.2 f hf.2.1 hf.2.2).mpr ⟨f3, f1⟩
    have i2 := ((hP.2.1 c hf.1).2.2.2 g hg.2.1 hg.2.2).mpr ⟨g3, g1⟩
    omega
  · exact hb (Or.inr ⟨c, f, hf, Or.inl (wrd ywC rfl _ (oF c f hf) h)⟩)
  · exact hb (Or.inr ⟨c, f, hf, Or.inr (Or.inl (wrd ywI rfl _ (oF c f hf) h))⟩)
  · have w := wrd ywR rfl _ (oF c f hf) h
    have l := (hP.2.2.2 _ (oF c f hf)).2.2
    rw [w] at l
    exact absurd l (by decide)
end ZB

