/-! WHAT ELEMENTS MEAN: the model's leaves -/
/-- what more is known of the classes: no name has a 0; names differ; marks; no field is called class, id or reference -/
def XE (e : Env) : Prop := (∀ k, okN e k → ∀ u ∈ eL e k, iv 1 65535 u) ∧ (∀ c d, okC e c → okC e d → eL e c = eL e d → c = d) ∧ (∀ c f g, okF e c f → okF e c g → eL e (6 + c * 4 + f) = eL e (6 + c * 4 + g) → f = g) ∧ (∀ c g f d, okF e c g → eD e c g = 3 → eM e c g = 1 → okF e c f → okC e d → ¬ eL e (6 + c * 4 + f) = eL e d) ∧ (∀ c f g, okF e c f → okF e c g → eD e c f = 3 → eM e c f = 1 → eD e c g = 3 → eM e c g = 1 → f = g) ∧ (∀ c f, okF e c f → eM e c f = 1 → eD e c f ≤ 1 ∨ eD e c f = 3) ∧ ∀ c f, okF e c f → ¬ eL e (6 + c * 4 + f) = ywC ∧ ¬ eL e (6 + c * 4 + f) = ywI ∧ ¬ eL e (6 + c * 4 + f) = ywR
/-- what more is known of the elements: whose child the next one is, only the first has no parent, an element's keys differ -/
def PQ (T : Int → Int) (X : Xs) : Prop := (∀ x : Int, 0 ≤ x → x < X.1.length → (xKd X x = true ↔ x + 1 < X.1.length ∧ xPr X (x + 1) = x)) ∧ (∀ x : Int, 1 ≤ x → x < X.1.length → 0 ≤ xPr X x) ∧ (∀ x p : Int, 0 ≤ x → x < X.1.length → (gE X x).1 + 1 ≤ p → p < (gE X x).2.1 → nIn (T p)) ∧ ∀ x a b : Int, 0 ≤ x → x < X.1.length → xAf X x ≤ a → a < xAf X x + xAc X x → xAf X x ≤ b → b < xAf X x + xAc X x → kyA T X a = kyA T X b → a = b
def CNm (T : Int → Int) (n : Int) (X : Xs) (S : St) : Prop := (TX T n ∧ dTx S T n ∧ ∀ p, 0 ≤ p → p < n → isSn (T p)) ∧ (0 < X.1.length ∧ X.1.length ≤ 200) ∧ mX S X ∧ mO S T X.1 ∧ WX n X n ∧ nBE T X.1 ∧ SV X ∧ PQ T X
/-- only what is read into changes -/
def NF (S S' : St) : Prop := (∀ a j, ¬ (a = 54 ∧ j = 67) → S'.1 a j = S.1 a j) ∧ (∀ a, (a < 67 ∨ 70 < a) → (a < 98 ∨ 104 < a) → S'.2 a = S.2 a) ∧ (∀ j, ¬ j = 2 → S'.2 67 j = S.2 67 j) ∧ (∀ i, i < 60 → S'.2 68 i = S.2 68 i) ∧ (∀ i, i < 240 → S'.2 69 i = S.2 69 i) ∧ ∀ i, i < 4800 → S'.2 70 i = S.2 70 i
theorem NF.rf {S : St} : NF S S := ⟨fun _ _ _ => rfl, fun _ _ _ => rfl, fun _ _ => rfl, fun _ _ => rfl, fun _ _ => rfl, fun _ _ => rfl⟩
theorem NF.tr {S S1 S2 : St} (h : NF S S1) (g : NF S1 S2) : NF S S2 := ⟨fun a j q => (g.1 a j q).trans (h.1 a j q), fun a q r => (g.2.1 a q r).trans (h.2.1 a q r), fun j q => (g.2.2.1 j q).trans (h.2.2.1 j q), fun j q => (g.2.2.2.1 j q).trans (h.2.2.2.1 j q), fun j q => (g.2.2.2.2.1 j q).trans (h.2.2.2.2.1 j q), fun j q => (g.2.2.2.2.2 j q).trans (h.2.2.2.2.2 j q)⟩
/-- a table's row changes -/
theorem NF.pa {S : St} {a : Nat} {i x : Int} (h : 98 ≤ a ∧ a ≤ 104) : NF S (pA S a i x) := ⟨fun _ _ _ => rfl, fun b _ q => (pA_ne b (by omega)).2, fun j _ => by rw [(pA_ne 67 (by omega)).2], fun j _ => by rw [(pA_ne 68 (by omega)).2], fun j _ => by rw [(pA_ne 69 (by omega)).2], fun j _ => by rw [(pA_ne 70 (by omega)).2]⟩
theorem NF.p69 {S : St} {i x : Int} (h : 240 ≤ i) : NF S (pA S 69 i x) := ⟨fun _ _ _ => rfl, fun b q _ => (pA_ne b (by omega)).2, fun j _ => by rw [(pA_ne 67 (by decide)).2], fun j _ => by rw [(pA_ne 68 (by decide)).2], fun j q => by rw [pA_if, if_neg (by omega)], fun j _ => by rw [(pA_ne 70 (by decide)).2]⟩
theorem NF.p70 {S : St} {i x : Int} (h : 4800 ≤ i) : NF S (pA S 70 i x) := ⟨fun _ _ _ => rfl, fun b q _ => (pA_ne b (by omega)).2, fun j _ => by rw [(pA_ne 67 (by decide)).2], fun j _ => by rw [(pA_ne 68 (by decide)).2], fun j _ => by rw [(pA_ne 69 (by decide)).2], fun j q => by rw [pA_if, if_neg (by omega)]⟩
theorem NF.pi {S : St} {x : Int} : NF S (pI S 54 67 x) := ⟨fun a j q => pI_j q, fun _ _ _ => rfl, fun _ _ => rfl, fun _ _ => rfl, fun _ _ => rfl, fun _ _ => rfl⟩
theorem CNm.nf {T : Int → Int} {n : Int} {X : Xs} {S S' : St} (h : CNm T n X S) (g : NF S S') : CNm T n X S' := by
  have e : ∀ a, 84 ≤ a → a ≤ 97 → S'.2 a = S.2 a := fun a q r => g.2.1 a (Or.inr (by omega)) (Or.inl (by omega))
  unfold CNm dTx mX mXe mXa mV mO at h ⊢
  rw [g.1 54 41 (by decide), g.1 54 43 (by decide), g.1 54 51 (by decide), g.1 54 56 (by decide), e 84 (by decide) (by decide), e 85 (by decide) (by decide), e 86 (by decide) (by decide), e 87 (by decide) (by decide), e 88 (by decide) (by decide), e 89 (by decide) (by decide), e 90 (by decide) (by decide), e 91 (by decide) (by decide), e 92 (by decide) (by decide), e 93 (by decide) (by decide), e 94 (by decide) (by decide), e 95 (by decide) (by decide), e 96 (by decide) (by decide), e 97 (by decide) (by decide)]
  exact h
theorem mE.nf {S S' : St} {e : Env} (h : mE S e) (hV : EV e) (g : NF S S') : mE S' e := by
  obtain ⟨a1, a2, a3, a4, a5, a6, a7, a8⟩ := h
  have hN := hV.1
  have k : ∀ a, 56 ≤ a → a ≤ 61 → S'.2 a = S.2 a := fun a q r => g.2.1 a (Or.inl (by omega)) (Or.inl (by omega))
  refine ⟨(g.2.2.1 0 (by decide)).trans a1, fun o ho => ?_, fun o f ho hf => ?_, fun o f i ho hf hd i0 i1 => ?_, (g.1 54 2 (by decide)).trans a5, fun c hc => ?_, fun c f hf => ?_, fun x hx => ?_⟩
  · have := ho.2
    rw [g.2.2.2.1 o (by omega)]
    exact a2 o ho
  · have := ho.2
    have f4 := okF4 hV hf
    rw [g.2.2.2.2.1 _ (by omega)]
    exact a3 o f ho hf
  · have := ho.2
    have f4 := okF4 hV hf
    have i2 : i < 20 := by
      have q := hV.2.2.2.2.2 o f ho hf
      rcases hd with w | w
      · have := (q.2.1 w).1
        omega
      · have := (q.2.2.2 w).1
        omega
    rw [g.2.2.2.2.2 _ (by omega)]
    exact a4 o f i ho hf hd i0 i1
  · rw [k 56 (by decide) (by decide)]
    exact a6 c hc
  · rw [k 59 (by decide) (by decide), k 60 (by decide) (by decide)]
    exact a7 c f hf
  · rw [k 57 (by decide) (by decide), k 58 (by decide) (by decide)]
    exact a8 x hx
section NL
variable {S S' : St} {K : Int → St → Prop} {T W : Int → Int} {n x o f v u c r p a b d i k z w : Int} {X : Xs} {e : Env} {fb : Int → Int} {M M' : Mm} {L : List Int}
/-- comparing sign by sign with a list that ends with 0 -/
theorem cmpL (hz : ∀ u ∈ L, ¬ u = 0) (hW : ∀ i, 0 ≤ i → i < z → ¬ W (a + i) = 0) (z0 : 0 ≤ z) : (L.getD z.toNat 0 = 0 ∧ ∀ i, 0 ≤ i → i < z → W (a + i) = L.getD i.toNat 0) ↔ sbT W a (a + z) = L := by
  rw [sbT_eq, show a + z - a = z by omega]
  have nz : ∀ d : Nat, d < L.length → ¬ L.getD d 0 = 0 := fun d hd => by
    rw [List.getD_eq_getElem?_getD, List.getElem?_eq_getElem hd]
    exact hz _ (List.getElem_mem hd)
  have oz : ∀ d : Nat, L.length ≤ d → L.getD d 0 = 0 := fun d hd => by
    rw [List.getD_eq_getElem?_getD, List.getElem?_eq_none hd]
    rfl
  refine ⟨fun ⟨q1, q2⟩ => ⟨?_, fun d hd => ?_⟩, fun ⟨q1, q2⟩ => ⟨oz _ (by omega), fun i i0 i1 => ?_⟩⟩
  · have h1 : L.length ≤ z.toNat := Nat.le_of_not_lt (fun h => nz _ h q1)
    have h2 : z.toNat ≤ L.length := Nat.le_of_not_lt (fun h => by
      have := q2 (L.length : Int) (by omega) (by omega)
      rw [oz _ (by omega)] at this
      exact hW _ (by omega) (by omega) this)
    omega
  · have := q2 (d : Int) (by omega) (by omega)
    rw [show ((d : Int)).toNat = d by omega] at this
    exact this
  · have := q2 i.toNat (by omega)
    rw [show ((i.toNat : Nat) : Int) = i by omega] at this
    exact this
theorem n_wsign (hE : mE S e) (hV : EV e) (hk : okN e k) (i0 : 0 ≤ i) (hK : K ((eL e k).getD i.toNat 0) S) : wX11_writtenSign k i S K := by
  obtain ⟨h8, hL⟩ := hE.2.2.2.2.2.2.2 k hk
  have h6 := hV.2.1
  have k30 : 0 ≤ k ∧ k < 30 := by
    rcases hk with w | ⟨c, f, w, rfl⟩
    · exact ⟨w.1, by have := w.2; omega⟩
    · have f4 := okF4 hV w
      have c0 := w.1.1
      have c1 := w.1.2
      exact ⟨by omega, by omega⟩
  unfold wX11_writtenSign
  intro _ gi
  refine ⟨fun l1 l2 l3 l4 S' => l1 = k ∧ l2 = i ∧ S' = S ∧ 0 ≤ l3 ∧ l3 ≤ i ∧ 0 ≤ l4 ∧ l4 ≤ S.2 57 k ∧ (catF (fun j => xf (S.2 58 (8 * k + j))) (S.2 57 k - l4).toNat l4).getD (i - l3).toNat 0 = (eL e k).getD i.toNat 0, fun l1 l2 l3 l4 S' => (S.2 57 k - l4).toNat, ⟨rfl, rfl, rfl, by decide, i0, by decide, by omega, by rw [hL, show S.2 57 k - 0 = S.2 57 k by omega, show i - 0 = i by omega]⟩, ?_⟩
  rintro l1 l2 l3 l4 S' ⟨rfl, rfl, rfl, h0, h1, h2, h3, h4⟩
  refine ⟨k30.1, k30.2, fun _ => ⟨⟨by omega, by omega⟩, fun q => ?_, fun q => ⟨by omega, by omega, fun hr x7 e7 => ?_⟩⟩⟩
  · rw [show (S'.2 57 l1 - l4).toNat = 0 by omega] at h4
    have h4 : (0 : Int) = (eL e l1).getD l2.toNat 0 := h4
    rw [h4]
    exact hK
  · rw [show (S'.2 57 l1 - l4).toNat = (S'.2 57 l1 - (l4 + 1)).toNat + 1 by omega] at h4
    have h4 : (xf (S'.2 58 (8 * l1 + l4)) ++ catF (fun j => xf (S'.2 58 (8 * l1 + j))) (S'.2 57 l1 - (l4 + 1)).toNat (l4 + 1)).getD (l2 - l3).toNat 0 = (eL e l1).getD l2.toNat 0 := h4
    rw [← e7] at h4 hr
    have one : ∀ y, l2 - l3 = 0 → xf x7 = y :: (xf x7).tail → y = (eL e l1).getD l2.toNat 0 := fun y q1 q2 => by
      rw [q2, q1] at h4
      exact h4
    have two : ∀ y1 y2, xf x7 = [y1, y2] → l2 - l3 = 1 → y2 = (eL e l1).getD l2.toNat 0 := fun y1 y2 q1 q2 => by
      rw [q1, q2] at h4
      exact h4
    have go1 : xf x7 = [x7] → ¬ l3 = l2 → wX11_writtenSign_96 l1 l2 l3 l4 0 S' K (fun ml1 ml2 ml3 ml4 T' => (ml1 = l1 ∧ ml2 = l2 ∧ T' = S' ∧ 0 ≤ ml3 ∧ ml3 ≤ l2 ∧ 0 ≤ ml4 ∧ ml4 ≤ S'.2 57 l1 ∧ (catF (fun j => xf (S'.2 58 (8 * l1 + j))) (S'.2 57 l1 - ml4).toNat ml4).getD (l2 - ml3).toNat 0 = (eL e l1).getD l2.toNat 0) ∧ (S'.2 57 l1 - ml4).toNat < (S'.2 57 l1 - l4).toNat) := fun q1 q2 => by
      unfold wX11_writtenSign_96 wX11_writtenSign_110
      refine ⟨⟨by decide, by decide⟩, fun _ => ⟨⟨rfl, rfl, rfl, by omega, by omega, by omega, by omega, ?_⟩, by omega⟩, fun w => absurd rfl w⟩
      rw [q1, show (l2 - l3).toNat = (l2 - (l3 + 1)).toNat + 1 by omega] at h4
      exact h4
    have go2 : ∀ y1 y2, xf x7 = [y1, y2] → ¬ l3 = l2 → ¬ l3 + 1 = l2 → wX11_writtenSign_96 l1 l2 l3 l4 1 S' K (fun ml1 ml2 ml3 ml4 T' => (ml1 = l1 ∧ ml2 = l2 ∧ T' = S' ∧ 0 ≤ ml3 ∧ ml3 ≤ l2 ∧ 0 ≤ ml4 ∧ ml4 ≤ S'.2 57 l1 ∧ (catF (fun j => xf (S'.2 58 (8 * l1 + j))) (S'.2 57 l1 - ml4).toNat ml4).getD (l2 - ml3).toNat 0 = (eL e l1).getD l2.toNat 0) ∧ (S'.2 57 l1 - ml4).toNat < (S'.2 57 l1 - l4).toNat) := fun y1 y2 q1 q2 q3 => by
      unfold wX11_writtenSign_96 wX11_writtenSign_110
      refine ⟨⟨by decide, by decide⟩, fun w => absurd w (by decide), fun _ => ⟨⟨rfl, rfl, rfl, by omega, by omega, by omega, by omega, ?_⟩, by omega⟩⟩
      rw [q1, show (l2 - l3).toNat = (l2 - (l3 + 2)).toNat + 2 by omega] at h4
      exact h4
    have tw : ∀ y2, xf x7 = [95, y2] → ((x7 = 95 ∧ y2 = 95) ∨ (¬ x7 = 95 ∧ y2 = 45)) → wX11_writtenSign_44 l1 l2 l3 l4 x7 S' K (fun ml1 ml2 ml3 ml4 T' => (ml1 = l1 ∧ ml2 = l2 ∧ T' = S' ∧ 0 ≤ ml3 ∧ ml3 ≤ l2 ∧ 0 ≤ ml4 ∧ ml4 ≤ S'.2 57 l1 ∧ (catF (fun j => xf (S'.2 58 (8 * l1 + j))) (S'.2 57 l1 - ml4).toNat ml4).getD (l2 - ml3).toNat 0 = (eL e l1).getD l2.toNat 0) ∧ (S'.2 57 l1 - ml4).toNat < (S'.2 57 l1 - l4).toNat) := fun y2 q1 q4 => by
      unfold wX11_writtenSign_44 wX11_writtenSign_49
      refine ⟨⟨by omega, by omega⟩, gi, fun q2 => ⟨⟨by decide, by decide⟩, fun w => absurd w (by decide), fun _ => ⟨⟨by omega, by omega⟩, fun q3 => go2 95 y2 q1 q2 q3, fun q3 => ⟨⟨by omega, by omega⟩, fun q5 => ?_, fun q5 => ?_⟩⟩⟩, fun q2 => ⟨⟨by decide, by decide⟩, fun w => absurd w (by decide), fun _ => ?_⟩⟩
      · have := two 95 y2 q1 (by omega)
        rw [← this, (q4.resolve_left (fun w => q5 w.1)).2] at hK
        exact hK
      · have := two 95 y2 q1 (by omega)
        rw [← this, (q4.resolve_right (fun w => w.1 (Classical.not_not.mp q5))).2] at hK
        exact hK
      · have := one 95 (by omega) (by rw [q1]; rfl)
        rw [← this] at hK
        exact hK
    rcases xf_cas x7 with ⟨c1, c2⟩ | ⟨c1, c2⟩ | ⟨c1, c2, c3⟩
    · exact ⟨fun w => absurd w (by omega), fun _ => ⟨fun w => absurd c1 w, fun _ => tw 45 c2 (Or.inr ⟨by omega, rfl⟩)⟩⟩
    · exact ⟨fun _ => tw 95 c2 (Or.inl ⟨c1, rfl⟩), fun w => absurd c1 w⟩
    · refine ⟨fun w => absurd w c2, fun _ => ⟨fun _ => ?_, fun w => absurd c1 w⟩⟩
      unfold wX11_writtenSign_49
      refine ⟨⟨by omega, by omega⟩, gi, fun q2 => ⟨⟨by decide, by decide⟩, fun _ => go1 c3 q2, fun w => absurd rfl w⟩, fun q2 => ⟨⟨by decide, by decide⟩, fun _ => ?_, fun w => absurd rfl w⟩⟩
      have := one x7 (by omega) (by rw [c3]; rfl)
      rw [this]
      exact hK
theorem eL_rng (hX : XE e) (hk : okN e k) {d : Nat} : iv 0 65535 ((eL e k).getD d 0) := by
  by_cases q : d < (eL e k).length
  · rw [List.getD_eq_getElem?_getD, List.getElem?_eq_getElem q]
    have := hX.1 k hk _ (List.getElem_mem q)
    show iv 0 65535 (eL e k)[d]
    exact ⟨by omega, by omega⟩
  · rw [List.getD_eq_getElem?_getD, List.getElem?_eq_none (by omega)]
    exact ⟨by decide, by decide⟩
theorem eL_nz (hX : XE e) (hk : okN e k) : ∀ u ∈ eL e k, ¬ u = 0 := fun u hu => by
  have := hX.1 k hk u hu
  omega
theorem isSn_b (h : isSn u) : 9 ≤ u ∧ u ≤ 126 := by omega
theorem CNm.len (h : CNm T n X S) : iv 0 3000 n ∧ 0 < X.1.length ∧ X.1.length ≤ 200 ∧ X.2.1.length ≤ 600 ∧ X.2.2.length ≤ 3000 ∧ S.1 54 43 = X.1.length ∧ S.1 54 51 = X.2.1.length ∧ S.1 54 56 = X.2.2.length := by
  obtain ⟨⟨hX, -, -⟩, hm, ⟨⟨he1, -⟩, ⟨ha1, -⟩, hv1, -⟩, -, ⟨hw1, hw2, -, -⟩, -⟩ := h
  have hn := hX.1
  exact ⟨hn, hm.1, hm.2, by omega, by omega, he1, ha1, hv1⟩
theorem cn_e (h : CNm T n X S) (x0 : 0 ≤ x) (x1 : x < X.1.length) : (S.2 85 x = (gE X x).1 ∧ S.2 86 x = (gE X x).1 + 1 ∧ S.2 87 x = (gE X x).2.1 - ((gE X x).1 + 1) ∧ S.2 88 x = (if xPr X x < 0 then -2 else xPr X x) ∧ S.2 90 x = xAf X x ∧ S.2 91 x = xAc X x) ∧ 0 ≤ (gE X x).1 ∧ (gE X x).1 + 1 < (gE X x).2.1 ∧ (gE X x).2.1 ≤ n ∧ -1 ≤ xPr X x ∧ xPr X x < x ∧ 0 ≤ xAf X x ∧ 0 ≤ xAc X x ∧ xAf X x + xAc X x ≤ X.2.1.length := by
  obtain ⟨-, hm, ⟨⟨he1, he2⟩, -, -⟩, -, ⟨-, -, hw, -⟩, -⟩ := h
  have h2 := he2 x.toNat (by omega)
  have h3 := hw x.toNat (by omega)
  rw [show ((x.toNat : Nat) : Int) = x by omega] at h2 h3
  exact ⟨h2, h3⟩
theorem cn_a (h : CNm T n X S) (a0 : 0 ≤ a) (a1 : a < X.2.1.length) : (S.2 92 a = (gAt X a).1 ∧ S.2 93 a = (gAt X a).2.1 - (gAt X a).1 ∧ S.2 94 a = (gAt X a).2.2.1 ∧ S.2 95 a = (gAt X a).2.2.2 - (gAt X a).2.2.1) ∧ 0 ≤ (gAt X a).1 ∧ (gAt X a).1 < (gAt X a).2.1 ∧ (gAt X a).2.1 ≤ n ∧ 0 ≤ (gAt X a).2.2.1 ∧ (gAt X a).2.2.1 ≤ (gAt X a).2.2.2 ∧ (gAt X a).2.2.2 ≤ X.2.2.length := by
  obtain ⟨-, hm, ⟨-, ⟨he1, he2⟩, -⟩, -, ⟨-, -, -, hw⟩, -⟩ := h
  have h2 := he2 a.toNat (by omega)
  have h3 := hw a.toNat (by omega)
  rw [show ((a.toNat : Nat) : Int) = a by omega] at h2
  exact ⟨h2, h3⟩
theorem cn_v (h : CNm T n X S) (i0 : 0 ≤ i) (i1 : i < X.2.2.length) : S.2 96 i = sgV X i ∧ S.2 97 i = (X.2.2.getD i.toNat (0, 0)).2 ∧ isSn (sgV X i) := by
  obtain ⟨-, hm, ⟨-, -, hv1, hv2⟩, -, -, -, hs, -⟩ := h
  have h2 := hv2 i.toNat (by omega)
  rw [show ((i.toNat : Nat) : Int) = i by omega] at h2
  rw [sgV_at i0 i1]
  exact ⟨h2.1, h2.2, hs _ (by omega)⟩
/-- a text's piece against a name -/
theorem n_named (h : CNm T n X S) (hE : mE S e) (hV : EV e) (hX : XE e) (hk : okN e k) (a0 : 0 ≤ a) (z0 : 0 ≤ z) (z1 : a + z ≤ n) (hK : ∀ r, (r = 1 ∧ sbT T a (a + z) = eL e k) ∨ (r = 0 ∧ ¬ sbT T a (a + z) = eL e k) → K r S) : wX11_isNamed a z k S K := by
  have hn := h.len.1
  obtain ⟨⟨hT, hD, hs⟩, -⟩ := h
  have h6 := hV.2.1
  have k30 : 0 ≤ k ∧ k < 30 := by
    rcases hk with w | ⟨c, f, w, rfl⟩
    · exact ⟨w.1, by have := w.2; omega⟩
    · have f4 := okF4 hV w
      have c0 := w.1.1
      have c1 := w.1.2
      exact ⟨by omega, by omega⟩
  have cmp := cmpL (L := eL e k) (W := T) (a := a) (z := z) (eL_nz hX hk) (fun i i0 i1 => by have := isSn_b (hs (a + i) (by omega) (by omega)); omega) z0
  have t14 : ∀ s0, (s0 = 1 ∧ (eL e k).getD z.toNat 0 = 0) ∨ (s0 = 0 ∧ ¬ (eL e k).getD z.toNat 0 = 0) → wX11_isNamed_14 a z k s0 S K := fun s0 hs0 => by
    unfold wX11_isNamed_14
    refine ⟨fun l1 l2 l3 l4 l5 S' => l1 = a ∧ l2 = z ∧ l3 = k ∧ S' = S ∧ 0 ≤ l5 ∧ l5 ≤ z ∧ ((l4 = 1 ∧ (eL e k).getD z.toNat 0 = 0 ∧ ∀ i, 0 ≤ i → i < l5 → T (a + i) = (eL e k).getD i.toNat 0) ∨ (l4 = 0 ∧ ¬ sbT T a (a + z) = eL e k)), fun l1 l2 l3 l4 l5 S' => (z - l5).toNat, ⟨rfl, rfl, rfl, rfl, by decide, z0, ?_⟩, ?_⟩
    · rcases hs0 with ⟨w1, w2⟩ | ⟨w1, w2⟩
      · exact Or.inl ⟨w1, w2, fun i i0 i1 => by omega⟩
      · exact Or.inr ⟨w1, fun q => w2 (cmp.mpr q).1⟩
    · rintro l1 l2 l3 l4 l5 S' ⟨rfl, rfl, rfl, rfl, h0, h1, h2⟩
      have r4 : iv 0 1 l4 := by
        rcases h2 with ⟨w, -⟩ | ⟨w, -⟩
        · rw [w]
          exact ⟨by decide, by decide⟩
        · rw [w]
          exact ⟨by decide, by decide⟩
      refine ⟨⟨by omega, by omega⟩, ⟨by omega, by omega⟩, fun q => ⟨r4, ?_⟩, fun q => ⟨⟨by omega, by omega⟩, fun q2 => ⟨r4, ?_⟩, fun q2 => ⟨by omega, by omega, fun _ => ⟨⟨by omega, by omega⟩, n_wsign hE hV hk h0 ?_⟩⟩⟩⟩
      · rcases h2 with ⟨rfl, w1, w2⟩ | ⟨rfl, w⟩
        · exact hK 1 (Or.inl ⟨rfl, cmp.mp ⟨w1, fun i i0 i1 => w2 i i0 (by omega)⟩⟩)
        · exact hK 0 (Or.inr ⟨rfl, w⟩)
      · rcases h2 with ⟨w, -⟩ | ⟨rfl, w⟩
        · omega
        · exact hK 0 (Or.inr ⟨rfl, w⟩)
      · rcases h2 with ⟨rfl, w1, w2⟩ | ⟨w, -⟩
        · have hb := eL_rng hX hk (d := l5.toNat)
          have hd := hD.2 (l1 + l5) (by omega) (by omega)
          rw [hd]
          unfold wX11_isNamed_54
          refine ⟨⟨by omega, by omega⟩, fun w3 => ⟨⟨rfl, rfl, rfl, rfl, by omega, by omega, Or.inr ⟨rfl, fun q5 => w3 ((cmp.mpr q5).2 l5 h0 (by omega))⟩⟩, ?_⟩, fun w3 => ⟨⟨rfl, rfl, rfl, rfl, by omega, by omega, Or.inl ⟨rfl, w1, fun i i0 i1 => ?_⟩⟩, ?_⟩⟩
          · show (l2 - (l5 + 1)).toNat < (l2 - l5).toNat
            omega
          · by_cases q6 : i = l5
            · rw [q6]
              exact Classical.not_not.mp w3
            · exact w2 i i0 (by omega)
          · show (l2 - (l5 + 1)).toNat < (l2 - l5).toNat
            omega
        · exact absurd w q2
  have hb := eL_rng hX hk (d := z.toNat)
  unfold wX11_isNamed
  refine fun _ _ _ => n_wsign hE hV hk z0 ⟨⟨by omega, by omega⟩, fun q => t14 0 (Or.inr ⟨rfl, q⟩), fun q => t14 1 (Or.inl ⟨rfl, Classical.not_not.mp q⟩)⟩
/-- the last of those that fit is the first, if only one fits -/
theorem fnd_one {P : Int → Bool} {N : Int} (hu : ∀ i j, 0 ≤ i → i < N → 0 ≤ j → j < N → P i = true → P j = true → i = j) (i0 : 0 ≤ i) (i1 : i < N) (h : P i = true) : fnd P N.toNat 0 = i := by
  rcases fnd_or (P := P) N.toNat 0 with ⟨-, q⟩ | ⟨q1, q2, q3, -⟩
  · rw [q i i0 (by omega)] at h
    cases h
  · exact hu _ _ q1 (by omega) i0 i1 q3 h
theorem clN_one (hX : XE e) (hc : okC e c) (hL : eL e c = L) (h0 : fb c = 0) : clN e fb L = c := by
  have e1 : clF e L = c := by
    unfold clF
    exact fnd_one (fun i j i0 i1 j0 j1 hi hj => by
      rw [decide_eq_true_eq] at hi hj
      exact hX.2.1 i j ⟨i0, i1⟩ ⟨j0, j1⟩ (hi.trans hj.symm)) hc.1 hc.2 (decide_eq_true hL)
  unfold clN
  rw [e1, if_neg (fun q => q.elim (fun q => by have := hc.1; omega) (fun q => q h0))]
theorem clN_non (hV : EV e) (h : ∀ c, okC e c → eL e c = L → ¬ fb c = 0) : clN e fb L = -1 := by
  rcases clN_ok (fb := fb) hV (L := L) with q | ⟨q1, q2, q3⟩
  · exact q
  · exact absurd q3 (h _ q1 q2)
def mNg (x : Int) : Int := if x = -1 then -2 else x
theorem n_clN (h : CNm T n X S) (hE : mE S e) (hV : EV e) (hX : XE e) (hf : ∀ c, okC e c → S.2 61 c = fb c) (a0 : 0 ≤ a) (z0 : 0 ≤ z) (z1 : a + z ≤ n) (hK : K (mNg (clN e fb (sbT T a (a + z)))) S) : wX11_classNamed a z S K := by
  have h6 := hV.2.1
  have h2 := hE.2.2.2.2.1
  have hn := h.len.1
  unfold wX11_classNamed
  refine fun _ _ => ⟨fun l1 l2 l3 l4 S' => l1 = a ∧ l2 = z ∧ S' = S ∧ 0 ≤ l4 ∧ l4 ≤ eC e ∧ ((l3 = -2 ∧ ∀ c, 0 ≤ c → c < l4 → ¬ (fb c = 0 ∧ eL e c = sbT T a (a + z))) ∨ (0 ≤ l3 ∧ l3 < l4 ∧ fb l3 = 0 ∧ eL e l3 = sbT T a (a + z))), fun l1 l2 l3 l4 S' => (eC e - l4).toNat, ⟨rfl, rfl, rfl, by decide, by omega, Or.inl ⟨rfl, fun c c0 c1 => by omega⟩⟩, ?_⟩
  rintro l1 l2 l3 l4 S' ⟨rfl, rfl, rfl, h0, h1, h3⟩
  intro _
  rw [h2]
  refine ⟨⟨by omega, by omega⟩, fun q => ?_, fun q => ⟨h0, by omega, fun _ => ?_⟩⟩
  · rcases h3 with ⟨rfl, w⟩ | ⟨w1, w2, w3, w4⟩
    · rw [clN_non hV (fun c hc hl hz => w c hc.1 (by have := hc.2; omega) ⟨hz, hl⟩)] at hK
      exact hK
    · rw [clN_one hX ⟨w1, by omega⟩ w4 w3] at hK
      unfold mNg at hK
      rw [if_neg (by omega)] at hK
      exact hK
  · have hc : okC e l4 := ⟨h0, by omega⟩
    rw [hf l4 hc]
    have no : ¬ (fb l4 = 0 ∧ eL e l4 = sbT T l1 (l1 + l2)) → wX11_classNamed_41 l1 l2 l3 l4 S' K (fun ml1 ml2 ml3 ml4 T' => (ml1 = l1 ∧ ml2 = l2 ∧ T' = S' ∧ 0 ≤ ml4 ∧ ml4 ≤ eC e ∧ ((ml3 = -2 ∧ ∀ c, 0 ≤ c → c < ml4 → ¬ (fb c = 0 ∧ eL e c = sbT T l1 (l1 + l2))) ∨ (0 ≤ ml3 ∧ ml3 < ml4 ∧ fb ml3 = 0 ∧ eL e ml3 = sbT T l1 (l1 + l2)))) ∧ (eC e - ml4).toNat < (eC e - l4).toNat) := fun hno => by
      unfold wX11_classNamed_41 wX11_classNamed_42
      refine ⟨⟨rfl, rfl, rfl, by omega, by omega, ?_⟩, by omega⟩
      rcases h3 with ⟨w1, w2⟩ | ⟨w1, w2, w3, w4⟩
      · refine Or.inl ⟨w1, fun c c0 c1 => ?_⟩
        by_cases qc : c = l4
        · rw [qc]
          exact hno
        · exact w2 c c0 (by omega)
      · exact Or.inr ⟨w1, by omega, w3, w4⟩
    refine ⟨fun w => no (fun q2 => w q2.1), fun w => ⟨⟨by omega, by omega⟩, ⟨by omega, by omega⟩, n_named h hE hV hX (Or.inl hc) a0 z0 z1 (fun r hr => ?_)⟩⟩
    rcases hr with ⟨rfl, hq⟩ | ⟨rfl, hq⟩
    · refine ⟨⟨by decide, by decide⟩, fun w => absurd w (by decide), fun _ => ?_⟩
      unfold wX11_classNamed_42
      refine ⟨⟨rfl, rfl, rfl, by omega, by omega, Or.inr ⟨h0, by omega, Classical.not_not.mp w, hq.symm⟩⟩, ?_⟩
      show (eC e - (l4 + 1)).toNat < (eC e - l4).toNat
      omega
    · exact ⟨⟨by decide, by decide⟩, fun _ => no (fun q2 => hq q2.2.symm), fun w => absurd rfl w⟩
end NL

