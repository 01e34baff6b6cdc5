/-! THE MODEL READS CLASSES: what is broken -/
section MB
variable {e : Env} {nm : List Int} {kd mk : Int}
theorem eR_AF1 (hV : PV e) (hc : 1 ≤ eC e) : eR (eAF e nm kd mk) (6 + nC e * 4 + nF e) = nm := by
  have okn : okC e (nC e) := ⟨by unfold nC; omega, by unfold nC; omega⟩
  have hn : iv 0 4 (nF e) := (hV.2.1 (nC e) okn).1
  have hC : iv 0 5 (nC e) := by
    have := hV.1
    unfold nC
    exact ⟨by omega, by omega⟩
  rw [eR_AF, if_neg (by omega), if_pos rfl]
theorem eR_AF0 (hV : PV e) (hc : 1 ≤ eC e) {k : Int} (hk : iv 0 29 k) (h : ¬ k = 6 + nC e * 4 + nF e) : eR (eAF e nm kd mk) k = eR e k := by
  have okn : okC e (nC e) := ⟨by unfold nC; omega, by unfold nC; omega⟩
  have hn : iv 0 4 (nF e) := (hV.2.1 (nC e) okn).1
  have hC : iv 0 5 (nC e) := by
    have := hV.1
    unfold nC
    exact ⟨by omega, by omega⟩
  rw [eR_AF, if_neg (by omega), if_neg (by omega)]
theorem eR_AC1 (hV : PV e) : eR (eAC e nm) (eC e) = nm := by
  have := hV.1
  rw [eR_AC, if_neg (by omega), if_pos rfl]
theorem eR_AC0 (hV : PV e) {k : Int} (hk : iv 0 29 k) (h : ¬ k = eC e) : eR (eAC e nm) k = eR e k := by
  have := hV.1
  rw [eR_AC, if_neg (by omega), if_neg (by omega)]
theorem brk_AC (hV : PV e) (h6 : eC e < 6) : Brk (eAC e nm) ↔ (Brk e ∨ ∃ d, 0 ≤ d ∧ d < eC e ∧ eR e d = nm) := by
  have v1 := hV.1
  constructor
  · rintro (⟨c, hc, d, d0, d1, d2⟩ | ⟨c, f, hf, hb⟩)
    · rcases okC_AC hc with q | q
      · rw [q, eR_AC1 hV, eR_AC0 hV ⟨d0, by omega⟩ (by omega)] at d2
        exact Or.inr ⟨d, d0, by omega, d2⟩
      · have := q.1
        have := q.2
        rw [eR_AC0 hV ⟨d0, by omega⟩ (by omega), eR_AC0 hV ⟨by omega, by omega⟩ (by omega)] at d2
        exact Or.inl (Or.inl ⟨c, q, d, d0, d1, d2⟩)
    · have q := (okF_AC hf).1
      have w := (hV.2.1 c q.1).1
      obtain ⟨⟨c0, c1⟩, f0, f1⟩ := id q
      refine Or.inl (Or.inr ⟨c, f, q, ?_⟩)
      unfold FB at hb ⊢
      rw [eR_AC0 hV ⟨by omega, by omega⟩ (by omega)] at hb
      rcases hb with z | z | ⟨g, g0, g1, z⟩
      · exact Or.inl z
      · exact Or.inr (Or.inl z)
      · rw [eR_AC0 hV ⟨by omega, by omega⟩ (by omega)] at z
        exact Or.inr (Or.inr ⟨g, g0, g1, z⟩)
  · rintro ((⟨c, hc, d, d0, d1, d2⟩ | ⟨c, f, hf, hb⟩) | ⟨d, d0, d1, d2⟩)
    · have := hc.1
      have := hc.2
      refine Or.inl ⟨c, ⟨by omega, by rw [eC_AC]; omega⟩, d, d0, d1, ?_⟩
      rw [eR_AC0 hV ⟨d0, by omega⟩ (by omega), eR_AC0 hV ⟨by omega, by omega⟩ (by omega)]
      exact d2
    · have w := (hV.2.1 c hf.1).1
      obtain ⟨⟨c0, c1⟩, f0, f1⟩ := id hf
      refine Or.inr ⟨c, f, ⟨⟨c0, by rw [eC_AC]; omega⟩, f0, by rw [eF_AC, if_neg (by omega)]; exact f1⟩, ?_⟩
      unfold FB at hb ⊢
      rw [eR_AC0 hV ⟨by omega, by omega⟩ (by omega)]
      rcases hb with z | z | ⟨g, g0, g1, z⟩
      · exact Or.inl z
      · exact Or.inr (Or.inl z)
      · refine Or.inr (Or.inr ⟨g, g0, g1, ?_⟩)
        rw [eR_AC0 hV ⟨by omega, by omega⟩ (by omega)]
        exact z
    · refine Or.inl ⟨eC e, ⟨v1.1, by rw [eC_AC]; omega⟩, d, d0, d1, ?_⟩
      rw [eR_AC1 hV, eR_AC0 hV ⟨d0, by omega⟩ (by omega)]
      exact d2
theorem brk_AF (hV : PV e) (hc : 1 ≤ eC e) (hf : nF e < 4) : Brk (eAF e nm kd mk) ↔ (Brk e ∨ nm = wdC ∨ nm = wdI ∨ ∃ g, 0 ≤ g ∧ g < nF e ∧ eR e (6 + nC e * 4 + g) = nm) := by
  have v1 := hV.1
  have okn : okC e (nC e) := ⟨by unfold nC; omega, by unfold nC; omega⟩
  have hn : iv 0 4 (nF e) := (hV.2.1 (nC e) okn).1
  have hC : iv 0 5 (nC e) := by
    unfold nC
    exact ⟨by omega, by omega⟩
  constructor
  · rintro (⟨c, hc', d, d0, d1, d2⟩ | ⟨c, f, hf', hb⟩)
    · have hc' : okC e c := hc'
      have := hc'.2
      rw [eR_AF0 hV hc ⟨d0, by omega⟩ (by omega), eR_AF0 hV hc ⟨hc'.1, by omega⟩ (by omega)] at d2
      exact Or.inl (Or.inl ⟨c, hc', d, d0, d1, d2⟩)
    · unfold FB at hb
      rcases okF_AF hn.1 hf' with ⟨q1, q2⟩ | ⟨q, q2⟩
      · rw [q1, q2, eR_AF1 hV hc] at hb
        rcases hb with z | z | ⟨g, g0, g1, z⟩
        · exact Or.inr (Or.inl z)
        · exact Or.inr (Or.inr (Or.inl z))
        · rw [eR_AF0 hV hc ⟨by omega, by omega⟩ (by omega)] at z
          exact Or.inr (Or.inr (Or.inr ⟨g, g0, g1, z⟩))
      · have w := (hV.2.1 c q.1).1
        obtain ⟨⟨c0, c1⟩, f0, f1⟩ := id q
        have ne : ∀ g, 0 ≤ g → g ≤ f → ¬ 6 + c * 4 + g = 6 + nC e * 4 + nF e := fun g g0 g1 y => by
          have cc : c = nC e := by omega
          have fe : f < nF e := by
            rw [cc] at f1
            exact f1
          omega
        rw [eR_AF0 hV hc ⟨by omega, by omega⟩ (ne f f0 (Int.le_refl _))] at hb
        refine Or.inl (Or.inr ⟨c, f, q, ?_⟩)
        rcases hb with z | z | ⟨g, g0, g1, z⟩
        · exact Or.inl z
        · exact Or.inr (Or.inl z)
        · rw [eR_AF0 hV hc ⟨by omega, by omega⟩ (ne g g0 (by omega))] at z
          exact Or.inr (Or.inr ⟨g, g0, g1, z⟩)
  · have new : okF (eAF e nm kd mk) (nC e) (nF e) := ⟨okn, hn.1, by rw [eF_AF, if_pos rfl]; omega⟩
    rintro ((⟨c, hc', d, d0, d1, d2⟩ | ⟨c, f, hf', hb⟩) | z | z | ⟨g, g0, g1, z⟩)
    · have := hc'.2
      refine Or.inl ⟨c, hc', d, d0, d1, ?_⟩
      rw [eR_AF0 hV hc ⟨d0, by omega⟩ (by omega), eR_AF0 hV hc ⟨hc'.1, by omega⟩ (by omega)]
      exact d2
    · have w := (hV.2.1 c hf'.1).1
      obtain ⟨⟨c0, c1⟩, f0, f1⟩ := id hf'
      have ne : ∀ g, 0 ≤ g → g ≤ f → ¬ 6 + c * 4 + g = 6 + nC e * 4 + nF e := fun g g0 g1 y => by
        have cc : c = nC e := by omega
        have fe : f < nF e := by
          rw [cc] at f1
          exact f1
        omega
      have okf : okF (eAF e nm kd mk) c f := by
        refine ⟨hf'.1, f0, ?_⟩
        rw [eF_AF]
        by_cases y : c = nC e
        · rw [if_pos y]
          rw [y] at f1
          have f1 : f < nF e := f1
          omega
        · rw [if_neg y]
          exact f1
      refine Or.inr ⟨c, f, okf, ?_⟩
      unfold FB at hb ⊢
      rw [eR_AF0 hV hc ⟨by omega, by omega⟩ (ne f f0 (Int.le_refl _))]
      rcases hb with z | z | ⟨g, g0, g1, z⟩
      · exact Or.inl z
      · exact Or.inr (Or.inl z)
      · refine Or.inr (Or.inr ⟨g, g0, g1, ?_⟩)
        rw [eR_AF0 hV hc ⟨by omega, by omega⟩ (ne g g0 (by omega))]
        exact z
    · exact Or.inr ⟨nC e, nF e, new, Or.inl ((eR_AF1 hV hc).trans z)⟩
    · exact Or.inr ⟨nC e, nF e, new, Or.inr (Or.inl ((eR_AF1 hV hc).trans z))⟩
    · refine Or.inr ⟨nC e, nF e, new, Or.inr (Or.inr ⟨g, g0, g1, ?_⟩)⟩
      rw [eR_AF1 hV hc, eR_AF0 hV hc ⟨by omega, by omega⟩ (by omega)]
      exact z
end MB
/-- the model's new rows hold what was read -/
def mP (S : St) (e : Env) : Prop := (∀ c, okC e c → S.2 62 c = eF e c) ∧ (∀ c f, okF e c f → S.2 65 (4 * c + f) = eD e c f ∧ S.2 66 (4 * c + f) = eM e c f) ∧ (∀ k, okN e k → S.2 63 k = (eR e k).length ∧ nN S k = eR e k) ∧ iv 0 1 (S.1 54 24) ∧ (S.1 54 24 = 1 ↔ Brk e)
def Mp (S S' : St) : Prop := Ml S S' ∧ ∀ a, a < 62 ∨ 66 < a → S'.2 a = S.2 a
theorem Mp.rf {S : St} : Mp S S := ⟨Ml.rf, fun _ _ => rfl⟩
theorem Mp.tr {S S1 S2 : St} (h : Mp S S1) (g : Mp S1 S2) : Mp S S2 := ⟨h.1.tr g.1, fun a q => (g.2 a q).trans (h.2 a q)⟩
theorem mTx.mp {S S' : St} {T : Int → Int} {n : Int} (h : mTx S T n) (k : Mp S S') : mTx S' T n := h.mv k.1 (k.2 55 (by decide))
/-- a field in the making: x is its number -/
def Gx (S S' : St) (x : Int) : Prop := Ml S S' ∧ (∀ a, a < 63 ∨ 66 < a → S'.2 a = S.2 a) ∧ (∀ j, j ≠ 6 + x → S'.2 63 j = S.2 63 j) ∧ (∀ j, (j < 8 * (6 + x) ∨ 8 * (6 + x) + 8 ≤ j) → S'.2 64 j = S.2 64 j) ∧ (∀ j, j ≠ x → S'.2 65 j = S.2 65 j) ∧ ∀ j, j ≠ x → S'.2 66 j = S.2 66 j
theorem Gx.tr {S S1 S2 : St} {x : Int} (h : Gx S S1 x) (g : Gx S1 S2 x) : Gx S S2 x := ⟨h.1.tr g.1, fun a q => (g.2.1 a q).trans (h.2.1 a q), fun j q => (g.2.2.1 j q).trans (h.2.2.1 j q), fun j q => (g.2.2.2.1 j q).trans (h.2.2.2.1 j q), fun j q => (g.2.2.2.2.1 j q).trans (h.2.2.2.2.1 j q), fun j q => (g.2.2.2.2.2 j q).trans (h.2.2.2.2.2 j q)⟩
theorem Gx.mk {S S' : St} {x : Int} (h : Ml S S') (g : Mk S S' (6 + x)) : Gx S S' x := ⟨h, fun a q => g.1 a (by omega) (by omega), g.2.1, g.2.2, fun j _ => by rw [g.1 65 (by decide) (by decide)], fun j _ => by rw [g.1 66 (by decide) (by decide)]⟩
theorem Gx.ml {S S' : St} {x : Int} (h : Ml S S') (g : S'.2 = S.2) : Gx S S' x := Gx.mk h (by rw [show Mk S S' (6 + x) = Mk S (S.1, S'.2) (6 + x) from rfl, g]; exact Mk.rf)
theorem Gx.p65 {S : St} {x v : Int} : Gx S (pA S 65 x v) x := ⟨Ml.rf, fun a q => (pA_ne a (by omega)).2, fun j _ => by rw [(pA_ne 63 (by decide)).2], fun j _ => by rw [(pA_ne 64 (by decide)).2], fun j q => by rw [pA_if, if_neg q], fun j _ => by rw [(pA_ne 66 (by decide)).2]⟩
theorem Gx.p66 {S : St} {x v : Int} : Gx S (pA S 66 x v) x := ⟨Ml.rf, fun a q => (pA_ne a (by omega)).2, fun j _ => by rw [(pA_ne 63 (by decide)).2], fun j _ => by rw [(pA_ne 64 (by decide)).2], fun j _ => by rw [(pA_ne 65 (by decide)).2], fun j q => by rw [pA_if, if_neg q]⟩
theorem Gx.mp {S S' : St} {x : Int} (h : Gx S S' x) : Mp S S' := ⟨h.1, fun a q => h.2.1 a (by omega)⟩
theorem Gx.row {S S' : St} {x j : Int} (h : Gx S S' x) (q : j ≠ 6 + x) (q2 : iv 0 8 (S.2 63 j)) : nN S' j = nN S j := by
  unfold nN
  rw [h.2.2.1 j q]
  refine catF_eq _ _ (fun i h1 h2 => ?_)
  rw [h.2.2.2.1 (8 * j + i) (by omega)]
theorem mP_AF {S S' : St} {e : Env} {nm : List Int} {kd mk : Int} (hP : mP S e) (hV : PV e) (hc : 1 ≤ eC e) (hf : nF e < 4) (hG : Gx S S' (4 * nC e + nF e)) (h65 : S'.2 65 (4 * nC e + nF e) = kd) (h66 : S'.2 66 (4 * nC e + nF e) = mk) (hnm : nN S' (6 + (4 * nC e + nF e)) = nm) (hlen : S'.2 63 (6 + (4 * nC e + nF e)) = nm.length) (hb1 : iv 0 1 (S'.1 54 24)) (hb : S'.1 54 24 = 1 ↔ (Brk e ∨ nm = wdC ∨ nm = wdI ∨ ∃ g, 0 ≤ g ∧ g < nF e ∧ eR e (6 + nC e * 4 + g) = nm)) : mP (pA S' 62 (nC e) (nF e + 1)) (eAF e nm kd mk) := by
  obtain ⟨p1, p2, p3, p4, p5⟩ := hP
  have v1 := hV.1
  have okn : okC e (nC e) := ⟨by unfold nC; omega, by unfold nC; omega⟩
  have hn : iv 0 4 (nF e) := (hV.2.1 (nC e) okn).1
  have hC : iv 0 5 (nC e) := by
    unfold nC
    exact ⟨by omega, by omega⟩
  have ek : 6 + nC e * 4 + nF e = 6 + (4 * nC e + nF e) := by omega
  refine ⟨fun c hc' => ?_, fun c f hf' => ?_, fun k hk => ?_, hb1, ?_⟩
  · rw [pA_if, eF_AF]
    by_cases q : c = nC e
    · rw [if_pos q, if_pos q]
    · rw [if_neg q, if_neg q, hG.2.1 62 (by decide)]
      exact p1 c hc'
  · rw [(pA_ne 65 (by decide)).2, (pA_ne 66 (by decide)).2, eD_AF, eM_AF]
    rcases okF_AF hn.1 hf' with ⟨q1, q2⟩ | ⟨q, q2⟩
    · rw [if_pos ⟨q1, q2⟩, if_pos ⟨q1, q2⟩, show 4 * c + f = 4 * nC e + nF e by omega]
      exact ⟨h65, h66⟩
    · have w := (hV.2.1 c q.1).1
      have := q.2
      rw [if_neg q2, if_neg q2, hG.2.2.2.2.1 _ (by omega), hG.2.2.2.2.2 _ (by omega)]
      exact p2 c f q
  · have e1 : nN (pA S' 62 (nC e) (nF e + 1)) k = nN S' k := by
      unfold nN
      rw [(pA_ne 63 (by decide)).2, (pA_ne 64 (by decide)).2]
    rw [e1, (pA_ne 63 (by decide)).2]
    rcases okN_AF hV hc hf hk with q | ⟨q, q2⟩
    · rw [q, eR_AF1 hV hc, ek]
      exact ⟨hlen, hnm⟩
    · have q3 := okN_lt hV q
      obtain ⟨r1, r2⟩ := p3 k q
      have r3 := (hV.2.2.2 k q).2
      rw [eR_AF0 hV hc q3 q2, hG.2.2.1 k (by omega), hG.row (by omega) (by rw [r1]; omega)]
      exact ⟨r1, r2⟩
  · rw [brk_AF hV hc hf]
    exact hb

