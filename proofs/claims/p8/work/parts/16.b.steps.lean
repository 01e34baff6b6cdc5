set_option maxRecDepth 100000 in
set_option maxHeartbeats 4000000 in
theorem tX11_make2 {a1 : Int} {S : St} {K : Int → St → Prop} (p1 : HV S) (hK : ∀ (r : Int) (S' : St), Ch [] [67, 68, 69] S S' → (HV S') → ((S'.2 67) 1 = (S.2 67) 1) → K r S') : wX11_make a1 S K := by
  unfold wX11_make
  intro g1
  intro q1
  refine ⟨by omega, ?_⟩
  refine tX11_in  (fun r8 n8_0 => ?_)
  refine ⟨by omega, ?_⟩
  refine ⟨fun h11 => ?_, fun h11 => ?_⟩
  · exact hK ((-1)) S (Ch.wk Ch.rf (by decide) (by decide)) (p1) (by omega)
  · refine ⟨by omega, by omega, ?_⟩
    intro q2
    refine ⟨fun h22 => ?_, fun h22 => ?_⟩
    · refine tX11_object (by omega) (by omega) (by omega) (fun r30 S30 hS30 n30_0 n30_1 n30_2 n30_3 n30_4 => ?_)
      have hq1 := n30_2 1
      first | have e3 : S30.2 67 1 = S.2 67 1 := by have q := n30_2 1; omega | have e3 := n30_2 1
      have e4 : S30.1 54 2 = S.1 54 2 := hS30.1 2 (by decide)
      exact hK (r30) S30 (Ch.wk hS30 (by decide) (by decide)) (HV_obj p1 (c := a1) ⟨n30_2, by rw [show (30 : Int) * 0 + S.2 67 0 = S.2 67 0 by omega] at n30_0; rw [n30_0] at n30_3; exact n30_3, by rw [show (30 : Int) * 0 + S.2 67 0 = S.2 67 0 by omega] at n30_0; rw [n30_0] at n30_4; exact n30_4⟩ (hS30.2 59 (by decide)) (hS30.2 70 (by decide)) (hS30.1 2 (by decide)) (by omega) (by omega) (by omega)) (by omega)
    · exact hK ((-1)) S (Ch.wk Ch.rf (by decide) (by decide)) (p1) (by omega)

/-! WHAT STAYS BETWEEN CALLS: of the model -/
def NMD (S : St) : Prop := ∀ x y : Int, x < 0 ∨ S.1 54 2 ≤ x ∨ (1 ≤ S.2 57 x ∧ (y < 0 ∨ 3 < y ∨ S.2 56 x ≤ y ∨ 1 ≤ S.2 57 (6 + (4 * x + y))))
theorem NMD.nmc {S : St} (h : NMD S) (hc : ∀ x, S.2 56 x ≤ 4) : NMC S := by
  intro x y
  have h1 := h x y
  have h2 := hc x
  omega
def MI (S : St) : Prop := HV S ∧ NMD S ∧ (S.1 54 18 = 0 ∨ 1 ≤ S.2 67 1)
def KM (S : St) : Int → St → Prop := fun _ S' => MI S' ∧ S'.1 54 19 = S.1 54 19
theorem NMD.mv {S S' : St} (h : NMD S) (e2 : S'.1 54 2 = S.1 54 2) (e56 : S'.2 56 = S.2 56) (e57 : S'.2 57 = S.2 57) : NMD S' := by
  unfold NMD
  rw [e2, e56, e57]
  exact h
theorem MI.mv {S S' : St} (h : MI S) (e2 : S'.1 54 2 = S.1 54 2) (e18 : S'.1 54 18 = S.1 54 18) (e56 : S'.2 56 = S.2 56) (e57 : S'.2 57 = S.2 57) (e59 : S'.2 59 = S.2 59) (e67 : S'.2 67 = S.2 67) (e68 : S'.2 68 = S.2 68) (e69 : S'.2 69 = S.2 69) (e70 : S'.2 70 = S.2 70) : MI S' := by
  refine ⟨HV.mv h.1 e2 e59 e67 e68 e69 e70, NMD.mv h.2.1 e2 e56 e57, ?_⟩
  rw [e18, e67]
  exact h.2.2
theorem MI.hv {S S' : St} (h : MI S) (hv : HV S') (e2 : S'.1 54 2 = S.1 54 2) (e18 : S'.1 54 18 = S.1 54 18) (e56 : S'.2 56 = S.2 56) (e57 : S'.2 57 = S.2 57) (e67 : S'.2 67 1 = S.2 67 1) : MI S' := by
  refine ⟨hv, NMD.mv h.2.1 e2 e56 e57, ?_⟩
  rw [e18, e67]
  exact h.2.2
theorem HV0 {S : St} (h0 : S.2 67 0 = 0) (h1 : S.2 67 1 = 0) : HV S := by
  refine ⟨fun x y => ?_, fun x y z => ?_, fun x y z => ?_, fun x => ?_, fun x y => ?_, fun x y z => ?_⟩ <;> omega
theorem MI0 : MI S0m := ⟨HV0 rfl rfl, fun x y => (by
  by_cases h : x < 0
  · exact Or.inl h
  · exact Or.inr (Or.inl (show (0 : Int) ≤ x by omega))), Or.inl rfl⟩
section MU
variable {G : xG} {J : St → List va_E → Prop} {S : St} {cs : List va_E}
theorem mU_unit {a1 : Int} (hM : Wd G shM mT J S cs) (hI : MI S) : wX11_unit a1 S (KM S) := tX11_unit  (fun r S' hc  => ⟨hI.mv (hc.1 2 (by decide)) (hc.1 18 (by decide)) (hc.2 56 (by decide)) (hc.2 57 (by decide)) (hc.2 59 (by decide)) (hc.2 67 (by decide)) (hc.2 68 (by decide)) (hc.2 69 (by decide)) (hc.2 70 (by decide)), hc.1 19 (by decide)⟩)
theorem mU_classes (hM : Wd G shM mT J S cs) (hI : MI S) : wX11_classes  S (KM S) := tX11_classes (mI0 hM) (fun r S' hc n0 n1 n2 n3 n4 => by
  refine ⟨?_, hc.1 19 (by decide)⟩
  by_cases h : r < 0
  · have hc2 := n2.resolve_left (by omega)
    exact hI.mv (hc2.1 2 (by decide)) (hc2.1 18 (by decide)) (hc2.2 56 (by decide)) (hc2.2 57 (by decide)) (hc2.2 59 (by decide)) (hc2.2 67 (by decide)) (hc2.2 68 (by decide)) (hc2.2 69 (by decide)) (hc2.2 70 (by decide))
  · have h1 := n1.resolve_left h
    refine ⟨HV0 h1.2.2.1 h1.2.2.2, fun x y => ?_, Or.inl h1.2.1⟩
    have q3 := n3 x
    have q4 := n4 x y
    have q5 := (h1.1)
    rw [q5]
    omega)
theorem mU_make {a1 : Int} (hM : Wd G shM mT J S cs) (hI : MI S) : wX11_make a1 S (KM S) := tX11_make2 hI.1 (fun r S' hc n0 n1 => ⟨hI.hv n0 (hc.1 2 (by decide)) (hc.1 18 (by decide)) (hc.2 56 (by decide)) (hc.2 57 (by decide)) n1, hc.1 19 (by decide)⟩)
theorem mU_set {a1 a2 a3 : Int} (hM : Wd G shM mT J S cs) (hI : MI S) : wX11_set a1 a2 a3 S (KM S) := tX11_set hI.1 (mA67 hM 0).2 (fun r S' hc n0 n1 => ⟨hI.hv n0 (hc.1 2 (by decide)) (hc.1 18 (by decide)) (hc.2 56 (by decide)) (hc.2 57 (by decide)) (congrFun (hc.2 67 (by decide)) 1), hc.1 19 (by decide)⟩)
theorem mU_text {a1 a2 : Int} (hM : Wd G shM mT J S cs) (hI : MI S) : wX11_text a1 a2 S (KM S) := tX11_text hI.1 (mA67 hM 0).2 (mI0 hM) (fun r S' hc n0 n1 => ⟨hI.hv n0 (hc.1 2 (by decide)) (hc.1 18 (by decide)) (hc.2 56 (by decide)) (hc.2 57 (by decide)) (congrFun (hc.2 67 (by decide)) 1), hc.1 19 (by decide)⟩)
theorem mU_add {a1 a2 a3 : Int} (hM : Wd G shM mT J S cs) (hI : MI S) : wX11_add a1 a2 a3 S (KM S) := tX11_add hI.1 (mA67 hM 0).2 (fun r S' hc n0 n1 => ⟨hI.hv n0 (hc.1 2 (by decide)) (hc.1 18 (by decide)) (hc.2 56 (by decide)) (hc.2 57 (by decide)) (congrFun (hc.2 67 (by decide)) 1), hc.1 19 (by decide)⟩)
theorem mU_limit {a1 : Int} (hM : Wd G shM mT J S cs) (hI : MI S) : wX11_limit a1 S (fun r S' => MI S' ∧ ((iv 1 20 a1 ∧ r = S.1 54 19 ∧ S'.1 54 19 = a1) ∨ (¬ iv 1 20 a1 ∧ r = -1 ∧ S'.1 54 19 = S.1 54 19))) := tX11_limit (fun r S' hc n0 => ⟨hI.mv (hc.1 2 (by decide)) (hc.1 18 (by decide)) (hc.2 56 (by decide)) (hc.2 57 (by decide)) (hc.2 59 (by decide)) (hc.2 67 (by decide)) (hc.2 68 (by decide)) (hc.2 69 (by decide)) (hc.2 70 (by decide)), n0⟩)
theorem mU_write {a1 a2 : Int} (hM : Wd G shM mT J S cs) (hI : MI S) : wX11_write a1 a2 S (KM S) := tX11_write (OK0_g.mpr hI.1.1) (OL0_g.mpr ⟨hI.1.2.1, hI.1.2.2.1⟩) (NMS_of hI.1.2.2.2.1 (hI.2.1.nmc (fun x => (mA56 hM x).2)) (fun x => (mA68 hM x).1)) (mA67 hM 0).2 (mI19 hM) (fun r S' hc n0 => ⟨hI.mv (hc.1 2 (by decide)) (hc.1 18 (by decide)) (hc.2 56 (by decide)) (hc.2 57 (by decide)) (hc.2 59 (by decide)) (hc.2 67 (by decide)) (hc.2 68 (by decide)) (hc.2 69 (by decide)) (hc.2 70 (by decide)), hc.1 19 (by decide)⟩)
theorem mU_sign {a1 : Int} (hM : Wd G shM mT J S cs) (hI : MI S) : wX11_sign a1 S (KM S) := tX11_sign  (fun r n0 => ⟨hI, rfl⟩)
theorem mU_take (hM : Wd G shM mT J S cs) (hI : MI S) : wX11_take  S (KM S) := tX11_take  (fun r S' hc n0 => ⟨hI.mv (hc.1 2 (by decide)) (hc.1 18 (by decide)) (hc.2 56 (by decide)) (hc.2 57 (by decide)) (hc.2 59 (by decide)) (hc.2 67 (by decide)) (hc.2 68 (by decide)) (hc.2 69 (by decide)) (hc.2 70 (by decide)), hc.1 19 (by decide)⟩)
theorem mU_forbid {a1 a2 : Int} (hb : iv 0 1 a2) (hM : Wd G shM mT J S cs) (hI : MI S) : wX11_forbid a1 a2 S (KM S) := tX11_forbid hb (fun r S' hc n0 => ⟨hI.mv (hc.1 2 (by decide)) (hc.1 18 (by decide)) (hc.2 56 (by decide)) (hc.2 57 (by decide)) (hc.2 59 (by decide)) (hc.2 67 (by decide)) (hc.2 68 (by decide)) (hc.2 69 (by decide)) (hc.2 70 (by decide)), hc.1 19 (by decide)⟩)
theorem mU_read (hM : Wd G shM mT J S cs) (hI : MI S) : wX11_read  S (KM S) := tX11_read hI.1 (mI0 hM) (mA67 hM 0).2 (mA67 hM 1).2 hI.2.2 (fun r S' hc n0 n1 n2 => ⟨⟨n0, NMD.mv hI.2.1 (hc.1 2 (by decide)) (hc.2 56 (by decide)) (hc.2 57 (by decide)), n1⟩, hc.1 19 (by decide)⟩)
theorem mU_same {a1 : Int} (hM : Wd G shM mT J S cs) (hI : MI S) : wX11_same a1 S (KM S) := tX11_same hI.1 hI.2.2 (mA67 hM 0).2 (mA67 hM 1).2 (fun r S' hc n0 => ⟨hI.mv (hc.1 2 (by decide)) (hc.1 18 (by decide)) (hc.2 56 (by decide)) (hc.2 57 (by decide)) (hc.2 59 (by decide)) (hc.2 67 (by decide)) (hc.2 68 (by decide)) (hc.2 69 (by decide)) (hc.2 70 (by decide)), hc.1 19 (by decide)⟩)
theorem mU_kind {a1 a2 : Int} (hM : Wd G shM mT J S cs) (hI : MI S) : wX11_kind a1 a2 S (KM S) := tX11_kind  (fun r n0 => ⟨hI, rfl⟩)
theorem mU_value {a1 a2 a3 a4 : Int} (hM : Wd G shM mT J S cs) (hI : MI S) : wX11_value a1 a2 a3 a4 S (KM S) := tX11_value hI.1 (mA67 hM 0).2 (mA67 hM 1).2 (fun r n0 => ⟨hI, rfl⟩)
theorem mU_count {a1 : Int} (hM : Wd G shM mT J S cs) (hI : MI S) : wX11_count a1 S (KM S) := tX11_count  (fun r n0 => ⟨hI, rfl⟩)
end MU
/-! both -/
def Jc (c0 : List va_E) : St → List va_E → Prop := fun _ cs => cs.length = c0.length ∧ xZ cs = xZ c0 ∧ ∀ a, shM a = none → cs[a]? = c0[a]?
theorem Jc_stb (c0 : List va_E) : Stb shM (Jc c0) := by
  intro S S' cs a x e0 e h hs h0 hz hn
  refine ⟨by rw [List.length_set]; exact h.1, by rw [xZ_set h0 hz]; exact h.2.1, fun b hb => ?_⟩
  rw [List.getElem?_set_ne fun q => by subst q; rw [hs] at hb; cases hb]
  exact h.2.2 b hb
theorem Wd.toJ {G : xG} {S : St} {cs : List va_E} (h : Wd G shM mT (fun _ _ => True) S cs) : Wd G shM mT (Jc cs) S cs := ⟨h.1, h.2.1, rfl, rfl, fun _ _ => rfl⟩
/-- what holds before a call: k calls may have been made -/
def LI (G : xG) (k : Nat) (cs : List va_E) : Prop := ∃ (τ : Tau) (S : St) (p : Nat), WT G (B0 k) τ cs ∧ Wd G shM mT (fun _ _ => True) S cs ∧ MI S ∧ τ 0 = some (.inl (10, p)) ∧ S.1 54 19 = (p : Int) ∧ (∀ a, 54 ≤ a → a < 107 → τ a = none) ∧ 107 ≤ cs.length
theorem LI0 (G : xG) : LI G 0 (w0 G) := ⟨tau0, S0m, 10, W0 G, M0 G, MI0, rfl, rfl, fun a h _ => tau0_n a h, by rw [w0_len]; exact Nat.le_refl _⟩
theorem B0_ok {k : Nat} (h : k ≤ 512) : (B0 k).1 + 20 ≤ 600000 ∧ (B0 k).2 + 1200 ≤ 7302250 := by
  unfold B0
  exact ⟨by show _ + 20 * k + 20 ≤ _; omega, by show _ + 1200 * k + 1200 ≤ _; omega⟩
theorem B0_s {k : Nat} : B0 (k + 1) = ((B0 k).1 + 20, (B0 k).2 + 1200) := by
  unfold B0
  rw [show 20 * (k + 1) = 20 * k + 20 by omega, show 1200 * (k + 1) = 1200 * k + 1200 by omega, ← Nat.add_assoc, ← Nat.add_assoc]
theorem LI_r {G : xG} {k : Nat} {cs : List va_E} (h : LI G k cs) (hk : k ≤ 511) : LI G (k + 1) cs := by
  obtain ⟨τ, S, p, hW, h⟩ := h
  have := B0_ok (k := k) (by omega)
  exact ⟨τ, S, p, hW.up (by rw [B0_s]; exact Nat.le_add_right _ _) (by rw [B0_s]; exact Nat.le_add_right _ _) (by rw [B0_s]; exact this.1) (by rw [B0_s]; exact this.2), h⟩
theorem Wd_fx {G : xG} {W : List Nat} {τ τ1 : Tau} {cs c1 : List va_E} {S : St} (hM : Wd G shM mT (fun _ _ => True) S cs) (hX : Fx W τ cs τ1 c1) (hn : ∀ a, 54 ≤ a → a < 107 → τ a = none) (hl : 107 ≤ cs.length) : Wd G shM mT (fun _ _ => True) S c1 ∧ (∀ a, 54 ≤ a → a < 107 → τ1 a = none) := by
  refine ⟨⟨fun a x h => ?_, hM.2.1, trivial⟩, fun a h1 h2 => (hX.2.2.1 a (by omega) (hn a h1 h2)).2⟩
  have q := shM_s h
  rw [(hX.2.2.1 a (by omega) (hn a q.1 q.2)).1]
  exact hM.1 a x h
theorem LI_w {G : xG} {k : Nat} {W : List Nat} {τ τ1 : Tau} {cs c1 : List va_E} {S : St} {p : Nat} (hW1 : WT G (B0 k) τ1 c1) (hX : Fx W τ cs τ1 c1) (hM : Wd G shM mT (fun _ _ => True) S cs) (hI : MI S) (h0 : τ 0 = some (.inl (10, p))) (hp : S.1 54 19 = (p : Int)) (hn : ∀ a, 54 ≤ a → a < 107 → τ a = none) (hl : 107 ≤ cs.length) : LI G k c1 := by
  obtain ⟨a, b⟩ := Wd_fx hM hX hn hl
  exact ⟨τ1, S, p, hW1, a, hI, hX.1.e h0 (by decide), hp, b, Nat.le_trans hl hX.2.1⟩
theorem LI_m {G : xG} {k : Nat} {τ : Tau} {cs c1 : List va_E} {S' : St} {p : Nat} (hW : WT G (B0 k) τ cs) (hM : Wd G shM mT (Jc cs) S' c1) (hI : MI S') (h0 : τ 0 = some (.inl (10, p))) (hp : S'.1 54 19 = (p : Int)) (hn : ∀ a, 54 ≤ a → a < 107 → τ a = none) (hl : 107 ≤ cs.length) : LI G k c1 := by
  obtain ⟨j1, j2, j3⟩ := hM.2.2
  refine ⟨τ, S', p, hW.alter (by omega) (fun a t h => j3 a (shM_n ?_)) (by omega) (by omega) hW.2.2.2.2.2.2.2.2.1 hW.2.2.2.2.2.2.2.2.2, ⟨hM.1, hM.2.1, trivial⟩, hI, h0, hp, hn, by omega⟩
  by_cases q : a < 54 ∨ 107 ≤ a
  · exact q
  · rw [hn a (by omega) (by omega)] at h
    cases h
