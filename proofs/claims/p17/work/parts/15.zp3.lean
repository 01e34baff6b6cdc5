/-! THE CLASS READS CLASSES: a field -/
theorem bits_f : ∀ (b : Fin 16) (f g : Fin 4), (bnd (bsr (bor ((b : Nat) : Int) (bsl 1 ((f : Nat) : Int))) ((g : Nat) : Int)) 1 = 0 ↔ (¬ g = f ∧ bnd (bsr ((b : Nat) : Int) ((g : Nat) : Int)) 1 = 0)) ∧ iv 0 15 (bor ((b : Nat) : Int) (bsl 1 ((f : Nat) : Int))) ∧ bor ((b : Nat) : Int) 0 = ((b : Nat) : Int) := by decide +kernel
theorem bits0 : ∀ g : Fin 4, bnd (bsr 0 ((g : Nat) : Int)) 1 = 0 := by decide +kernel
theorem bits {b f g : Int} (hb : iv 0 15 b) (hf : iv 0 3 f) (hg : iv 0 3 g) : (bnd (bsr (bor b (bsl 1 f)) g) 1 = 0 ↔ (¬ g = f ∧ bnd (bsr b g) 1 = 0)) ∧ iv 0 15 (bor b (bsl 1 f)) ∧ bor b 0 = b := by
  have h := bits_f ⟨b.toNat, by omega⟩ ⟨f.toNat, by omega⟩ ⟨g.toNat, by omega⟩
  dsimp only at h
  rw [show ((b.toNat : Nat) : Int) = b by omega, show ((f.toNat : Nat) : Int) = f by omega, show ((g.toNat : Nat) : Int) = g by omega] at h
  refine ⟨⟨fun q => ?_, fun q => h.1.mpr ⟨fun r => q.1 ?_, q.2⟩⟩, h.2⟩
  · have := h.1.mp q
    refine ⟨fun r => this.1 ?_, this.2⟩
    rw [Fin.mk.injEq, r]
  · rw [Fin.mk.injEq] at r
    omega
/-- the class's spare schema holds what was read -/
def RB (S : St) (e : Env) (c : Int) : Prop := iv 0 15 (S.2 40 c) ∧ ∀ f, 0 ≤ f → f < 4 → (¬ bnd (bsr (S.2 40 c) f) 1 = 0 ↔ (f < eF e c ∧ eD e c f = 2))
def cP (S : St) (e : Env) : Prop := S.1 33 8 = eC e ∧ (∀ c, okC e c → S.2 38 c = eF e c ∧ S.2 39 c = eI e c ∧ S.2 41 c = 0 ∧ RB S e c) ∧ (∀ c f, okF e c f → S.2 36 (c * 4 + f) = eD e c f + 1 ∧ S.2 37 (c * 4 + f) = (if eD e c f ≤ 1 ∧ eM e c f = 1 then 1 else 0)) ∧ ∀ k, okN e k → iv 0 16 (S.2 35 k) ∧ cRow S k = eL e k
def Cq (S S' : St) : Prop := (∀ a j, ¬ (a = 33 ∧ j = 8) → ¬ (a = 200 ∧ j = 2) → S'.1 a j = S.1 a j) ∧ ∀ a, a < 34 ∨ 41 < a → S'.2 a = S.2 a
theorem Cq.rf {S : St} : Cq S S := ⟨fun _ _ _ _ => rfl, fun _ _ => rfl⟩
theorem Cq.tr {S S1 S2 : St} (h : Cq S S1) (g : Cq S1 S2) : Cq S S2 := ⟨fun a j q1 q2 => (g.1 a j q1 q2).trans (h.1 a j q1 q2), fun a q => (g.2 a q).trans (h.2 a q)⟩
theorem cTx.cq {S S' : St} {T : Int → Int} {n : Int} (h : cTx S T n) (k : Cq S S') : cTx S' T n := h.mv (k.1 1 1 (by decide) (by decide)) (k.2 1 (by decide))
/-- a field in the making -/
def FS (S S' : St) (c f d at1 im rb : Int) : Prop := Pl S S' ∧ (∀ a, a < 34 ∨ 41 < a → S'.2 a = S.2 a) ∧ (∀ j, S'.2 36 j = if j = c * 4 + f then d else S.2 36 j) ∧ (∀ j, S'.2 37 j = if j = c * 4 + f then at1 else S.2 37 j) ∧ (∀ j, S'.2 38 j = if j = c then f + 1 else S.2 38 j) ∧ (∀ j, S'.2 39 j = if j = c then im else S.2 39 j) ∧ (∀ j, S'.2 40 j = if j = c then rb else S.2 40 j) ∧ S'.2 41 = S.2 41 ∧ (∀ j, j ≠ 6 + c * 4 + f → S'.2 35 j = S.2 35 j) ∧ ∀ j, (j < (6 + c * 4 + f) * 16 ∨ (6 + c * 4 + f) * 16 + 16 ≤ j) → S'.2 34 j = S.2 34 j
section FD
variable {S S' S2 : St} {K : Int → St → Prop} {T : Int → Int} {n p c f d at1 im rb x q : Int} {e : Env} {nm : List Int} {kd mk : Int}
theorem FS.mv (h : FS S S' c f d at1 im rb) (h1 : Pl S' S2) (h2 : Lt S' S2 (6 + c * 4 + f)) : FS S S2 c f d at1 im rb := by
  obtain ⟨a1, a2, a3, a4, a5, a6, a7, a8, a9, a10⟩ := h
  refine ⟨a1.tr h1, fun a q => (h2.1 a (by omega) (by omega)).trans (a2 a q), fun j => ?_, fun j => ?_, fun j => ?_, fun j => ?_, fun j => ?_, (h2.1 41 (by decide) (by decide)).trans a8, fun j q => (h2.2.1 j q).trans (a9 j q), fun j q => (h2.2.2 j q).trans (a10 j q)⟩
  · rw [h2.1 36 (by decide) (by decide)]
    exact a3 j
  · rw [h2.1 37 (by decide) (by decide)]
    exact a4 j
  · rw [h2.1 38 (by decide) (by decide)]
    exact a5 j
  · rw [h2.1 39 (by decide) (by decide)]
    exact a6 j
  · rw [h2.1 40 (by decide) (by decide)]
    exact a7 j
theorem ifif {i : Int} {a b : Int} {g : Int} : ∀ j, (if j = i then a else if j = i then b else g) = if j = i then a else g := fun j => by
  by_cases h : j = i
  · rw [if_pos h, if_pos h]
  · rw [if_neg h, if_neg h, if_neg h]
theorem FS.p36 (h : FS S S' c f d at1 im rb) : FS S (pA S' 36 (c * 4 + f) x) c f x at1 im rb := by
  obtain ⟨a1, a2, a3, a4, a5, a6, a7, a8, a9, a10⟩ := h
  exact ⟨a1, fun a q => (pA_ne a (by omega)).2.trans (a2 a q), fun j => by rw [pA_if, a3 j]; exact ifif j, fun j => by rw [(pA_ne 37 (by decide)).2]; exact a4 j, fun j => by rw [(pA_ne 38 (by decide)).2]; exact a5 j, fun j => by rw [(pA_ne 39 (by decide)).2]; exact a6 j, fun j => by rw [(pA_ne 40 (by decide)).2]; exact a7 j, (pA_ne 41 (by decide)).2.trans a8, fun j q => by rw [(pA_ne 35 (by decide)).2]; exact a9 j q, fun j q => by rw [(pA_ne 34 (by decide)).2]; exact a10 j q⟩
theorem FS.p37 (h : FS S S' c f d at1 im rb) : FS S (pA S' 37 (c * 4 + f) x) c f d x im rb := by
  obtain ⟨a1, a2, a3, a4, a5, a6, a7, a8, a9, a10⟩ := h
  exact ⟨a1, fun a q => (pA_ne a (by omega)).2.trans (a2 a q), fun j => by rw [(pA_ne 36 (by decide)).2]; exact a3 j, fun j => by rw [pA_if, a4 j]; exact ifif j, fun j => by rw [(pA_ne 38 (by decide)).2]; exact a5 j, fun j => by rw [(pA_ne 39 (by decide)).2]; exact a6 j, fun j => by rw [(pA_ne 40 (by decide)).2]; exact a7 j, (pA_ne 41 (by decide)).2.trans a8, fun j q => by rw [(pA_ne 35 (by decide)).2]; exact a9 j q, fun j q => by rw [(pA_ne 34 (by decide)).2]; exact a10 j q⟩
theorem FS.p39 (h : FS S S' c f d at1 im rb) : FS S (pA S' 39 c x) c f d at1 x rb := by
  obtain ⟨a1, a2, a3, a4, a5, a6, a7, a8, a9, a10⟩ := h
  exact ⟨a1, fun a q => (pA_ne a (by omega)).2.trans (a2 a q), fun j => by rw [(pA_ne 36 (by decide)).2]; exact a3 j, fun j => by rw [(pA_ne 37 (by decide)).2]; exact a4 j, fun j => by rw [(pA_ne 38 (by decide)).2]; exact a5 j, fun j => by rw [pA_if, a6 j]; exact ifif j, fun j => by rw [(pA_ne 40 (by decide)).2]; exact a7 j, (pA_ne 41 (by decide)).2.trans a8, fun j q => by rw [(pA_ne 35 (by decide)).2]; exact a9 j q, fun j q => by rw [(pA_ne 34 (by decide)).2]; exact a10 j q⟩
theorem FS.p40 (h : FS S S' c f d at1 im rb) : FS S (pA S' 40 c x) c f d at1 im x := by
  obtain ⟨a1, a2, a3, a4, a5, a6, a7, a8, a9, a10⟩ := h
  exact ⟨a1, fun a q => (pA_ne a (by omega)).2.trans (a2 a q), fun j => by rw [(pA_ne 36 (by decide)).2]; exact a3 j, fun j => by rw [(pA_ne 37 (by decide)).2]; exact a4 j, fun j => by rw [(pA_ne 38 (by decide)).2]; exact a5 j, fun j => by rw [(pA_ne 39 (by decide)).2]; exact a6 j, fun j => by rw [pA_if, a7 j]; exact ifif j, (pA_ne 41 (by decide)).2.trans a8, fun j q => by rw [(pA_ne 35 (by decide)).2]; exact a9 j q, fun j q => by rw [(pA_ne 34 (by decide)).2]; exact a10 j q⟩
theorem FS.cq (h : FS S S' c f d at1 im rb) : Cq S S' := ⟨fun a j q1 q2 => h.1 a j q2, h.2.1⟩
theorem b_isField (h33 : c < S.1 33 8) (h38 : f < S.2 38 c) (c0 : 0 ≤ c) (c6 : c < 6) (f0 : 0 ≤ f) (hK : K 1 S) : wX4_isField_b c f S K := by
  unfold wX4_isField_b
  intro _ _
  exact ⟨fun h => absurd h (by omega), fun _ _ => ⟨fun h => absurd h (by omega), fun _ => ⟨fun h => absurd h (by omega), fun _ => ⟨c0, c6, fun _ => ⟨fun h => absurd h (by omega), fun _ => hK⟩⟩⟩⟩⟩
theorem b_impl (h33 : c < S.1 33 8) (c0 : 0 ≤ c) (c6 : c < 6) (hK : K (S.2 39 c) S) : wX4_implicit_b c S K := by
  unfold wX4_implicit_b wX4_isClass_b
  intro g g2
  exact ⟨fun h => absurd h (by omega), fun _ _ => ⟨fun h => absurd h (by omega), fun _ => ⟨⟨by decide, by decide⟩, fun h => absurd h (by decide), fun _ => ⟨c0, c6, fun _ => hK⟩⟩⟩⟩
/-- the field that was read -/
theorem cP_AF (hP : cP S e) (hV : PV e) (hc : 1 ≤ eC e) (hf : nF e < 4) (hk : iv 0 3 kd) (hF : FS S S' (nC e) (nF e) (kd + 1) (if kd ≤ 1 ∧ mk = 1 then 1 else 0) (if kd = 3 ∧ mk = 1 then nF e else eI e (nC e)) (if kd = 2 then bor (S.2 40 (nC e)) (bsl 1 (nF e)) else S.2 40 (nC e))) (hr : cRow S' (6 + nC e * 4 + nF e) = xl nm) (h16 : iv 0 16 (S'.2 35 (6 + nC e * 4 + nF e))) : cP S' (eAF e nm kd mk) := by
  obtain ⟨p1, p2, p3, p4⟩ := hP
  obtain ⟨a1, a2, a3, a4, a5, a6, a7, a8, a9, a10⟩ := hF
  have okn : okC e (nC e) := ⟨by unfold nC; omega, by unfold nC; omega⟩
  have v := hV.2.1 (nC e) okn
  have hn : iv 0 4 (nF e) := v.1
  have hC : iv 0 5 (nC e) := by
    have := hV.1
    unfold nC
    exact ⟨by omega, by omega⟩
  refine ⟨(a1 33 8 (by decide)).trans p1, fun c hc => ?_, fun c f hf => ?_, fun k hk => ?_⟩
  · have hc : okC e c := hc
    obtain ⟨q1, q2, q3, q4⟩ := p2 c hc
    rw [eF_AF, eI_AF, a5, a6, a8]
    by_cases z : c = nC e
    · rw [z] at q1 q2 q3 q4 ⊢
      rw [if_pos rfl, if_pos rfl, if_pos rfl]
      refine ⟨rfl, ?_, q3, ?_⟩
      · by_cases r : kd = 3 ∧ mk = 1
        · rw [if_pos r, if_pos ⟨rfl, r⟩]
        · rw [if_neg r, if_neg (fun y => r y.2)]
      · obtain ⟨b1, b2⟩ := q4
        unfold RB
        rw [a7, if_pos rfl]
        have bt : ∀ g, 0 ≤ g → g < 4 → (¬ bnd (bsr (S.2 40 (nC e)) g) 1 = 0 ↔ (g < nF e ∧ eD e (nC e) g = 2)) := b2
        by_cases r : kd = 2
        · rw [if_pos r]
          refine ⟨(bits (g := 0) b1 ⟨hn.1, by omega⟩ ⟨by decide, by decide⟩).2.1, fun g g1 g2 => ?_⟩
          have bb := (bits b1 ⟨hn.1, by omega⟩ (⟨g1, by omega⟩ : iv 0 3 g)).1
          have b3 := bt g g1 g2
          rw [eF_AF, eD_AF, if_pos rfl]
          by_cases y : g = nF e
          · rw [if_pos ⟨rfl, y⟩]
            exact ⟨fun _ => ⟨by omega, r⟩, fun _ w => (bb.mp w).1 y⟩
          · rw [if_neg (fun w => y w.2)]
            refine ⟨fun w => ?_, fun w u => ?_⟩
            · have w2 := b3.mp (fun u => w (bb.mpr ⟨y, u⟩))
              exact ⟨by omega, w2.2⟩
            · exact b3.mpr ⟨by omega, w.2⟩ (bb.mp u).2
        · rw [if_neg r]
          refine ⟨b1, fun g g1 g2 => ?_⟩
          have b3 := bt g g1 g2
          rw [eF_AF, eD_AF, if_pos rfl]
          by_cases y : g = nF e
          · rw [if_pos ⟨rfl, y⟩]
            refine ⟨fun w => ?_, fun w => absurd w.2 r⟩
            have := (b3.mp w).1
            omega
          · rw [if_neg (fun w => y w.2)]
            refine ⟨fun w => ?_, fun w => b3.mpr ⟨by omega, w.2⟩⟩
            have := b3.mp w
            exact ⟨by omega, this.2⟩
    · rw [if_neg z, if_neg z, if_neg z, if_neg (fun y => z y.1)]
      refine ⟨q1, q2, q3, ?_⟩
      obtain ⟨b1, b2⟩ := q4
      unfold RB
      rw [a7, if_neg z]
      refine ⟨b1, fun g g1 g2 => ?_⟩
      rw [eF_AF, eD_AF, if_neg z, if_neg (fun y => z y.1)]
      exact b2 g g1 g2
  · rw [a3, a4, eD_AF, eM_AF]
    rcases okF_AF hn.1 hf with ⟨q1, q2⟩ | ⟨q, q2⟩
    · rw [if_pos (show c * 4 + f = nC e * 4 + nF e by omega), if_pos (show c * 4 + f = nC e * 4 + nF e by omega), if_pos (show c = nC e ∧ f = nF e from ⟨q1, q2⟩), if_pos (show c = nC e ∧ f = nF e from ⟨q1, q2⟩)]
      exact ⟨rfl, rfl⟩
    · have := (hV.2.1 c q.1).1
      have := q.2
      rw [if_neg (show ¬ c * 4 + f = nC e * 4 + nF e by omega), if_neg (show ¬ c * 4 + f = nC e * 4 + nF e by omega), if_neg (show ¬ (c = nC e ∧ f = nF e) from q2), if_neg (show ¬ (c = nC e ∧ f = nF e) from q2)]
      exact p3 c f q
  · rw [eL_AF]
    rcases okN_AF hV hc hf hk with q | ⟨q, q2⟩
    · rw [if_pos q, q]
      exact ⟨h16, hr⟩
    · have q3 := okN_lt hV q
      rw [if_neg q2, if_neg (by omega), a9 k q2]
      obtain ⟨r1, r2⟩ := p4 k q
      refine ⟨r1, ?_⟩
      rw [← r2]
      unfold cRow
      rw [a9 k q2]
      refine catF_eq _ _ (fun i i1 i2 => ?_)
      rw [a10 (k * 16 + i) (by omega)]
theorem c_begF (hP : cP S e) (hV : PV e) (hc : 1 ≤ eC e) (hf : nF e < 4) (hK : ∀ S', FS S S' (nC e) (nF e) 0 0 (eI e (nC e)) (S.2 40 (nC e)) → S'.1 = S.1 → S'.2 35 (6 + nC e * 4 + nF e) = 0 → K 0 S') : wX4_beginField S K := by
  have okn : okC e (nC e) := ⟨by unfold nC; omega, by unfold nC; omega⟩
  have v := hV.2.1 (nC e) okn
  have hn : iv 0 4 (nF e) := v.1
  have hC : iv 0 5 (nC e) := by
    have := hV.1
    unfold nC
    exact ⟨by omega, by omega⟩
  have p1 := hP.1
  obtain ⟨q1, q2, -, -⟩ := hP.2.1 (nC e) okn
  have q1 : S.2 38 (nC e) = nF e := q1
  unfold wX4_beginField
  intro g1 x2 hx2
  have hx : x2 = nC e := by unfold nC; omega
  rw [hx]
  refine ⟨⟨by omega, by omega⟩, ?_⟩
  unfold wX4_isClass_b
  intro _
  refine ⟨fun h => absurd h (by omega), fun _ _ => ⟨fun h => absurd h (by unfold nC; omega), fun _ => ⟨⟨by decide, by decide⟩, fun h => absurd h (by decide), fun _ => ⟨by omega, by omega, fun _ => ?_⟩⟩⟩⟩
  rw [q1]
  refine ⟨fun _ => ⟨by omega, by omega, fun _ x3 hx3 => ?_⟩, fun h => absurd hf h⟩
  rw [hx3]
  unfold wX4_fieldName
  intro _ _
  refine ⟨by omega, by omega, fun S1 h1 => ⟨by omega, by omega, fun S2 h2 => ⟨by omega, by omega, fun S3 h3 => ?_⟩⟩⟩
  have e38 : S3.2 38 = S.2 38 := by
    rw [h3, (pA_ne 38 (by decide)).2, h2, (pA_ne 38 (by decide)).2, h1, (pA_ne 38 (by decide)).2]
  rw [e38, q1]
  refine ⟨by omega, by omega, fun _ => ⟨by omega, by omega, ⟨by omega, by omega⟩, fun S4 h4 => ?_⟩⟩
  have o : ∀ a, a ≠ 35 → a ≠ 36 → a ≠ 37 → a ≠ 38 → S4.2 a = S.2 a := fun a w1 w2 w3 w4 => by
    rw [h4, (pA_ne a w4).2, h3, (pA_ne a w3).2, h2, (pA_ne a w2).2, h1, (pA_ne a w1).2]
  have e35 : ∀ j, S4.2 35 j = if j = 6 + nC e * 4 + nF e then 0 else S.2 35 j := fun j => by
    rw [h4, (pA_ne 35 (by decide)).2, h3, (pA_ne 35 (by decide)).2, h2, (pA_ne 35 (by decide)).2, h1, pA_if]
  have es : S4.1 = S.1 := by
    rw [h4, h3, h2, h1]
    rfl
  refine hK S4 ⟨fun a j _ => by rw [es], fun a q => o a (by omega) (by omega) (by omega) (by omega), fun j => ?_, fun j => ?_, fun j => ?_, fun j => ?_, fun j => ?_, o 41 (by decide) (by decide) (by decide) (by decide), fun j q => by rw [e35, if_neg q], fun j q => by rw [o 34 (by decide) (by decide) (by decide) (by decide)]⟩ es (by rw [e35, if_pos rfl])
  · rw [h4, (pA_ne 36 (by decide)).2, h3, (pA_ne 36 (by decide)).2, h2, pA_if, h1, (pA_ne 36 (by decide)).2]
  · rw [h4, (pA_ne 37 (by decide)).2, h3, pA_if, h2, (pA_ne 37 (by decide)).2, h1, (pA_ne 37 (by decide)).2]
  · rw [h4, pA_if, e38]
  · rw [o 39 (by decide) (by decide) (by decide) (by decide)]
    by_cases z : j = nC e
    · rw [if_pos z, z, q2]
    · rw [if_neg z]
  · rw [o 40 (by decide) (by decide) (by decide) (by decide)]
    by_cases z : j = nC e
    · rw [if_pos z, z]
    · rw [if_neg z]
end FD

