/-! READING XML: the model's references to signs -/
def ew (w : Int) : List Int := if w = 0 then [97, 109, 112, 59] else if w = 1 then [108, 116, 59] else if w = 2 then [103, 116, 59] else if w = 3 then [113, 117, 111, 116, 59] else [97, 112, 111, 115, 59]
def eS (w i : Int) : Int := (ew w).getD i.toNat 0
def eU (w : Int) : Int := if w = 0 then 38 else if w = 1 then 60 else if w = 2 then 62 else if w = 3 then 34 else 39
theorem cm_iff {T : Int → Int} : ∀ {l : List Int} {q : Int}, cm T q l = true ↔ ∀ i : Nat, i < l.length → T (q + i) = l.getD i 0
  | [], q => ⟨fun _ i hi => absurd hi (Nat.not_lt_zero _), fun _ => rfl⟩
  | u :: l, q => by
    unfold cm
    rw [Bool.and_eq_true, decide_eq_true_iff, cm_iff (l := l) (q := q + 1)]
    refine ⟨fun h i hi => ?_, fun h => ⟨?_, fun i hi => ?_⟩⟩
    · cases i with
      | zero =>
        rw [show q + ((0 : Nat) : Int) = q by omega]
        exact h.1
      | succ i =>
        have := h.2 i (by simpa using hi)
        rw [show q + ((i + 1 : Nat) : Int) = q + 1 + (i : Int) by omega, this]
        rfl
    · have := h 0 (by simp)
      rw [show q + ((0 : Nat) : Int) = q by omega] at this
      exact this
    · have := h (i + 1) (by simpa using hi)
      rw [show q + ((i + 1 : Nat) : Int) = q + 1 + (i : Int) by omega] at this
      exact this
theorem w5 {w : Int} (h : 0 ≤ w) (h5 : w < 5) : w = 0 ∨ w = 1 ∨ w = 2 ∨ w = 3 ∨ w = 4 := by omega
theorem ew_len {w : Int} (h : 0 ≤ w) (h5 : w < 5) : 3 ≤ (ew w).length ∧ (ew w).length ≤ 5 := by
  rcases w5 h h5 with rfl | rfl | rfl | rfl | rfl <;> exact ⟨by decide, by decide⟩
/-- ; stands at the end alone, and 0 behind it -/
theorem eS_59 {w i : Int} (h : 0 ≤ w) (h5 : w < 5) (i0 : 0 ≤ i) (i5 : i < 5) : (eS w i = 59 ↔ i + 1 = (ew w).length) ∧ (eS w i = 0 ↔ (ew w).length ≤ i) ∧ iv 0 65535 (eS w i) := by
  rcases w5 h h5 with rfl | rfl | rfl | rfl | rfl <;> rcases w5 i0 i5 with rfl | rfl | rfl | rfl | rfl <;> exact ⟨by decide, by decide, by decide⟩
theorem cm_b {T : Int → Int} {n p : Int} {l : List Int} (hX : TX T n) (h : cm T p l = true) (hl : ∀ u ∈ l, u ≠ -1) (hne : l ≠ []) : p + l.length ≤ n := by
  have q := cm_iff.mp h (l.length - 1) (by
    cases l with
    | nil => exact absurd rfl hne
    | cons a b => simp)
  have hlen : 0 < l.length := by
    cases l with
    | nil => exact absurd rfl hne
    | cons a b => simp
  have hm : l.getD (l.length - 1) 0 ∈ l := by
    rw [List.getD_eq_getElem?_getD, List.getElem?_eq_getElem (by omega)]
    exact List.getElem_mem _
  refine Int.le_of_not_gt (fun z => ?_)
  rw [hX.2.2 _ (by omega)] at q
  exact hl _ hm q.symm
theorem ent_b {T : Int → Int} {n p u q : Int} (hX : TX T n) (p0 : 0 ≤ p) (h : ent T p = some (u, q)) : p + 1 < q ∧ q ≤ n ∧ isSn u := by
  unfold ent at h
  by_cases h35 : T (p + 1) = 35
  · rw [if_pos h35] at h
    obtain ⟨z, hz⟩ : ∃ z, z = p + (if T (p + 2) = 120 then 3 else 2) := ⟨_, rfl⟩
    have hz2 : p + 2 ≤ z := by
      rw [hz]
      split <;> omega
    rw [← hz] at h
    obtain ⟨w, hw⟩ : ∃ w, w = dgR T (decide (T (p + 2) = 120)) 6 0 z := ⟨_, rfl⟩
    rw [← hw] at h
    by_cases h2 : z < w.2 ∧ T w.2 = 59 ∧ isSn w.1
    · rw [if_pos h2] at h
      injection h with h
      injection h with hu hq
      obtain ⟨a1, a2, a3⟩ := h2
      have hn : w.2 < n := Int.lt_of_not_ge (fun z => by
        rw [hX.2.2 _ z] at a2
        exact absurd a2 (by decide))
      exact ⟨by omega, by omega, by rw [← hu]; exact a3⟩
    · rw [if_neg h2] at h
      cases h
  · rw [if_neg h35] at h
    split at h
    · rename_i hc
      have b := cm_b hX hc (by decide) (by decide)
      injection h with h
      injection h with hu hq
      have b : p + 1 + 4 ≤ n := b
      exact ⟨by omega, by omega, by omega⟩
    · split at h
      · rename_i hc
        have b := cm_b hX hc (by decide) (by decide)
        injection h with h
        injection h with hu hq
        have b : p + 1 + 3 ≤ n := b
        exact ⟨by omega, by omega, by omega⟩
      · split at h
        · rename_i hc
          have b := cm_b hX hc (by decide) (by decide)
          injection h with h
          injection h with hu hq
          have b : p + 1 + 3 ≤ n := b
          exact ⟨by omega, by omega, by omega⟩
        · split at h
          · rename_i hc
            have b := cm_b hX hc (by decide) (by decide)
            injection h with h
            injection h with hu hq
            have b : p + 1 + 5 ≤ n := b
            exact ⟨by omega, by omega, by omega⟩
          · split at h
            · rename_i hc
              have b := cm_b hX hc (by decide) (by decide)
              injection h with h
              injection h with hu hq
              have b : p + 1 + 5 ≤ n := b
              exact ⟨by omega, by omega, by omega⟩
            · cases h
section XR
variable {S : St} {K : Int → St → Prop} {T : Int → Int} {n p u o : Int} {V : List (Int × Int)}
set_option maxHeartbeats 4000000 in
theorem n_entS {w i : Int} (h : 0 ≤ w) (h5 : w < 5) (i0 : 0 ≤ i) (i5 : i < 5) (hK : K (eS w i) S) : wX11_entitySign w i S K := by
  unfold wX11_entitySign
  intro _ _
  rcases w5 h h5 with rfl | rfl | rfl | rfl | rfl <;> rcases w5 i0 i5 with rfl | rfl | rfl | rfl | rfl <;> refine ⟨⟨by decide, by decide⟩, fun z => absurd (by decide) z, ?_⟩ <;> (repeat' apply And.intro) <;> (intro z; first | exact absurd z (by decide) | exact hK)
theorem n_entU {w : Int} (h : 0 ≤ w) (h5 : w < 5) (hK : K (eU w) S) : wX11_entity w S K := by
  unfold wX11_entity
  intro _
  rcases w5 h h5 with rfl | rfl | rfl | rfl | rfl
  · exact ⟨fun z => absurd rfl z, fun _ => hK⟩
  · exact ⟨fun _ => ⟨fun z => absurd rfl z, fun _ => hK⟩, fun z => absurd (by decide) z⟩
  · exact ⟨fun _ => ⟨fun _ => ⟨fun z => absurd rfl z, fun _ => hK⟩, fun z => absurd (by decide) z⟩, fun z => absurd (by decide) z⟩
  · exact ⟨fun _ => ⟨fun _ => ⟨fun _ => ⟨fun z => absurd rfl z, fun _ => hK⟩, fun z => absurd (by decide) z⟩, fun z => absurd (by decide) z⟩, fun z => absurd (by decide) z⟩
  · exact ⟨fun _ => ⟨fun _ => ⟨fun _ => ⟨fun _ => hK, fun z => absurd (by decide) z⟩, fun z => absurd (by decide) z⟩, fun z => absurd (by decide) z⟩, fun z => absurd (by decide) z⟩
theorem n_fig {hex : Bool} {h : Int} (hh : h = if hex = true then 1 else 0) (hK : ∀ r, (0 ≤ dgV hex u ∧ r = dgV hex u) ∨ (dgV hex u < 0 ∧ r = -2) → K r S) : wX11_figure u h S K := by
  unfold wX11_figure wX11_figure_40
  intro gu gh
  refine n_isDg (fun r hr => ?_)
  rcases hr with ⟨rfl, h1⟩ | ⟨rfl, h1⟩
  · refine ⟨⟨by decide, by decide⟩, fun q => absurd q (by decide), fun _ => hK _ (Or.inl ?_)⟩
    unfold dgV
    rw [if_pos h1]
    exact ⟨by omega, rfl⟩
  · refine ⟨⟨by decide, by decide⟩, fun _ => ?_, fun q => absurd rfl q⟩
    cases hex with
    | false =>
      have hh : h = 0 := hh
      have e : dgV false u = -1 := by
        unfold dgV
        rw [if_neg h1, if_neg (fun z => absurd z.1 (by decide)), if_neg (fun z => absurd z.1 (by decide))]
      have k := hK (-2) (Or.inr ⟨by rw [e]; decide, rfl⟩)
      exact ⟨fun _ => ⟨gh, fun _ => k, fun q => absurd hh q⟩, fun q => absurd hh q⟩
    | true =>
      have hh : h = 1 := hh
      refine ⟨fun q => absurd q (by omega), fun _ => ?_⟩
      have up : ¬ (97 ≤ u ∧ u ≤ 102) → (rng h ∧ ((h = 0 → K (-2) S) ∧ ((¬ (h = 0)) → (rng u ∧ ((u < 65 → K (-2) S) ∧ ((¬ (u < 65)) → ((70 < u → K (-2) S) ∧ ((¬ (70 < u)) → K (((u - 65) + 10)) S)))))))) := fun hn => by
        have e1 : ¬ (65 ≤ u ∧ u ≤ 70) → dgV true u < 0 := fun z => by
          unfold dgV
          rw [if_neg h1, if_neg (fun w => hn w.2), if_neg (fun w => z w.2)]
          decide
        refine ⟨gh, fun q => absurd q (by omega), fun _ => ⟨gu, fun q => hK _ (Or.inr ⟨e1 (by omega), rfl⟩), fun q => ⟨fun q2 => hK _ (Or.inr ⟨e1 (by omega), rfl⟩), fun q2 => hK _ (Or.inl ?_)⟩⟩⟩
        unfold dgV
        rw [if_neg h1, if_neg (fun w => hn w.2), if_pos ⟨rfl, by omega, by omega⟩]
        exact ⟨by omega, by omega⟩
      refine ⟨fun q => up (by omega), fun q => ⟨fun q2 => up (by omega), fun q2 => hK _ (Or.inl ?_)⟩⟩
      unfold dgV
      rw [if_neg h1, if_pos ⟨rfl, by omega, by omega⟩]
      exact ⟨by omega, by omega⟩
theorem dgV_lt (hex : Bool) (c : Int) : dgV hex c ≤ 15 ∧ (hex = false → dgV hex c ≤ 9) ∧ -1 ≤ dgV hex c := by
  unfold dgV
  split
  · exact ⟨by omega, fun _ => by omega, by omega⟩
  · split
    · rename_i h1 h2
      exact ⟨by omega, fun z => by rw [z] at h2; exact absurd h2.1 (by decide), by omega⟩
    · split
      · rename_i h1 h2 h3
        exact ⟨by omega, fun z => by rw [z] at h3; exact absurd h3.1 (by decide), by omega⟩
      · exact ⟨by decide, fun _ => by decide, by decide⟩
/-- what a reference to a sign says -/
def RfO (S S' : St) (V : List (Int × Int)) (o : Int) (x : Option (Int × Int)) (q : Int) : Prop := Fvx S S' ∧ ((∃ u, x = some (u, q) ∧ mV S' (V ++ [(u, o)]) ∧ S'.1 54 59 = -2) ∨ (x = none ∧ mV S' V ∧ ¬ S'.1 54 59 = -2 ∧ iv (-2) 4000 (S'.1 54 59) ∧ iv 0 3010 q))
theorem n_ref (hX : TX T n) (hD : dTx S T n) (hV : mV S V) (hl : V.length < 3000) (ho : iv (-2) 199 o) (hb : S.1 54 59 = -2) (p0 : 0 ≤ p) (p1 : p < n) (hK : ∀ q S', RfO S S' V o (ent T p) q → K q S') : wX11_reference p o S K := by
  have hn := hX.1
  have bad : ∀ (q : Int) (L : Int → St → Prop), ent T p = none → iv 0 3010 q → (∀ S', RfO S S' V o (ent T p) q → L 0 S') → wX11_fail p S L := fun q L e hq hL => n_fail (by rw [hb]; exact ⟨by decide, by decide⟩) ⟨by omega, by omega⟩ (fun S' f1 f2 f3 f4 f5 => hL S' ⟨f1, Or.inr ⟨e, hV.mv f2 (by rw [f3]) (by rw [f3]), f4, f5, hq⟩⟩)
  unfold wX11_reference
  intro gp go
  have b1 := tx_rng hX (show 0 ≤ p + 1 by omega)
  have b2 := tx_rng hX (show 0 ≤ p + 2 by omega)
  refine ⟨⟨by omega, by omega⟩, n_doc hX hD (by omega) ⟨⟨by omega, by omega⟩, fun h35 => ?_, fun h35 => ⟨⟨by omega, by omega⟩, n_doc hX hD (by omega) ⟨⟨by omega, by omega⟩, ?_⟩⟩⟩⟩
  · -- the five words
    have hent : ent T p = if cm T (p + 1) [97, 109, 112, 59] then some (38, p + 5) else if cm T (p + 1) [108, 116, 59] then some (60, p + 4) else if cm T (p + 1) [103, 116, 59] then some (62, p + 4) else if cm T (p + 1) [113, 117, 111, 116, 59] then some (34, p + 6) else if cm T (p + 1) [97, 112, 111, 115, 59] then some (39, p + 6) else none := by
      unfold ent
      rw [if_neg h35]
    have hyes : ∀ w, 0 ≤ w → w < 5 → (∀ w', 0 ≤ w' → w' < w → cm T (p + 1) (ew w') = false) → cm T (p + 1) (ew w) = true → ent T p = some (eU w, p + 1 + (ew w).length) := fun w w0 w1 hno hy => by
      rw [hent]
      rcases w5 w0 w1 with rfl | rfl | rfl | rfl | rfl
      · rw [if_pos (show cm T (p + 1) [97, 109, 112, 59] = true from hy)]
        rw [show p + 5 = p + 1 + ((ew 0).length : Int) by show p + 5 = p + 1 + ((4 : Nat) : Int); omega]
        rfl
      · rw [if_neg (by rw [show cm T (p + 1) [97, 109, 112, 59] = false from hno 0 (by decide) (by decide)]; decide), if_pos (show cm T (p + 1) [108, 116, 59] = true from hy)]
        rw [show p + 4 = p + 1 + ((ew 1).length : Int) by show p + 4 = p + 1 + ((3 : Nat) : Int); omega]
        rfl
      · rw [if_neg (by rw [show cm T (p + 1) [97, 109, 112, 59] = false from hno 0 (by decide) (by decide)]; decide), if_neg (by rw [show cm T (p + 1) [108, 116, 59] = false from hno 1 (by decide) (by decide)]; decide), if_pos (show cm T (p + 1) [103, 116, 59] = true from hy)]
        rw [show p + 4 = p + 1 + ((ew 2).length : Int) by show p + 4 = p + 1 + ((3 : Nat) : Int); omega]
        rfl
      · rw [if_neg (by rw [show cm T (p + 1) [97, 109, 112, 59] = false from hno 0 (by decide) (by decide)]; decide), if_neg (by rw [show cm T (p + 1) [108, 116, 59] = false from hno 1 (by decide) (by decide)]; decide), if_neg (by rw [show cm T (p + 1) [103, 116, 59] = false from hno 2 (by decide) (by decide)]; decide), if_pos (show cm T (p + 1) [113, 117, 111, 116, 59] = true from hy)]
        rw [show p + 6 = p + 1 + ((ew 3).length : Int) by show p + 6 = p + 1 + ((5 : Nat) : Int); omega]
        rfl
      · rw [if_neg (by rw [show cm T (p + 1) [97, 109, 112, 59] = false from hno 0 (by decide) (by decide)]; decide), if_neg (by rw [show cm T (p + 1) [108, 116, 59] = false from hno 1 (by decide) (by decide)]; decide), if_neg (by rw [show cm T (p + 1) [103, 116, 59] = false from hno 2 (by decide) (by decide)]; decide), if_neg (by rw [show cm T (p + 1) [113, 117, 111, 116, 59] = false from hno 3 (by decide) (by decide)]; decide), if_pos (show cm T (p + 1) [97, 112, 111, 115, 59] = true from hy)]
        rw [show p + 6 = p + 1 + ((ew 4).length : Int) by show p + 6 = p + 1 + ((5 : Nat) : Int); omega]
        rfl
    have hnone : (∀ w', 0 ≤ w' → w' < 5 → cm T (p + 1) (ew w') = false) → ent T p = none := fun hno => by
      rw [hent, if_neg (by rw [show cm T (p + 1) [97, 109, 112, 59] = false from hno 0 (by decide) (by decide)]; decide), if_neg (by rw [show cm T (p + 1) [108, 116, 59] = false from hno 1 (by decide) (by decide)]; decide), if_neg (by rw [show cm T (p + 1) [103, 116, 59] = false from hno 2 (by decide) (by decide)]; decide), if_neg (by rw [show cm T (p + 1) [113, 117, 111, 116, 59] = false from hno 3 (by decide) (by decide)]; decide), if_neg (by rw [show cm T (p + 1) [97, 112, 111, 115, 59] = false from hno 4 (by decide) (by decide)]; decide)]
    refine ⟨fun l1 l2 l3 S' => l1 = p ∧ l2 = o ∧ S' = S ∧ 0 ≤ l3 ∧ l3 ≤ 5 ∧ ∀ w', 0 ≤ w' → w' < l3 → cm T (p + 1) (ew w') = false, fun l1 l2 l3 S' => (5 - l3).toNat, ⟨rfl, rfl, rfl, by decide, by decide, fun w' q1 q2 => by omega⟩, ?_⟩
    rintro l1 l2 l3 S' ⟨rfl, rfl, rfl, i0, i1, i2⟩
    refine ⟨⟨by omega, by omega⟩, fun q => ⟨gp, bad l1 _ (hnone (fun w' a b => i2 w' a (by omega))) ⟨by omega, by omega⟩ (fun S2 h2 => hK l1 S2 h2)⟩, fun q => ?_⟩
    have hlen := ew_len (w := l3) i0 (by omega)
    -- behind the match of word l3
    have at226 : ∀ l4 : Int, 0 ≤ l4 → l4 ≤ (ew l3).length → (∀ i, 0 ≤ i → i < l4 → T (l1 + 1 + i) = eS l3 i) → (l4 < (ew l3).length → ¬ T (l1 + 1 + l4) = eS l3 l4) → wX11_reference_226 l1 l2 l3 l4 S' K (fun ml1 ml2 ml3 T1 => (ml1 = l1 ∧ ml2 = l2 ∧ T1 = S' ∧ 0 ≤ ml3 ∧ ml3 ≤ 5 ∧ ∀ w', 0 ≤ w' → w' < ml3 → cm T (l1 + 1) (ew w') = false) ∧ (5 - ml3).toNat < (5 - l3).toNat) := fun l4 j0 j1 j2 j3 => by
      have next : cm T (l1 + 1) (ew l3) = false → wX11_reference_260 l1 l2 l3 S' K (fun ml1 ml2 ml3 T1 => (ml1 = l1 ∧ ml2 = l2 ∧ T1 = S' ∧ 0 ≤ ml3 ∧ ml3 ≤ 5 ∧ ∀ w', 0 ≤ w' → w' < ml3 → cm T (l1 + 1) (ew w') = false) ∧ (5 - ml3).toNat < (5 - l3).toNat) := fun hc => by
        refine ⟨⟨rfl, rfl, rfl, by omega, by omega, fun w' a b => ?_⟩, by omega⟩
        by_cases e : w' = l3
        · rw [e]
          exact hc
        · exact i2 w' a (by omega)
      have nocm : l4 < (ew l3).length → cm T (l1 + 1) (ew l3) = false := fun hlt => by
        cases hc : cm T (l1 + 1) (ew l3) with
        | false => rfl
        | true =>
          have := cm_iff.mp hc l4.toNat (by omega)
          rw [show ((l4.toNat : Nat) : Int) = l4 by omega] at this
          exact absurd this (j3 hlt)
      unfold wX11_reference_226
      refine ⟨⟨by omega, by omega⟩, fun q4 => next (nocm (by omega)), fun q4 => ⟨⟨by omega, by omega⟩, ⟨by omega, by omega⟩, n_entS i0 (by omega) (by omega) (by omega) ?_⟩⟩
      obtain ⟨s59, -, sb⟩ := eS_59 (w := l3) (i := l4 - 1) i0 (by omega) (by omega) (by omega)
      refine ⟨⟨by omega, by omega⟩, fun z => next (nocm ?_), fun z => n_entU i0 (by omega) ?_⟩
      · have : ¬ l4 - 1 + 1 = (ew l3).length := fun w => z (s59.mpr w)
        omega
      · have l4e : l4 = (ew l3).length := by
          have := s59.mp (Classical.not_not.mp z)
          omega
        have hy : cm T (l1 + 1) (ew l3) = true := cm_iff.mpr (fun i hi => by
          have := j2 i (by omega) (by omega)
          rw [this]
          unfold eS
          rw [Int.toNat_natCast])
        have he := hyes l3 i0 (by omega) i2 hy
        have bu : iv 0 126 (eU l3) := by rcases w5 i0 (by omega : l3 < 5) with rfl | rfl | rfl | rfl | rfl <;> exact ⟨by decide, by decide⟩
        refine ⟨⟨by omega, by omega⟩, go, n_keep hV hl ho (fun S2 f1 f2 f3 => hK _ S2 ⟨f1, Or.inl ⟨eU l3, ?_, f2, f3.trans hb⟩⟩)⟩
        rw [he, l4e]
    refine ⟨fun m1 m2 m3 m4 S2 => m1 = l1 ∧ m2 = l2 ∧ m3 = l3 ∧ S2 = S' ∧ 0 ≤ m4 ∧ m4 ≤ (ew l3).length ∧ ∀ i, 0 ≤ i → i < m4 → T (l1 + 1 + i) = eS l3 i, fun m1 m2 m3 m4 S2 => (6 - m4).toNat, ⟨rfl, rfl, rfl, rfl, by decide, by omega, fun i a b => by omega⟩, ?_⟩
    rintro m1 m2 m3 m4 S2 ⟨rfl, rfl, rfl, rfl, j0, j1, j2⟩
    refine ⟨⟨by omega, by omega⟩, fun q5 => at226 m4 j0 j1 j2 (fun z => absurd z (by omega)), fun q5 => ⟨⟨by omega, by omega⟩, n_entS i0 (by omega) j0 (by omega) ?_⟩⟩
    obtain ⟨-, s0, sb⟩ := eS_59 (w := m3) (i := m4) i0 (by omega) j0 (by omega)
    have bt := tx_rng hX (show 0 ≤ m1 + 1 + m4 by omega)
    refine ⟨⟨by omega, by omega⟩, fun z => at226 m4 j0 j1 j2 (fun w => absurd (s0.mp z) (by omega)), fun z => n_entS i0 (by omega) j0 (by omega) ⟨⟨by omega, by omega⟩, n_doc hX hD (by omega) ⟨⟨by omega, by omega⟩, ⟨by omega, by omega⟩, fun w => at226 m4 j0 j1 j2 (fun _ e => w e.symm), fun w => ⟨⟨rfl, rfl, rfl, rfl, by omega, ?_, fun i a b => ?_⟩, by show (6 - (m4 + 1)).toNat < (6 - m4).toNat; omega⟩⟩⟩⟩
    · have : ¬ (ew m3).length ≤ m4 := fun w2 => z (s0.mpr w2)
      omega
    · by_cases e : i = m4
      · rw [e]
        exact (Classical.not_not.mp w).symm
      · exact j2 i a (by omega)
  · -- a number
    have h35 : T (p + 1) = 35 := Classical.not_not.mp h35
    have num : ∀ (hex : Bool) (h : Int), (h = if hex = true then 1 else 0) → (hex = true ↔ T (p + 2) = 120) → wX11_reference_29 p o h S K := fun hex h hh hx => by
      obtain ⟨f, hf⟩ : ∃ f : Int, f = p + (if hex = true then 3 else 2) := ⟨_, rfl⟩
      have fb : p + 2 ≤ f ∧ f ≤ p + 3 := by
        rw [hf]
        split <;> omega
      have hex2 : decide (T (p + 2) = 120) = hex := by
        cases hex with
        | true => exact decide_eq_true (hx.mp rfl)
        | false => exact decide_eq_false (fun z => absurd (hx.mpr z) (by decide))
      have hf2 : p + (if T (p + 2) = 120 then 3 else 2) = f := by
        rw [hf]
        cases hex with
        | true => rw [if_pos (hx.mp rfl), if_pos rfl]
        | false => rw [if_neg (fun z => absurd (hx.mpr z) (by decide)), if_neg (by decide)]
      have hent : ent T p = if f < (dgR T hex 6 0 f).2 ∧ T (dgR T hex 6 0 f).2 = 59 ∧ isSn (dgR T hex 6 0 f).1 then some ((dgR T hex 6 0 f).1, (dgR T hex 6 0 f).2 + 1) else none := by
        unfold ent
        rw [if_pos h35, hex2, hf2]
      have body : wX11_reference_51 p o h f 0 0 S K := by
        refine ⟨fun l1 l2 l3 l4 l5 l6 S' => l1 = p ∧ l2 = o ∧ l3 = h ∧ S' = S ∧ 0 ≤ l5 ∧ l5 ≤ 6 ∧ l4 = f + l5 ∧ 0 ≤ l6 ∧ l6 < ((16 ^ l5.toNat : Nat) : Int) ∧ dgR T hex (6 - l5).toNat l6 l4 = dgR T hex 6 0 f, fun l1 l2 l3 l4 l5 l6 S' => (6 - l5).toNat, ⟨rfl, rfl, rfl, rfl, by decide, by decide, by omega, by decide, by decide, rfl⟩, ?_⟩
        rintro l1 l2 l3 l4 l5 l6 S' ⟨rfl, rfl, rfl, rfl, i0, i1, i2, i3, i4, i5⟩
        have hpw : (16 ^ l5.toNat : Nat) ≤ 16777216 := Nat.pow_le_pow_right (n := 16) (by decide) (show l5.toNat ≤ 6 by omega)
        have fin : dgR T hex 6 0 f = (l6, l4) → wX11_reference_107 l1 l2 l4 l5 l6 S' K := fun hr => by
          rw [hr] at hent
          unfold wX11_reference_107 wX11_reference_156 wX11_reference_164
          have bt := tx_rng hX (show 0 ≤ l4 by omega)
          have no : ¬ (f < l4 ∧ T l4 = 59 ∧ isSn l6) → (rng l1 ∧ wX11_fail l1 S' (fun r2 S3 => K l4 S3)) := fun hq => by
            have e : ent T l1 = none := by
              rw [hent]
              exact if_neg hq
            exact ⟨gp, bad l4 _ e ⟨by omega, by omega⟩ (fun S2 h2 => hK l4 S2 h2)⟩
          have yes : f < l4 ∧ T l4 = 59 ∧ isSn l6 → (rng l6 ∧ (rng l2 ∧ wX11_keep l6 l2 S' (fun r3 S4 => K (l4 + 1) S4))) := fun hq => by
            have e : ent T l1 = some (l6, l4 + 1) := by
              rw [hent]
              exact if_pos hq
            exact ⟨⟨by omega, by omega⟩, go, n_keep hV hl ho (fun S2 f1 f2 f3 => hK _ S2 ⟨f1, Or.inl ⟨l6, e, f2, f3.trans hb⟩⟩)⟩
          refine ⟨⟨by omega, by omega⟩, fun z => no (fun w => by have := w.1; omega), fun z => ⟨⟨by omega, by omega⟩, n_doc hX hD (by omega) ⟨⟨by omega, by omega⟩, fun z2 => no (fun w => z2 w.2.1), fun z2 => ⟨⟨by omega, by omega⟩, n_in (fun r hr => ?_)⟩⟩⟩⟩
          have z2 : T l4 = 59 := Classical.not_not.mp z2
          rcases hr with ⟨rfl, h1⟩ | ⟨rfl, h1⟩
          · exact ⟨⟨by decide, by decide⟩, fun _ => yes ⟨by omega, z2, Or.inl h1⟩, fun w => absurd (by decide) w⟩
          · exact ⟨⟨by decide, by decide⟩, fun w => absurd rfl w, fun _ => ⟨fun w => yes ⟨by omega, z2, by omega⟩, fun w => ⟨fun w2 => yes ⟨by omega, z2, by omega⟩, fun w2 => ⟨fun w3 => yes ⟨by omega, z2, by omega⟩, fun w3 => no (fun y => by have := y.2.2; omega)⟩⟩⟩⟩
        refine ⟨⟨by omega, by omega⟩, fun q6 => fin ?_, fun q6 => ⟨⟨by omega, by omega⟩, n_doc hX hD (by omega) ?_⟩⟩
        · rw [← i5, show (6 - l5).toNat = 0 by omega]
          rfl
        · have bt := tx_rng hX (show 0 ≤ l4 by omega)
          have hd := dgV_lt hex (T l4)
          refine ⟨⟨by omega, by omega⟩, ⟨by rw [hh]; split <;> decide, by rw [hh]; split <;> decide⟩, n_fig hh (fun r hr => ?_)⟩
          have hs : (6 - l5).toNat = (6 - (l5 + 1)).toNat + 1 := by omega
          rcases hr with ⟨h0, rfl⟩ | ⟨h0, rfl⟩
          · have again : ∀ s0, (s0 = if hex = true then 16 else 10) → wX11_reference_84 l1 l2 l3 l4 l5 s0 l6 S' K (fun ml1 ml2 ml3 ml4 ml5 ml6 T1 => (ml1 = l1 ∧ ml2 = l2 ∧ ml3 = l3 ∧ T1 = S' ∧ 0 ≤ ml5 ∧ ml5 ≤ 6 ∧ ml4 = f + ml5 ∧ 0 ≤ ml6 ∧ ml6 < ((16 ^ ml5.toNat : Nat) : Int) ∧ dgR T hex (6 - ml5).toNat ml6 ml4 = dgR T hex 6 0 f) ∧ (6 - ml5).toNat < (6 - l5).toNat) := fun s0 hs0 => by
              unfold wX11_reference_84
              refine ⟨⟨by omega, by omega⟩, n_doc hX hD (by omega) ⟨⟨by omega, by omega⟩, ⟨by rw [hh]; split <;> decide, by rw [hh]; split <;> decide⟩, n_fig hh (fun r hr x8 e8 => ?_)⟩⟩
              have hr : r = dgV hex (T l4) := by
                rcases hr with ⟨-, z⟩ | ⟨z, -⟩
                · exact z
                · omega
              rw [hr] at e8
              have s16 : s0 ≤ 16 ∧ 0 ≤ s0 := by
                rw [hs0]
                split <;> exact ⟨by decide, by decide⟩
              have pw : (16 ^ (l5 + 1).toNat : Nat) = 16 ^ l5.toNat * 16 := by
                rw [show (l5 + 1).toNat = l5.toNat + 1 by omega, Nat.pow_succ]
              have m1 : l6 * s0 ≤ l6 * 16 := Int.mul_le_mul_of_nonneg_left s16.1 i3
              have m0 : 0 ≤ l6 * s0 := Int.mul_nonneg i3 s16.2
              refine ⟨⟨rfl, rfl, rfl, rfl, by omega, by omega, by omega, by omega, ?_, ?_⟩, by omega⟩
              · rw [pw, Int.natCast_mul]
                omega
              · rw [← i5, hs, e8, hs0]
                show _ = (if 0 ≤ dgV hex (T l4) then _ else _)
                rw [if_pos h0]
            refine ⟨⟨by omega, by omega⟩, fun z => absurd z (by omega), fun _ => ?_⟩
            cases hex with
            | true => exact ⟨fun z => absurd (hh.symm.trans z) (by decide), fun _ => again 16 rfl⟩
            | false => exact ⟨fun _ => again 10 rfl, fun z => absurd hh z⟩
          · refine ⟨⟨by decide, by decide⟩, fun _ => fin ?_, fun z => absurd (by decide) z⟩
            rw [← i5, hs]
            show (if 0 ≤ dgV hex (T l4) then _ else _) = _
            rw [if_neg (by omega)]
      unfold wX11_reference_29 wX11_reference_43
      cases hex with
      | true =>
        have hh : h = 1 := hh
        have hf : f = p + 3 := hf
        refine ⟨⟨by omega, by omega⟩, fun z => absurd z (by omega), fun _ => ?_⟩
        rw [← hf]
        exact body
      | false =>
        have hh : h = 0 := hh
        have hf : f = p + 2 := hf
        refine ⟨⟨by omega, by omega⟩, fun _ => ?_, fun z => absurd hh z⟩
        rw [← hf]
        exact body
    exact ⟨fun z => num false 0 rfl ⟨fun w => absurd w (by decide), fun w => absurd w z⟩, fun z => num true 1 rfl ⟨fun _ => Classical.not_not.mp z, fun _ => rfl⟩⟩
end XR

