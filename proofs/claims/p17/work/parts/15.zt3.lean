/-! READING XML: the model's attributes -/
def mXe (S : St) (E : List Xe) : Prop := S.1 54 43 = E.length ∧ ∀ k : Nat, k < E.length → S.2 85 k = (E.getD k e6).1 ∧ S.2 86 k = (E.getD k e6).1 + 1 ∧ S.2 87 k = (E.getD k e6).2.1 - ((E.getD k e6).1 + 1) ∧ S.2 88 k = (if (E.getD k e6).2.2.1 < 0 then -2 else (E.getD k e6).2.2.1) ∧ S.2 90 k = (E.getD k e6).2.2.2.1 ∧ S.2 91 k = (E.getD k e6).2.2.2.2.1
def mXa (S : St) (A : List Xa) : Prop := S.1 54 51 = A.length ∧ ∀ k : Nat, k < A.length → S.2 92 k = (A.getD k a4).1 ∧ S.2 93 k = (A.getD k a4).2.1 - (A.getD k a4).1 ∧ S.2 94 k = (A.getD k a4).2.2.1 ∧ S.2 95 k = (A.getD k a4).2.2.2 - (A.getD k a4).2.2.1
def mX (S : St) (s : Xs) : Prop := mXe S s.1 ∧ mXa S s.2.1 ∧ mV S s.2.2
/-- what reading a text changes -/
def PF (S S' : St) : Prop := (∀ j, j ≠ 43 → j ≠ 51 → j ≠ 56 → j ≠ 59 → j ≠ 60 → S'.1 54 j = S.1 54 j) ∧ ∀ a, a < 85 ∨ 97 < a → S'.2 a = S.2 a
theorem PF.rf {S : St} : PF S S := ⟨fun _ _ _ _ _ _ => rfl, fun _ _ => rfl⟩
theorem PF.tr {S S1 S2 : St} (h : PF S S1) (g : PF S1 S2) : PF S S2 := ⟨fun j q1 q2 q3 q4 q5 => (g.1 j q1 q2 q3 q4 q5).trans (h.1 j q1 q2 q3 q4 q5), fun a q => (g.2 a q).trans (h.2 a q)⟩
theorem Fvx.pf {S S' : St} (h : Fvx S S') : PF S S' := ⟨fun j _ _ q3 q4 _ => h.1 j q3 q4, fun a q => h.2 a (by omega) (by omega)⟩
theorem dTx.pf {S S' : St} {T : Int → Int} {n : Int} (h : dTx S T n) (k : PF S S') : dTx S' T n := h.mv (k.1 41 (by decide) (by decide) (by decide) (by decide) (by decide)) (k.2 84 (by decide))
/-- what is read so far lies within the text up to p -/
def WX (n : Int) (s : Xs) (p : Int) : Prop := (s.2.2.length : Int) ≤ p ∧ 5 * (s.2.1.length : Int) ≤ p ∧ (∀ k : Nat, k < s.1.length → 0 ≤ (s.1.getD k e6).1 ∧ (s.1.getD k e6).1 + 1 < (s.1.getD k e6).2.1 ∧ (s.1.getD k e6).2.1 ≤ n ∧ -1 ≤ (s.1.getD k e6).2.2.1 ∧ (s.1.getD k e6).2.2.1 < k ∧ 0 ≤ (s.1.getD k e6).2.2.2.1 ∧ 0 ≤ (s.1.getD k e6).2.2.2.2.1 ∧ (s.1.getD k e6).2.2.2.1 + (s.1.getD k e6).2.2.2.2.1 ≤ s.2.1.length) ∧ ∀ k : Nat, k < s.2.1.length → 0 ≤ (s.2.1.getD k a4).1 ∧ (s.2.1.getD k a4).1 < (s.2.1.getD k a4).2.1 ∧ (s.2.1.getD k a4).2.1 ≤ n ∧ 0 ≤ (s.2.1.getD k a4).2.2.1 ∧ (s.2.1.getD k a4).2.2.1 ≤ (s.2.1.getD k a4).2.2.2 ∧ (s.2.1.getD k a4).2.2.2 ≤ s.2.2.length
theorem sN_iff {T : Int → Int} : ∀ {k : Nat} {a b : Int}, sN T k a b = true ↔ ∀ i : Nat, i < k → T (a + i) = T (b + i)
  | 0, a, b => ⟨fun _ i hi => absurd hi (Nat.not_lt_zero _), fun _ => rfl⟩
  | k + 1, a, b => by
    unfold sN
    rw [Bool.and_eq_true, decide_eq_true_iff, sN_iff (k := k)]
    refine ⟨fun h i hi => ?_, fun h => ⟨?_, fun i hi => ?_⟩⟩
    · cases i with
      | zero =>
        rw [show a + ((0 : Nat) : Int) = a by omega, show b + ((0 : Nat) : Int) = b by omega]
        exact h.1
      | succ i =>
        have := h.2 i (by omega)
        rw [show a + ((i + 1 : Nat) : Int) = a + 1 + (i : Int) by omega, show b + ((i + 1 : Nat) : Int) = b + 1 + (i : Int) by omega]
        exact this
    · have := h 0 (by omega)
      rw [show a + ((0 : Nat) : Int) = a by omega, show b + ((0 : Nat) : Int) = b by omega] at this
      exact this
    · have := h (i + 1) (by omega)
      rw [show a + ((i + 1 : Nat) : Int) = a + 1 + (i : Int) by omega, show b + ((i + 1 : Nat) : Int) = b + 1 + (i : Int) by omega] at this
      exact this
theorem nQ_iff {T : Int → Int} {a b c d : Int} : nQ T a b c d = true ↔ b - a = d - c ∧ ∀ i, 0 ≤ i → i < b - a → T (a + i) = T (c + i) := by
  unfold nQ
  rw [Bool.and_eq_true, decide_eq_true_iff, sN_iff]
  refine ⟨fun h => ⟨h.1, fun i i0 i1 => ?_⟩, fun h => ⟨h.1, fun i hi => h.2 i (by omega) (by omega)⟩⟩
  have := h.2 i.toNat (by omega)
  rw [show ((i.toNat : Nat) : Int) = i by omega] at this
  exact this
theorem nQ_f {T : Int → Int} {a b c d : Int} (h : ¬ (b - a = d - c ∧ ∀ i, 0 ≤ i → i < b - a → T (a + i) = T (c + i))) : nQ T a b c d = false := by
  cases e : nQ T a b c d with
  | false => rfl
  | true => exact absurd (nQ_iff.mp e) h
section XA
variable {S : St} {K : Int → St → Prop} {T : Int → Int} {n p u o : Int} {V : List (Int × Int)} {s : Xs}
theorem n_sameN {a b c d : Int} (hX : TX T n) (hD : dTx S T n) (a0 : 0 ≤ a) (ab : a ≤ b) (bn : b ≤ n) (c0 : 0 ≤ c) (cd : c ≤ d) (dn : d ≤ n) (hK : ∀ r, (r = 1 ∧ nQ T a b c d = true) ∨ (r = 0 ∧ nQ T a b c d = false) → K r S) : wX11_sameNames a (b - a) c (d - c) S K := by
  have hn := hX.1
  have loop : ∀ s0, iv 0 1 s0 → (s0 = 1 ↔ b - a = d - c) → wX11_sameNames_11 a (b - a) c s0 S K := fun s0 h01 hs => by
    unfold wX11_sameNames_11
    refine ⟨fun l1 l2 l3 l5 l6 S' => l1 = a ∧ l2 = b - a ∧ l3 = c ∧ S' = S ∧ 0 ≤ l6 ∧ l6 ≤ b - a ∧ iv 0 1 l5 ∧ (l5 = 1 ↔ (b - a = d - c ∧ ∀ i, 0 ≤ i → i < l6 → T (a + i) = T (c + i))), fun l1 l2 l3 l5 l6 S' => (b - a - l6).toNat, ⟨rfl, rfl, rfl, rfl, by decide, by omega, h01, ⟨fun z => ⟨hs.mp z, fun i i0 i1 => by omega⟩, fun z => hs.mpr z.1⟩⟩, ?_⟩
    rintro l1 l2 l3 l5 l6 S' ⟨rfl, rfl, rfl, rfl, i0, i1, i2, i3⟩
    have out : (b - l1 ≤ l6 ∨ l5 = 0) → K l5 S' := fun hq => by
      by_cases h1 : l5 = 1
      · have h := i3.mp h1
        refine hK l5 (Or.inl ⟨h1, nQ_iff.mpr ⟨h.1, fun i j0 j1 => h.2 i j0 (by omega)⟩⟩)
      · refine hK l5 (Or.inr ⟨by omega, nQ_f (fun z => h1 (i3.mpr ⟨z.1, fun i j0 j1 => z.2 i j0 (by omega)⟩))⟩)
    refine ⟨⟨by omega, by omega⟩, ⟨by omega, by omega⟩, fun q => ⟨i2, out (Or.inl q)⟩, fun q => ⟨⟨by omega, by omega⟩, fun q2 => ⟨i2, out (Or.inr q2)⟩, fun q2 => ?_⟩⟩
    have h := i3.mp (by omega)
    have e1 := hD.2 (l1 + l6) (by omega) (by omega)
    have e2 := hD.2 (l3 + l6) (by omega) (by omega)
    rw [e1, e2]
    refine ⟨by omega, by omega, fun _ => ⟨by omega, by omega, fun _ => ⟨fun z => ?_, fun z => ?_⟩⟩⟩
    · exact ⟨⟨rfl, rfl, rfl, rfl, by omega, by omega, ⟨by decide, by decide⟩, ⟨fun w => absurd w (by decide), fun w => absurd (w.2 l6 i0 (by omega)) z⟩⟩, by show (b - l1 - (l6 + 1)).toNat < (b - l1 - l6).toNat; omega⟩
    · refine ⟨⟨rfl, rfl, rfl, rfl, by omega, by omega, ⟨by decide, by decide⟩, ⟨fun _ => ⟨h.1, fun i j0 j1 => ?_⟩, fun _ => rfl⟩⟩, by show (b - l1 - (l6 + 1)).toNat < (b - l1 - l6).toNat; omega⟩
      by_cases e : i = l6
      · rw [e]
        exact Classical.not_not.mp z
      · exact h.2 i j0 (by omega)
  unfold wX11_sameNames
  intro _ _ _ _
  exact ⟨fun h => loop 0 ⟨by decide, by decide⟩ ⟨fun z => absurd z (by decide), fun z => absurd z h⟩, fun h => loop 1 ⟨by decide, by decide⟩ ⟨fun _ => Classical.not_not.mp h, fun _ => rfl⟩⟩
theorem map_snoc {l : List Int} {x : Int} : (l ++ [u]).map (fun v => (v, x)) = l.map (fun v => (v, x)) ++ [(u, x)] := by simp
/-- the value of an attribute -/
theorem n_val {q k e : Int} (hX : TX T n) (hD : dTx S T n) (hV : mV S V) (hl : (V.length : Int) + 2 ≤ p) (p1 : p ≤ n) (hb : S.1 54 59 = -2) (hq : q = 34 ∨ q = 39) (hK : ∀ r S', Fvx S S' → ((∃ l, xV T q 3001 p [] = some (l, r + 1) ∧ mV S' (V ++ l.map (fun v => (v, -2))) ∧ S'.1 54 59 = -2 ∧ (V.length : Int) + l.length + 2 ≤ r ∧ r < n) ∨ (xV T q 3001 p [] = none ∧ (∃ l : List Int, mV S' (V ++ l.map (fun v => (v, -2))) ∧ (V.length : Int) + l.length ≤ n) ∧ ¬ S'.1 54 59 = -2 ∧ iv (-2) 4000 (S'.1 54 59) ∧ iv 0 3010 r)) → wX11_attribute_234 e r k S' K) : wX11_attribute_156 e p q k S K := by
  have hn := hX.1
  refine ⟨fun l2 l3 l4 l5 S' => l2 = e ∧ l4 = q ∧ l5 = k ∧ Fvx S S' ∧ ∃ l : List Int, mV S' (V ++ l.map (fun v => (v, -2))) ∧ ((S'.1 54 59 = -2 ∧ (V.length : Int) + l.length + 2 ≤ l3 ∧ l3 ≤ n ∧ ∃ f : Nat, n + 1 - l3 ≤ f ∧ xV T q f l3 l = xV T q 3001 p []) ∨ (¬ S'.1 54 59 = -2 ∧ iv (-2) 4000 (S'.1 54 59) ∧ iv 0 3010 l3 ∧ (V.length : Int) + l.length ≤ n ∧ xV T q 3001 p [] = none)), fun l2 l3 l4 l5 S' => (if S'.1 54 59 = -2 then (n + 2 - l3).toNat + 1 else 0), ⟨rfl, rfl, rfl, Fvx.rf, [], by rw [List.map_nil, List.append_nil]; exact hV, Or.inl ⟨hb, by show (V.length : Int) + 0 + 2 ≤ p; omega, p1, 3001, by omega, rfl⟩⟩, ?_⟩
  rintro l2 l3 l4 l5 S' ⟨rfl, rfl, rfl, hF, l, hM, hc⟩
  have hD' := hD.fvx hF
  unfold wX11_attribute_156'
  intro _
  rcases hc with ⟨b1, b2, b3, f, f1, f2⟩ | ⟨b1, b2, b3, b5, b4⟩
  · refine ⟨fun z => absurd b1 z, fun _ => ⟨⟨by omega, by omega⟩, n_doc hX hD' (by omega) ?_⟩⟩
    have bt := tx_rng hX (show 0 ≤ l3 by omega)
    obtain ⟨f', rfl⟩ : ∃ f', f = f' + 1 := ⟨f - 1, by omega⟩
    have hlen : (V ++ l.map (fun v => (v, (-2 : Int)))).length = V.length + l.length := by rw [List.length_append, List.length_map]
    refine ⟨⟨by omega, by omega⟩, ⟨by omega, by omega⟩, fun z => ?_, fun z => n_doc hX hD' (by omega) ⟨⟨by omega, by omega⟩, fun z2 => ?_, fun z2 => ⟨fun z3 => ⟨fun z4 => ?_, fun z4 => ?_⟩, fun z3 => ?_⟩⟩⟩
    · refine hK l3 S' hF (Or.inl ⟨l, ?_, hM, b1, b2, ?_⟩)
      · rw [← f2]
        unfold xV
        rw [if_pos z]
      · refine Int.lt_of_not_ge (fun w => ?_)
        have := hX.2.2 l3 w
        omega
    · -- the end of the text
      have e1 : xV T l4 3001 p [] = none := by
        rw [← f2]
        unfold xV
        rw [if_neg z, if_pos (Or.inr (by omega))]
      unfold wX11_attribute_194
      refine ⟨⟨by omega, by omega⟩, n_fail (by rw [b1]; exact ⟨by decide, by decide⟩) ⟨by omega, by omega⟩ (fun S2 g1 g2 g3 g4 g5 => ⟨⟨rfl, rfl, rfl, hF.tr g1, l, hM.mv g2 (by rw [g3]) (by rw [g3]), Or.inr ⟨g4, g5, ⟨by omega, by omega⟩, by omega, e1⟩⟩, ?_⟩)⟩
      show (if S2.1 54 59 = -2 then _ else 0) < (if S'.1 54 59 = -2 then (n + 2 - l3).toNat + 1 else 0)
      rw [if_neg g4, if_pos b1]
      omega
    · -- a plain sign
      have e1 : xV T l4 (f' + 1) l3 l = xV T l4 f' (l3 + 1) (l ++ [T l3]) := by
        show (if T l3 = l4 then _ else if T l3 = 60 ∨ T l3 = -1 then _ else match dec T l3 with | none => none | some r => xV T l4 f' r.2 (l ++ [r.1])) = _
        rw [if_neg z, if_neg (by omega)]
        unfold dec
        rw [if_neg z4]
      have hl3 : l3 < n := Int.lt_of_not_ge (fun w => by have := hX.2.2 l3 w; omega)
      refine n_keep hM (by rw [hlen]; omega) ⟨by decide, by decide⟩ (fun S2 g1 g2 g3 => ⟨⟨rfl, rfl, rfl, hF.tr g1, l ++ [T l3], ?_, Or.inl ⟨g3.trans b1, ?_, by omega, f', by omega, ?_⟩⟩, ?_⟩)
      · rw [map_snoc, ← List.append_assoc]
        exact g2
      · rw [List.length_append]
        show (V.length : Int) + ((l.length + 1 : Nat) : Int) + 2 ≤ l3 + 1
        omega
      · rw [← e1]
        exact f2
      · show (if S2.1 54 59 = -2 then (n + 2 - (l3 + 1)).toNat + 1 else 0) < (if S'.1 54 59 = -2 then (n + 2 - l3).toNat + 1 else 0)
        rw [if_pos (g3.trans b1), if_pos b1]
        omega
    · -- a reference
      have z4 : T l3 = 38 := Classical.not_not.mp z4
      have hl3 : l3 < n := Int.lt_of_not_ge (fun w => by have := hX.2.2 l3 w; omega)
      have e1 : xV T l4 (f' + 1) l3 l = match ent T l3 with | none => none | some r => xV T l4 f' r.2 (l ++ [r.1]) := by
        show (if T l3 = l4 then _ else if T l3 = 60 ∨ T l3 = -1 then _ else match dec T l3 with | none => none | some r => xV T l4 f' r.2 (l ++ [r.1])) = _
        rw [if_neg z, if_neg (by omega)]
        unfold dec
        rw [if_pos z4]
      refine n_ref hX hD' hM (by rw [hlen]; omega) ⟨by decide, by decide⟩ b1 (by omega) hl3 (fun q2 S2 hr => ?_)
      obtain ⟨g1, hr⟩ := hr
      rcases hr with ⟨u, r1, r2, r3⟩ | ⟨r1, r2, r3, r4, r5⟩
      · have eb := ent_b hX (by omega) r1
        refine ⟨⟨rfl, rfl, rfl, hF.tr g1, l ++ [u], ?_, Or.inl ⟨r3, ?_, by omega, f', by omega, ?_⟩⟩, ?_⟩
        · rw [map_snoc, ← List.append_assoc]
          exact r2
        · rw [List.length_append]
          show (V.length : Int) + ((l.length + 1 : Nat) : Int) + 2 ≤ q2
          omega
        · rw [← f2, e1, r1]
        · show (if S2.1 54 59 = -2 then (n + 2 - q2).toNat + 1 else 0) < (if S'.1 54 59 = -2 then (n + 2 - l3).toNat + 1 else 0)
          rw [if_pos r3, if_pos b1]
          omega
      · refine ⟨⟨rfl, rfl, rfl, hF.tr g1, l, r2, Or.inr ⟨r3, r4, r5, by omega, ?_⟩⟩, ?_⟩
        · rw [← f2, e1, r1]
        · show (if S2.1 54 59 = -2 then _ else 0) < (if S'.1 54 59 = -2 then (n + 2 - l3).toNat + 1 else 0)
          rw [if_neg r3, if_pos b1]
          omega
    · -- a <
      have e1 : xV T l4 3001 p [] = none := by
        rw [← f2]
        unfold xV
        rw [if_neg z, if_pos (Or.inl (Classical.not_not.mp z3))]
      unfold wX11_attribute_194
      refine ⟨⟨by omega, by omega⟩, n_fail (by rw [b1]; exact ⟨by decide, by decide⟩) ⟨by omega, by omega⟩ (fun S2 g1 g2 g3 g4 g5 => ⟨⟨rfl, rfl, rfl, hF.tr g1, l, hM.mv g2 (by rw [g3]) (by rw [g3]), Or.inr ⟨g4, g5, ⟨by omega, by omega⟩, by omega, e1⟩⟩, ?_⟩)⟩
      show (if S2.1 54 59 = -2 then _ else 0) < (if S'.1 54 59 = -2 then (n + 2 - l3).toNat + 1 else 0)
      rw [if_neg g4, if_pos b1]
      omega
  · exact ⟨fun _ => hK l3 S' hF (Or.inr ⟨b4, ⟨l, hM, b5⟩, b1, b2, b3⟩), fun z => absurd b1 z⟩
end XA

