/-! READING XML: the model's end tags, comments and CDATA -/
def op2 (w : Int) : List Int := if w = 0 then [33, 45, 45] else [33, 91, 67, 68, 65, 84, 65, 91]
def oS (w i : Int) : Int := (op2 w).getD i.toNat 0
def sec (T : Int → Int) (p : Int) : Option (List Int × Int) := if cm T (p + 1) [33, 45, 45] then (match cme T 3001 (p + 4) with | none => none | some q => some ([], q)) else if cm T (p + 1) [33, 91, 67, 68, 65, 84, 65, 91] then cda T 3001 (p + 9) [] else none
theorem i9 {i : Int} (h : 0 ≤ i) (h8 : i ≤ 8) : i = 0 ∨ i = 1 ∨ i = 2 ∨ i = 3 ∨ i = 4 ∨ i = 5 ∨ i = 6 ∨ i = 7 ∨ i = 8 := by omega
theorem oS_0 {w i : Int} (hw : w = 0 ∨ w = 1) (i0 : 0 ≤ i) (i8 : i ≤ 8) : (oS w i = 0 ↔ ((op2 w).length : Int) ≤ i) ∧ iv 0 65535 (oS w i) := by
  rcases hw with rfl | rfl <;> rcases i9 i0 i8 with rfl | rfl | rfl | rfl | rfl | rfl | rfl | rfl | rfl <;> exact ⟨by decide, by decide⟩
theorem op_len {w : Int} (hw : w = 0 ∨ w = 1) : 3 ≤ (op2 w).length ∧ (op2 w).length ≤ 8 := by
  rcases hw with rfl | rfl <;> exact ⟨by decide, by decide⟩
section XE
variable {S : St} {K : Int → St → Prop} {T : Int → Int} {n p u o : Int} {V : List (Int × Int)} {A : List Xa} {L E : List Xe} {e : Xe}
theorem n_opS {w i : Int} (hw : w = 0 ∨ w = 1) (i0 : 0 ≤ i) (i8 : i ≤ 8) (hK : K (oS w i) S) : wX11_openerSign w i S K := by
  unfold wX11_openerSign
  intro _ _
  rcases hw with rfl | rfl
  · refine ⟨fun z => absurd rfl z, fun _ => ?_⟩
    rcases i9 i0 i8 with rfl | rfl | rfl | rfl | rfl | rfl | rfl | rfl | rfl <;> refine ⟨fun z => ⟨fun z2 => ?_, fun z2 => ?_⟩, fun z => ?_⟩ <;> first | exact absurd (by decide) z | exact absurd rfl z | exact absurd z2 (by decide) | exact absurd (by decide) z2 | exact hK
  · refine ⟨fun _ => ?_, fun z => absurd (by decide) z⟩
    rcases i9 i0 i8 with rfl | rfl | rfl | rfl | rfl | rfl | rfl | rfl | rfl <;> (repeat' apply And.intro) <;> (intro z; first | exact absurd z (by decide) | exact absurd (by decide) z | exact hK)
theorem n_sameN2 {a m c k : Int} (hX : TX T n) (hD : dTx S T n) (a0 : 0 ≤ a) (m0 : 0 ≤ m) (bn : a + m ≤ n) (c0 : 0 ≤ c) (k0 : 0 ≤ k) (dn : c + k ≤ n) (hK : ∀ r, r = 0 ∨ r = 1 → K r S) : wX11_sameNames a m c k S K := by
  have h := n_sameN (K := K) (b := a + m) (d := c + k) hX hD a0 (by omega) bn c0 (by omega) dn (fun r hr => hK r (by omega))
  rw [show a + m - a = m by omega, show c + k - c = k by omega] at h
  exact h
theorem rNm_le (hX : TX T n) (p1 : p ≤ n) : p ≤ rNm T p ∧ rNm T p ≤ n := by
  have := eNm_le (T := T) (n := n) hX.2.2 3001 p
  exact ⟨this.1, this.2.1 p1⟩
/-- an end tag -/
theorem n_et {k : Nat} {q : Int} (hX : TX T n) (hD : dTx S T n) (hM : mX S (E, A, V)) (hw : WX n (E, A, V) q) (hb : S.1 54 59 = -2) (hk : k < E.length) (hl : E.length ≤ 200) (p0 : 0 ≤ p) (p1 : p + 1 < n) (hK : ∀ r S', Fvx S S' → S'.2 = S.2 → S'.1 54 56 = S.1 54 56 → ((etg T p (E.getD k e6) = some r ∧ S'.1 54 59 = -2 ∧ p < r ∧ r ≤ n) ∨ (etg T p (E.getD k e6) = none ∧ ¬ S'.1 54 59 = -2 ∧ iv (-2) 4000 (S'.1 54 59) ∧ iv 0 3030 r)) → K r S') : wX11_endTag p (k : Int) S K := by
  have hn := hX.1
  obtain ⟨⟨m1, m2⟩, -⟩ := hM
  obtain ⟨w1, w2, w3, w4⟩ := hw
  have mk := m2 k hk
  have wk := w3 k hk
  have mk : S.2 85 k = (E.getD k e6).1 ∧ S.2 86 k = (E.getD k e6).1 + 1 ∧ S.2 87 k = (E.getD k e6).2.1 - ((E.getD k e6).1 + 1) ∧ _ := mk
  have wk : 0 ≤ (E.getD k e6).1 ∧ (E.getD k e6).1 + 1 < (E.getD k e6).2.1 ∧ (E.getD k e6).2.1 ≤ n ∧ _ := wk
  obtain ⟨e, he⟩ : ∃ e, e = E.getD k e6 := ⟨_, rfl⟩
  rw [← he] at mk wk hK
  have hT := rNm_le (p := p + 2) hX (by omega)
  obtain ⟨to, hto⟩ : ∃ to, to = rNm T (p + 2) := ⟨_, rfl⟩
  rw [← hto] at hT
  have hetg : etg T p e = if nQ T (e.1 + 1) e.2.1 (p + 2) to then (if T (rBl T to) = 62 then some (rBl T to + 1) else none) else none := by
    rw [hto]
    rfl
  have bad : nQ T (e.1 + 1) e.2.1 (p + 2) to = false → wX11_endTag_70 p to S K := fun h => by
    refine ⟨⟨by omega, by omega⟩, n_fail (by rw [hb]; exact ⟨by decide, by decide⟩) ⟨by omega, by omega⟩ (fun S2 f1 f2 f3 f4 f5 => hK to S2 f1 f3 f2 (Or.inr ⟨?_, f4, f5, by omega, by omega⟩))⟩
    rw [hetg, h]
    rfl
  unfold wX11_endTag
  intro _ _
  refine ⟨⟨by omega, by omega⟩, n_names hX hD (by omega) (by omega) ?_⟩
  rw [← hto, mk.2.1, mk.2.2.1]
  refine fun x4 e4 => ⟨by omega, by omega, fun _ => ⟨by omega, by omega, fun _ => ⟨⟨by omega, by omega⟩, fun z => ⟨by omega, by omega, fun _ => ?_⟩, fun z => ?_⟩⟩⟩
  · have e4' : x4 = to - (p + 2) := by omega
    rw [e4']
    refine ⟨⟨by omega, by omega⟩, ⟨by omega, by omega⟩, ⟨by omega, by omega⟩, ⟨by omega, by omega⟩, n_sameN hX hD (by omega) (by omega) wk.2.2.1 (by omega) (by omega) hT.2 (fun r hr => ?_)⟩
    rcases hr with ⟨rfl, h⟩ | ⟨rfl, h⟩
    · have hB := rBl_b (p := to) hX hT.2
      have bt := tx_rng hX (show 0 ≤ rBl T to by omega)
      refine ⟨⟨by decide, by decide⟩, fun w => absurd w (by decide), fun _ => ⟨by omega, by omega, fun _ => ⟨fun _ => ⟨⟨by omega, by omega⟩, n_blanks hX hD (by omega) (by omega) ⟨⟨by omega, by omega⟩, n_doc hX hD (by omega) ⟨⟨by omega, by omega⟩, fun w => ?_, fun w => ?_⟩⟩⟩, fun w => absurd (by rw [mk.2.2.1]; omega) w⟩⟩⟩
      · have : rBl T to < n := hX.in (by omega)
        refine hK _ S Fvx.rf rfl rfl (Or.inl ⟨?_, hb, by omega, by omega⟩)
        rw [hetg, if_pos h, if_pos w]
      · refine n_fail (by rw [hb]; exact ⟨by decide, by decide⟩) ⟨by omega, by omega⟩ (fun S2 f1 f2 f3 f4 f5 => hK _ S2 f1 f3 f2 (Or.inr ⟨?_, f4, f5, by omega, by omega⟩))
        rw [hetg, if_pos h, if_neg w]
    · exact ⟨⟨by decide, by decide⟩, fun _ => bad h, fun w => absurd rfl w⟩
  · have hno : nQ T (e.1 + 1) e.2.1 (p + 2) to = false := nQ_f (fun w => by omega)
    refine ⟨⟨by omega, by omega⟩, ⟨by omega, by omega⟩, ⟨by omega, by omega⟩, ⟨by omega, by omega⟩, n_sameN2 hX hD (by omega) (by omega) (by omega) (by omega) (by omega) (by omega) (fun r hr => ?_)⟩
    rcases hr with rfl | rfl
    · exact ⟨⟨by decide, by decide⟩, fun _ => bad hno, fun w => absurd rfl w⟩
    · exact ⟨⟨by decide, by decide⟩, fun w => absurd w (by decide), fun _ => ⟨by omega, by omega, fun _ => ⟨fun w => absurd w (by rw [mk.2.2.1]; omega), fun _ => bad hno⟩⟩⟩
/-- how far an opener goes -/
theorem n_19 {w l2 l3 l4 l5 : Int} {B : Int → Int → Int → Int → Int → Int → St → Prop} (hX : TX T n) (hD : dTx S T n) (hw : w = 0 ∨ w = 1) (p0 : 0 ≤ p) (p1 : p < n) (r4 : iv 0 8 l4) (hB : ∀ m : Int, 0 ≤ m → m ≤ (op2 w).length → (∀ i, 0 ≤ i → i < m → T (p + 1 + i) = oS w i) → (m < (op2 w).length → ¬ T (p + 1 + m) = oS w m) → B p l2 l3 (if m ≤ l4 then l4 else m) (if m = (op2 w).length then w else l5) (w + 1) S) : wX11_section_19 p l2 l3 l4 l5 w 0 S K B := by
  have hn := hX.1
  have hlen := op_len hw
  refine ⟨fun a1 a2 a3 a4 a5 a6 a7 S' => a1 = p ∧ a2 = l2 ∧ a3 = l3 ∧ a4 = l4 ∧ a5 = l5 ∧ a6 = w ∧ S' = S ∧ 0 ≤ a7 ∧ a7 ≤ (op2 w).length ∧ ∀ i, 0 ≤ i → i < a7 → T (p + 1 + i) = oS w i, fun a1 a2 a3 a4 a5 a6 a7 S' => (((op2 w).length : Int) - a7).toNat, ⟨rfl, rfl, rfl, rfl, rfl, rfl, rfl, by decide, by omega, fun i i0 i1 => by omega⟩, ?_⟩
  rintro a1 a2 a3 a4 a5 a6 a7 S' ⟨rfl, rfl, rfl, rfl, rfl, rfl, rfl, i0, i1, i2⟩
  obtain ⟨s0, sb⟩ := oS_0 (w := a6) (i := a7) hw i0 (by omega)
  have bt := tx_rng hX (show 0 ≤ a1 + 1 + a7 by omega)
  have out : (a7 < (op2 a6).length → ¬ T (a1 + 1 + a7) = oS a6 a7) → wX11_section_55 a1 a2 a3 a4 a5 a6 a7 S' K B := fun hm => by
    have hb := hB a7 i0 i1 i2 hm
    refine ⟨⟨by omega, by omega⟩, ⟨by omega, by omega⟩, n_opS hw i0 (by omega) ⟨⟨by omega, by omega⟩, fun z => ⟨⟨by omega, by omega⟩, ⟨by omega, by omega⟩, fun z2 => ?_, fun z2 => ?_⟩, fun z => ⟨⟨by omega, by omega⟩, ⟨by omega, by omega⟩, fun z2 => ?_, fun z2 => ?_⟩⟩⟩
    · have hz : ¬ a7 = (op2 a6).length := fun y => z (s0.mpr (by omega))
      rw [if_pos z2, if_neg hz] at hb
      exact hb
    · have hz : ¬ a7 = (op2 a6).length := fun y => z (s0.mpr (by omega))
      rw [if_neg z2, if_neg hz] at hb
      exact hb
    · have hz : a7 = (op2 a6).length := by
        have := s0.mp (Classical.not_not.mp z)
        omega
      rw [if_pos z2, if_pos hz] at hb
      exact hb
    · have hz : a7 = (op2 a6).length := by
        have := s0.mp (Classical.not_not.mp z)
        omega
      rw [if_neg z2, if_pos hz] at hb
      exact hb
  refine ⟨⟨by omega, by omega⟩, ⟨by omega, by omega⟩, n_opS hw i0 (by omega) ⟨⟨by omega, by omega⟩, fun z => out (fun y => absurd (s0.mp z) (by omega)), fun z => n_opS hw i0 (by omega) ⟨⟨by omega, by omega⟩, n_doc hX hD (by omega) ⟨⟨by omega, by omega⟩, ⟨by omega, by omega⟩, fun z2 => out (fun _ y => z2 y.symm), fun z2 => ?_⟩⟩⟩⟩
  have hz : a7 < (op2 a6).length := Int.lt_of_not_ge (fun y => z (s0.mpr y))
  refine ⟨⟨rfl, rfl, rfl, rfl, rfl, rfl, rfl, by omega, by omega, fun i j0 j1 => ?_⟩, ?_⟩
  · by_cases c : i = a7
    · rw [c]
      exact (Classical.not_not.mp z2).symm
    · exact i2 i j0 (by omega)
  · show (((op2 a6).length : Int) - (a7 + 1)).toNat < (((op2 a6).length : Int) - a7).toNat
    omega
theorem cm_oS {w m : Int} (hw : w = 0 ∨ w = 1) (h1 : m ≤ (op2 w).length) (h2 : ∀ i, 0 ≤ i → i < m → T (p + 1 + i) = oS w i) (h3 : m < (op2 w).length → ¬ T (p + 1 + m) = oS w m) (h0 : 0 ≤ m) : (m = (op2 w).length ↔ cm T (p + 1) (op2 w) = true) := by
  rw [cm_iff]
  refine ⟨fun h i hi => ?_, fun h => ?_⟩
  · have := h2 i (by omega) (by omega)
    rw [this]
    unfold oS
    rw [show (i : Int).toNat = i by omega]
  · refine Int.le_antisymm h1 (Int.le_of_not_gt (fun z => h3 z ?_))
    have := h m.toNat (by omega)
    rw [show ((m.toNat : Nat) : Int) = m by omega] at this
    exact this
/-- a comment -/
theorem n_134 {q : Int} (hX : TX T n) (hD : dTx S T n) (hb : S.1 54 59 = -2) (q0 : 0 ≤ q) (q1 : q ≤ n) (hK : ∀ r S', Fvx S S' → S'.2 = S.2 → S'.1 54 56 = S.1 54 56 → ((cme T 3001 q = some r ∧ S'.1 54 59 = -2 ∧ q < r ∧ r ≤ n) ∨ (cme T 3001 q = none ∧ ¬ S'.1 54 59 = -2 ∧ iv (-2) 4000 (S'.1 54 59) ∧ iv 0 3030 r)) → K r S') : wX11_section_134 q S K := by
  have hn := hX.1
  refine ⟨fun l6 S' => S' = S ∧ q ≤ l6 ∧ l6 ≤ n ∧ ∃ f : Nat, n + 1 - l6 ≤ f ∧ cme T f l6 = cme T 3001 q, fun l6 S' => (n + 1 - l6).toNat, ⟨rfl, Int.le_refl _, q1, 3001, by omega, rfl⟩, ?_⟩
  rintro l6 S' ⟨rfl, i0, i1, f, f1, f2⟩
  obtain ⟨f', rfl⟩ : ∃ f', f = f' + 1 := ⟨f - 1, by omega⟩
  have bt := tx_rng hX (show 0 ≤ l6 by omega)
  have bt1 := tx_rng hX (show 0 ≤ l6 + 1 by omega)
  have bt2 := tx_rng hX (show 0 ≤ l6 + 2 by omega)
  have f3 : cme T 3001 q = if T l6 = -1 then none else if T l6 = 45 ∧ T (l6 + 1) = 45 then (if T (l6 + 2) = 62 then some (l6 + 3) else none) else cme T f' (l6 + 1) := f2.symm
  have next : ¬ T l6 = -1 → ¬ (T l6 = 45 ∧ T (l6 + 1) = 45) → wX11_section_167 l6 S' K (fun ml6 T1 => (T1 = S' ∧ q ≤ ml6 ∧ ml6 ≤ n ∧ ∃ f : Nat, n + 1 - ml6 ≤ f ∧ cme T f ml6 = cme T 3001 q) ∧ (n + 1 - ml6).toNat < (n + 1 - l6).toNat) := fun h1 h2 => by
    have := hX.in h1
    refine ⟨⟨rfl, by omega, by omega, f', by omega, ?_⟩, by omega⟩
    rw [f3, if_neg h1, if_neg h2]
  have out : (T l6 = -1 ∨ (T l6 = 45 ∧ T (l6 + 1) = 45)) → wX11_section_173 l6 S' K := fun h => by
    refine ⟨⟨by omega, by omega⟩, n_doc hX hD (by omega) ⟨⟨by omega, by omega⟩, fun z => ⟨⟨by omega, by omega⟩, n_doc hX hD (by omega) ⟨⟨by omega, by omega⟩, fun z2 => ?_, fun z2 => ?_⟩⟩, fun z _ => ?_⟩⟩
    · have : l6 + 2 < n := hX.in (by omega)
      refine hK _ S' Fvx.rf rfl rfl (Or.inl ⟨?_, hb, by omega, by omega⟩)
      rw [f3, if_neg (by omega), if_pos (by omega), if_pos z2]
    · refine n_fail (by rw [hb]; exact ⟨by decide, by decide⟩) ⟨by omega, by omega⟩ (fun S2 f1 f2 f3' f4 f5 => hK _ S2 f1 f3' f2 (Or.inr ⟨?_, f4, f5, by omega, by omega⟩))
      rw [f3, if_neg (by omega), if_pos (by omega), if_neg z2]
    · rw [hD.1]
      refine n_fail (by rw [hb]; exact ⟨by decide, by decide⟩) ⟨by omega, by omega⟩ (fun S2 f1 f2 f3' f4 f5 => hK _ S2 f1 f3' f2 (Or.inr ⟨?_, f4, f5, by omega, by omega⟩))
      rw [f3, if_pos (by omega)]
  refine ⟨⟨by omega, by omega⟩, n_doc hX hD (by omega) ⟨⟨by omega, by omega⟩, fun z => out (Or.inl (by omega)), fun z => n_doc hX hD (by omega) ⟨⟨by omega, by omega⟩, fun z2 => next (by omega) (fun w => z2 w.1), fun z2 => ⟨⟨by omega, by omega⟩, n_doc hX hD (by omega) ⟨⟨by omega, by omega⟩, fun z3 => out (Or.inr ⟨Classical.not_not.mp z2, z3⟩), fun z3 => next (by omega) (fun w => z3 w.2)⟩⟩⟩⟩⟩
theorem map_snoc2 {l : List Int} {x : Int} {V : List (Int × Int)} : V ++ (l ++ [u]).map (fun v => (v, x)) = (V ++ l.map (fun v => (v, x))) ++ [(u, x)] := by simp
/-- signs as they stand -/
theorem n_219 {q : Int} (hX : TX T n) (hD : dTx S T n) (hV : mV S V) (hb : S.1 54 59 = -2) (ho : iv (-2) 199 o) (hl : (V.length : Int) ≤ q) (q0 : 0 ≤ q) (q1 : q ≤ n) (hK : ∀ r S', Fvx S S' → ((∃ l, cda T 3001 q [] = some (l, r) ∧ mV S' (V ++ l.map (fun v => (v, o))) ∧ S'.1 54 59 = -2 ∧ (l.length : Int) + q < r ∧ r ≤ n) ∨ (cda T 3001 q [] = none ∧ ¬ S'.1 54 59 = -2 ∧ iv (-2) 4000 (S'.1 54 59) ∧ iv 0 3030 r)) → K r S') : wX11_section_219 o q S K := by
  have hn := hX.1
  refine ⟨fun l2 l6 S' => l2 = o ∧ Fvx S S' ∧ S'.1 54 59 = -2 ∧ q ≤ l6 ∧ l6 ≤ n ∧ ∃ (l : List Int) (f : Nat), mV S' (V ++ l.map (fun v => (v, o))) ∧ (l.length : Int) + q = l6 ∧ n + 1 - l6 ≤ f ∧ cda T f l6 l = cda T 3001 q [], fun l2 l6 S' => (n + 1 - l6).toNat, ⟨rfl, Fvx.rf, hb, Int.le_refl _, q1, [], 3001, by rw [List.map_nil, List.append_nil]; exact hV, by show ((0 : Nat) : Int) + q = q; omega, by omega, rfl⟩, ?_⟩
  rintro l2 l6 S' ⟨rfl, hF, b, i0, i1, l, f, hm, hll, f1, f2⟩
  have hD' := hD.fvx hF
  obtain ⟨f', rfl⟩ : ∃ f', f = f' + 1 := ⟨f - 1, by omega⟩
  have bt := tx_rng hX (show 0 ≤ l6 by omega)
  have bt1 := tx_rng hX (show 0 ≤ l6 + 1 by omega)
  have bt2 := tx_rng hX (show 0 ≤ l6 + 2 by omega)
  have f3 : cda T 3001 q [] = if T l6 = -1 then none else if T l6 = 93 ∧ T (l6 + 1) = 93 ∧ T (l6 + 2) = 62 then some (l, l6 + 3) else cda T f' (l6 + 1) (l ++ [T l6]) := f2.symm
  have hlen : (V ++ l.map (fun v => (v, l2))).length = V.length + l.length := by rw [List.length_append, List.length_map]
  have next : ¬ T l6 = -1 → ¬ (T l6 = 93 ∧ T (l6 + 1) = 93 ∧ T (l6 + 2) = 62) → wX11_section_265 l2 l6 S' K (fun ml2 ml6 T1 => (ml2 = l2 ∧ Fvx S T1 ∧ T1.1 54 59 = -2 ∧ q ≤ ml6 ∧ ml6 ≤ n ∧ ∃ (l : List Int) (f : Nat), mV T1 (V ++ l.map (fun v => (v, l2))) ∧ (l.length : Int) + q = ml6 ∧ n + 1 - ml6 ≤ f ∧ cda T f ml6 l = cda T 3001 q []) ∧ (n + 1 - ml6).toNat < (n + 1 - l6).toNat) := fun h1 h2 => by
    have h3 := hX.in h1
    refine ⟨by omega, by omega, ?_⟩
    rw [hD'.2 l6 (by omega) h3]
    refine fun _ => ⟨⟨by omega, by omega⟩, n_keep hm (by rw [hlen]; omega) ho (fun S2 g1 g2 g3 => ⟨⟨rfl, hF.tr g1, g3.trans b, by omega, by omega, l ++ [T l6], f', ?_, ?_, by omega, ?_⟩, by omega⟩)⟩
    · rw [map_snoc2]
      exact g2
    · rw [len1]
      omega
    · rw [f3, if_neg h1, if_neg h2]
  have out : (T l6 = -1 ∨ (T l6 = 93 ∧ T (l6 + 1) = 93 ∧ T (l6 + 2) = 62)) → wX11_section_283 l6 S' K := fun h => by
    refine ⟨⟨by omega, by omega⟩, n_doc hX hD' (by omega) ⟨⟨by omega, by omega⟩, fun z => ?_, fun z _ => ?_⟩⟩
    · have : l6 + 2 < n := hX.in (by omega)
      refine hK _ S' hF (Or.inl ⟨l, ?_, hm, b, by omega, by omega⟩)
      rw [f3, if_neg (by omega), if_pos (by omega)]
    · rw [hD'.1]
      refine n_fail (by rw [b]; exact ⟨by decide, by decide⟩) ⟨by omega, by omega⟩ (fun S2 f1 f2 f3' f4 f5 => hK _ S2 (hF.tr f1) (Or.inr ⟨?_, f4, f5, by omega, by omega⟩))
      rw [f3, if_pos (by omega)]
  refine ⟨⟨by omega, by omega⟩, n_doc hX hD' (by omega) ⟨⟨by omega, by omega⟩, fun z => out (Or.inl (by omega)), fun z => n_doc hX hD' (by omega) ⟨⟨by omega, by omega⟩, fun z2 => next (by omega) (fun w => z2 w.1), fun z2 => ⟨⟨by omega, by omega⟩, n_doc hX hD' (by omega) ⟨⟨by omega, by omega⟩, fun z3 => next (by omega) (fun w => z3 w.2.1), fun z3 => ⟨⟨by omega, by omega⟩, n_doc hX hD' (by omega) ⟨⟨by omega, by omega⟩, fun z4 => out (Or.inr ⟨Classical.not_not.mp z2, Classical.not_not.mp z3, z4⟩), fun z4 => next (by omega) (fun w => z4 w.2.2)⟩⟩⟩⟩⟩⟩⟩
/-- a comment or CDATA -/
theorem n_sec {fl : Int} (hX : TX T n) (hD : dTx S T n) (hV : mV S V) (hb : S.1 54 59 = -2) (ho : iv (-2) 199 o) (hf : fl = 0 ∨ fl = 1) (hl : (V.length : Int) ≤ p) (p0 : 0 ≤ p) (p1 : p < n) (hK : ∀ r S', Fvx S S' → ((∃ l, sec T p = some (l, r) ∧ mV S' (V ++ l.map (fun v => (v, o))) ∧ S'.1 54 59 = -2 ∧ (l.length : Int) + p < r ∧ r ≤ n) ∨ (sec T p = none ∧ ¬ S'.1 54 59 = -2 ∧ iv (-2) 4000 (S'.1 54 59) ∧ iv 0 3030 r)) → K r S') : wX11_section p o fl S K := by
  have hn := hX.1
  unfold wX11_section
  intro _ _ _
  have c01 : cm T (p + 1) (op2 0) = true → cm T (p + 1) (op2 1) = false := fun h => by
    cases hc : cm T (p + 1) (op2 1) with
    | false => rfl
    | true =>
      have q1 := cm_iff.mp h 1 (by decide)
      have q2 := cm_iff.mp hc 1 (by decide)
      rw [q1] at q2
      exact absurd q2 (by decide)
  refine ⟨fun l1 l2 l3 l4 l5 l6 S' => l1 = p ∧ l2 = o ∧ l3 = fl ∧ S' = S ∧ iv 0 8 l4 ∧ ((l6 = 0 ∧ l4 = 0 ∧ l5 = -2) ∨ (l6 = 1 ∧ (cm T (p + 1) (op2 0) = true → l5 = 0 ∧ l4 = 3) ∧ (cm T (p + 1) (op2 0) = false → l5 = -2)) ∨ (l6 = 2 ∧ (cm T (p + 1) (op2 0) = true → l5 = 0 ∧ l4 = 3) ∧ (cm T (p + 1) (op2 1) = true → l5 = 1 ∧ l4 = 8) ∧ (cm T (p + 1) (op2 0) = false → cm T (p + 1) (op2 1) = false → l5 = -2))), fun l1 l2 l3 l4 l5 l6 S' => (2 - l6).toNat, ⟨rfl, rfl, rfl, rfl, ⟨by decide, by decide⟩, Or.inl ⟨rfl, rfl, rfl⟩⟩, ?_⟩
  rintro l1 l2 l3 l4 l5 l6 S' ⟨rfl, rfl, rfl, rfl, r4, hc⟩
  rcases hc with ⟨rfl, rfl, rfl⟩ | ⟨rfl, c1, c2⟩ | ⟨rfl, c1, c2, c3⟩
  · refine ⟨⟨by decide, by decide⟩, fun z => absurd z (by decide), fun _ => n_19 hX hD (Or.inl rfl) p0 p1 r4 (fun m m0 m1 m2 m3 => ?_)⟩
    have hm := cm_oS (Or.inl rfl) m1 m2 m3 m0
    have l3' : ((op2 0).length : Int) = 3 := rfl
    rw [l3'] at m1
    refine ⟨⟨rfl, rfl, rfl, rfl, ?_, Or.inr (Or.inl ⟨rfl, fun h => ?_, fun h => ?_⟩)⟩, (by decide : (2 - (0 + 1) : Int).toNat < (2 - 0 : Int).toNat)⟩
    · split <;> exact ⟨by omega, by omega⟩
    · have := hm.mpr h
      rw [if_pos this, if_neg (by omega)]
      exact ⟨rfl, by rw [this]; rfl⟩
    · rw [if_neg (fun w => by rw [hm.mp w] at h; cases h)]
  · refine ⟨⟨by decide, by decide⟩, fun z => absurd z (by decide), fun _ => n_19 hX hD (Or.inr rfl) p0 p1 r4 (fun m m0 m1 m2 m3 => ?_)⟩
    have hm := cm_oS (Or.inr rfl) m1 m2 m3 m0
    have l8 : ((op2 1).length : Int) = 8 := rfl
    rw [l8] at m1
    refine ⟨⟨rfl, rfl, rfl, rfl, ?_, Or.inr (Or.inr ⟨rfl, fun h => ?_, fun h => ?_, fun h h' => ?_⟩)⟩, (by decide : (2 - (1 + 1) : Int).toNat < (2 - 1 : Int).toNat)⟩
    · split <;> exact ⟨by omega, by omega⟩
    · obtain ⟨d1, d2⟩ := c1 h
      have q1 := cm_iff.mp h 1 (by decide)
      have hm1 : m ≤ 1 := Int.le_of_not_gt (fun w => by
        have q2 := m2 1 (by decide) (by omega)
        rw [show l1 + 1 + 1 = l1 + 1 + ((1 : Nat) : Int) from rfl, q1] at q2
        exact absurd q2 (by decide))
      rw [if_neg (by rw [l8]; omega), if_pos (by omega)]
      exact ⟨d1, d2⟩
    · have e8 := hm.mpr h
      rw [if_pos e8]
      refine ⟨rfl, ?_⟩
      rw [l8] at e8
      split <;> omega
    · rw [if_neg (fun w => by rw [hm.mp w] at h'; cases h')]
      exact c2 h
  · refine ⟨⟨by decide, by decide⟩, fun _ x3 e3 => ?_, fun z => absurd (by decide) z⟩
    cases h0 : cm T (l1 + 1) (op2 0) with
    | true =>
      obtain ⟨d1, d2⟩ := c1 h0
      have b4 := cm_b hX h0 (by decide) (by decide)
      have b4 : l1 + 1 + 3 ≤ n := b4
      have hs : sec T l1 = match cme T 3001 (l1 + 4) with | none => none | some q => some ([], q) := by
        unfold sec
        rw [if_pos (show cm T (l1 + 1) [33, 45, 45] = true from h0)]
      refine ⟨⟨by omega, by omega⟩, fun _ => ⟨fun z => absurd d1 z, fun _ => ?_⟩, fun z => absurd (by omega) z⟩
      rw [e3, d2, show l1 + 1 + 3 = l1 + 4 by omega]
      refine n_134 hX hD hb (by omega) (by omega) (fun r S2 g1 g2 g3 g4 => hK r S2 g1 ?_)
      rcases g4 with ⟨h1, h2, h3, h4⟩ | ⟨h1, h2, h3, h4⟩
      · refine Or.inl ⟨[], by rw [hs, h1], ?_, h2, by show ((0 : Nat) : Int) + l1 < r; omega, h4⟩
        rw [List.map_nil, List.append_nil]
        exact hV.mv g3 (by rw [g2]) (by rw [g2])
      · exact Or.inr ⟨by rw [hs, h1], h2, h3, h4⟩
    | false =>
      cases h1 : cm T (l1 + 1) (op2 1) with
      | true =>
        obtain ⟨d1, d2⟩ := c2 h1
        have b4 := cm_b hX h1 (by decide) (by decide)
        have b4 : l1 + 1 + 8 ≤ n := b4
        have hs : sec T l1 = cda T 3001 (l1 + 9) [] := by
          unfold sec
          rw [if_neg (by rw [show cm T (l1 + 1) [33, 45, 45] = false from h0]; decide), if_pos (show cm T (l1 + 1) [33, 91, 67, 68, 65, 84, 65, 91] = true from h1)]
        refine ⟨⟨by omega, by omega⟩, fun _ => ⟨fun _ => ?_, fun z => absurd (by omega) z⟩, fun z => absurd (by omega) z⟩
        rw [e3, d2, show l1 + 1 + 8 = l1 + 9 by omega]
        refine n_219 hX hD hV hb ho (by omega) (by omega) (by omega) (fun r S2 g1 g2 => hK r S2 g1 ?_)
        rcases g2 with ⟨l, y1, y2, y3, y4, y5⟩ | ⟨y1, y2, y3, y4⟩
        · exact Or.inl ⟨l, by rw [hs, y1], y2, y3, by omega, y5⟩
        · exact Or.inr ⟨by rw [hs, y1], y2, y3, y4⟩
      | false =>
        have d1 := c3 h0 h1
        have hs : sec T l1 = none := by
          unfold sec
          rw [if_neg (by rw [show cm T (l1 + 1) [33, 45, 45] = false from h0]; decide), if_neg (by rw [show cm T (l1 + 1) [33, 91, 67, 68, 65, 84, 65, 91] = false from h1]; decide)]
        have no : ∀ z, iv 0 4000 z → wX11_section_123 x3 z S' K := fun z hz => ⟨⟨by omega, by omega⟩, n_fail (by rw [hb]; exact ⟨by decide, by decide⟩) hz (fun S2 f1 f2 f3 f4 f5 => hK _ S2 f1 (Or.inr ⟨hs, f4, f5, by omega, by omega⟩))⟩
        refine ⟨⟨by omega, by omega⟩, fun z => absurd d1 z, fun _ => ⟨⟨by omega, by omega⟩, fun _ => no _ ⟨by omega, by omega⟩, fun _ => no _ ⟨by omega, by omega⟩⟩⟩
end XE

