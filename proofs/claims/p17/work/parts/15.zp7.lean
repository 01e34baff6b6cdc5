/-! THE CLASS READS CLASSES: the loop -/
section FW
variable {S S' : St} {K : Int → St → Prop} {T : Int → Int} {n p : Int} {e : Env}
theorem qE_ok (hX : TX T n) (hV : PV e) (hn : p ≤ n) : (p ≤ (qE T e p).2.1 ∧ (qE T e p).2.1 ≤ n) ∧ ((qE T e p).2.2 = 0 ∨ ((qE T e p).2.2 = 1 ∧ PV (qE T e p).1 ∧ eC (qE T e p).1 = eC e)) := by
  unfold qE
  by_cases h : T p = 41
  · have h1 : p < n := hX.in (by omega)
    rw [if_pos h]
    exact ⟨⟨by show p ≤ p + 1; omega, by show p + 1 ≤ n; omega⟩, Or.inr ⟨rfl, hV, rfl⟩⟩
  · rw [if_neg h]
    exact ⟨⟨Int.le_refl _, hn⟩, Or.inl rfl⟩
theorem qFs_ok (hX : TX T n) : ∀ (k : Nat) (e : Env) (p : Int), PV e → 0 ≤ p → p ≤ n → 1 ≤ eC e → nF e + k ≤ 4 → (p ≤ (qFs T k e p).2.1 ∧ (qFs T k e p).2.1 ≤ n) ∧ ((qFs T k e p).2.2 = 0 ∨ ((qFs T k e p).2.2 = 1 ∧ PV (qFs T k e p).1 ∧ eC (qFs T k e p).1 = eC e))
  | 0, e, p, hV, h0, hn, hc, hk => qE_ok hX hV hn
  | k + 1, e, p, hV, h0, hn, hc, hk => by
    obtain ⟨⟨o1, o2⟩, o3⟩ := qF_ok hX hV h0 hn hc (by omega)
    unfold qFs
    by_cases h : (qF T e p).2.2 = 0
    · rw [if_pos h]
      exact ⟨⟨o1, o2⟩, Or.inl h⟩
    · rw [if_neg h]
      obtain ⟨-, v, c, f⟩ := o3.resolve_left h
      by_cases h2 : k ≠ 0 ∧ T (qF T e p).2.1 = 44
      · rw [if_pos h2]
        have h3 : (qF T e p).2.1 < n := hX.in (by have := h2.2; omega)
        obtain ⟨⟨r1, r2⟩, r3⟩ := qFs_ok hX k (qF T e p).1 ((qF T e p).2.1 + 1) v (by omega) (by omega) (by omega) (by omega)
        rw [c] at r3
        exact ⟨⟨by omega, r2⟩, r3⟩
      · rw [if_neg h2]
        obtain ⟨⟨r1, r2⟩, r3⟩ := qE_ok hX v o2
        rw [c] at r3
        exact ⟨⟨by omega, r2⟩, r3⟩
theorem qO_ok (hX : TX T n) (hV : PV e) (h0 : 0 ≤ p) (hn : p ≤ n) (hc : eC e < 6) : (p ≤ (qO T e p).2.1 ∧ (qO T e p).2.1 ≤ n) ∧ ((qO T e p).2.2 = 0 ∨ ((qO T e p).2.2 = 1 ∧ PV (qO T e p).1 ∧ eC (qO T e p).1 = eC e + 1)) := by
  have hq := qR_in hX hn
  have h8 := qR_8 (T := T) (p := p)
  have v1 := hV.1
  unfold qO
  by_cases h1 : qR T p = []
  · rw [if_pos h1]
    exact ⟨⟨Int.le_refl _, hn⟩, Or.inl rfl⟩
  · rw [if_neg h1]
    have hl : 1 ≤ (qR T p).length := List.length_pos_iff.mpr h1
    have V2 : PV (eAC e (qR T p)) := PV_AC hV hc hl h8
    obtain ⟨q, hqq⟩ : ∃ q, q = p + ((qR T p).length : Int) := ⟨_, rfl⟩
    rw [← hqq] at hq ⊢
    by_cases h2 : T q = 40
    · rw [if_pos h2]
      have h3 : q < n := hX.in (by omega)
      by_cases h4 : T (q + 1) = 41
      · have h5 : q + 1 < n := hX.in (by omega)
        rw [if_pos h4]
        exact ⟨⟨by show p ≤ q + 2; omega, by show q + 2 ≤ n; omega⟩, Or.inr ⟨rfl, V2, rfl⟩⟩
      · rw [if_neg h4]
        have ec : nC (eAC e (qR T p)) = eC e := by
          show eC e + 1 - 1 = eC e
          omega
        have ef : nF (eAC e (qR T p)) = 0 := by
          show eF (eAC e (qR T p)) (nC (eAC e (qR T p))) = 0
          rw [ec, eF_AC, if_pos rfl]
        obtain ⟨⟨r1, r2⟩, r3⟩ := qFs_ok hX 4 (eAC e (qR T p)) (q + 1) V2 (by omega) (by omega) (by rw [eC_AC]; omega) (by rw [ef]; decide)
        exact ⟨⟨by omega, r2⟩, r3⟩
    · rw [if_neg h2]
      exact ⟨⟨by show p ≤ q; omega, hq⟩, Or.inl rfl⟩
/-- the text is wrong at w; the text is right -/
def QW (T : Int → Int) (n w : Int) : Prop := w = (qC T 6 e0 0).2.1 ∧ ((qC T 6 e0 0).2.2 = 0 ∨ ((qC T 6 e0 0).2.2 = 1 ∧ ((qC T 6 e0 0).2.1 < n ∨ BadN (qC T 6 e0 0).1)))
def QG (T : Int → Int) (n : Int) : Prop := (qC T 6 e0 0).2.2 = 1 ∧ ¬ (qC T 6 e0 0).2.1 < n ∧ ¬ BadN (qC T 6 e0 0).1
theorem PV_0 : PV e0 := by
  refine ⟨⟨by decide, by decide⟩, fun c hc => ?_, fun c f hf => ?_, fun k hk => ?_⟩
  · have h1 := hc.1
    have h2 : c < 0 := hc.2
    omega
  · have h1 := hf.1.1
    have h2 : c < 0 := hf.1.2
    omega
  · rcases hk with hc | ⟨c, f, hf, -⟩
    · have h1 := hc.1
      have h2 : k < 0 := hc.2
      omega
    · have h1 := hf.1.1
      have h2 : c < 0 := hf.1.2
      omega
theorem cP_0 (h : S.1 33 8 = 0) : cP S e0 := by
  refine ⟨h, fun c hc => ?_, fun c f hf => ?_, fun k hk => ?_⟩
  · have h1 := hc.1
    have h2 : c < 0 := hc.2
    omega
  · have h1 := hf.1.1
    have h2 : c < 0 := hf.1.2
    omega
  · rcases hk with hc | ⟨c, f, hf, -⟩
    · have h1 := hc.1
      have h2 : k < 0 := hc.2
      omega
    · have h1 := hf.1.1
      have h2 : c < 0 := hf.1.2
      omega
/-- the state of reading classes -/
theorem c_fw (hX : TX T n) (hT : cTx S T n) (hp : S.1 200 2 = 0) (hK : ∀ x S', Cq S S' → ((QW T n x ∧ iv 0 3000 x) ∨ (QG T n ∧ x = -1 ∧ cP S' (qC T 6 e0 0).1 ∧ PV (qC T 6 e0 0).1)) → K x S') : wX0_firstWrong S K := by
  have hn := hX.1
  unfold wX0_firstWrong wX4_clear
  intro S1 h1
  have f1 : Cq S S1 := by
    rw [h1]
    exact ⟨fun a j q _ => if_neg q, fun _ _ => rfl⟩
  have p1 : S1.1 200 2 = 0 := by
    rw [h1]
    exact hp
  have z1 : S1.1 33 8 = 0 := by
    rw [h1]
    rfl
  refine ⟨fun l1 l2 S' => iv 0 6 l2 ∧ ∃ e' p', Cq S S' ∧ S'.1 200 2 = p' ∧ 0 ≤ p' ∧ p' ≤ n ∧ cP S' e' ∧ PV e' ∧ eC e' = l2 ∧ ((l1 = 1 ∧ l2 < 6 ∧ qC T 6 e0 0 = qC T (6 - l2).toNat e' p') ∨ (l1 = 0 ∧ qC T 6 e0 0 = (e', p', 1))), fun l1 l2 S' => (6 - l2).toNat, ⟨⟨by decide, by decide⟩, e0, 0, f1, p1, by decide, by omega, cP_0 z1, PV_0, rfl, Or.inl ⟨rfl, by decide, rfl⟩⟩, fun l1 l2 S' hI => ?_⟩
  obtain ⟨i2, e', p', i3, i4, i5, i5', i6, i7, i8, i10⟩ := hI
  have fin : qC T 6 e0 0 = (e', p', 1) → wX0_firstWrong_63 S' K := fun z => by
    have hT' := hT.cq i3
    unfold wX0_firstWrong_63
    rw [i4]
    intro _ gl
    have hl : S'.1 1 1 = n := hT'.1
    rw [hl]
    refine ⟨⟨by omega, by omega⟩, fun h => c_obeys i6 i7 (fun hb => ⟨⟨by decide, by decide⟩, fun h2 => absurd h2 (by decide), fun _ => hK (-1) S' i3 (Or.inr ⟨⟨by rw [z], by rw [z]; show ¬ p' < n; omega, by rw [z]; exact hb⟩, rfl, by rw [z]; exact i6, by rw [z]; exact i7⟩)⟩) (fun hb => ⟨⟨by decide, by decide⟩, fun _ _ => ?_, fun h2 => absurd rfl h2⟩), fun h => ?_⟩
    · rw [i4]
      exact hK p' S' i3 (Or.inl ⟨⟨by rw [z], Or.inr ⟨by rw [z], Or.inr (by rw [z]; exact hb)⟩⟩, by omega, by omega⟩)
    · rw [i4]
      exact fun _ => hK p' S' i3 (Or.inl ⟨⟨by rw [z], Or.inr ⟨by rw [z], Or.inl (by rw [z]; show p' < n; omega)⟩⟩, by omega, by omega⟩)
  refine ⟨⟨by omega, by omega⟩, fun h => ?_, fun h => ?_⟩
  · rcases i10 with ⟨-, z, -⟩ | ⟨-, z⟩
    · omega
    · exact fin z
  have g2 : rng l1 := by
    rcases i10 with ⟨z, -⟩ | ⟨z, -⟩ <;> exact ⟨by omega, by omega⟩
  refine ⟨g2, fun h2 => ?_, fun h2 => ?_⟩
  · rcases i10 with ⟨z, -⟩ | ⟨-, z⟩
    · omega
    · exact fin z
  clear fin
  rcases i10 with ⟨-, h4, z⟩ | ⟨z, -⟩
  · have hs : (6 - l2).toNat = (6 - (l2 + 1)).toNat + 1 := by omega
    rw [hs] at z
    have ok := qO_ok hX i7 i5 i5' (by omega : eC e' < 6)
    have z2 : qC T 6 e0 0 = if (qO T e' p').2.2 = 0 then qO T e' p' else if (6 - (l2 + 1)).toNat ≠ 0 ∧ T (qO T e' p').2.1 = 59 then qC T (6 - (l2 + 1)).toNat (qO T e' p').1 ((qO T e' p').2.1 + 1) else ((qO T e' p').1, (qO T e' p').2.1, 1) := z
    clear z
    rw [← i8]
    refine c_class hX (hT.cq i3) i6 i7 i4 i5 i5' (by omega) (fun S5 f5 p5 c5 => ?_)
    obtain ⟨ok1, ok2⟩ := ok
    have f6 := i3.tr f5
    rcases ok2 with ok2 | ⟨ok2, ok3, ok4⟩
    · rw [ok2]
      rw [if_pos ok2] at z2
      refine ⟨⟨by decide, by decide⟩, fun h3 => absurd rfl h3, fun _ => ?_⟩
      rw [p5]
      exact fun _ => hK _ S5 f6 (Or.inl ⟨⟨by rw [z2], Or.inl (by rw [z2]; exact ok2)⟩, by omega, by omega⟩)
    · have c6 := c5 ok2
      rw [ok2]
      rw [if_neg (by omega)] at z2
      refine ⟨⟨by decide, by decide⟩, fun _ => ⟨⟨by omega, by omega⟩, fun h3 => ?_, fun h3 => ?_⟩, fun h3 => absurd (by decide) h3⟩
      · rw [if_neg (fun y => y.1 (by omega))] at z2
        exact ⟨⟨⟨by omega, by omega⟩, _, _, f6, p5, by omega, ok1.2, c6, ok3, by omega, Or.inr ⟨rfl, z2⟩⟩, by dsimp only; omega⟩
      · refine c_sk hX (hT.cq f6) p5 (by omega) (by decide) (fun h5 => ⟨⟨by decide, by decide⟩, fun h => absurd h (by decide), fun _ => ?_⟩) (fun h5 => ⟨⟨by decide, by decide⟩, fun _ => ?_, fun h => absurd rfl h⟩)
        · rw [if_pos ⟨by omega, h5⟩] at z2
          have hq : (qO T e' p').2.1 < n := hX.in (by omega)
          refine ⟨⟨⟨by omega, by omega⟩, (qO T e' p').1, (qO T e' p').2.1 + 1, f6.tr ⟨fun a j _ q => if_neg q, fun _ _ => rfl⟩, rfl, by omega, by omega, c6, ok3, by omega, Or.inl ⟨rfl, by omega, ?_⟩⟩, by dsimp only; omega⟩
          rw [z2, i8]
        · rw [if_neg (fun y => h5 y.2)] at z2
          exact ⟨⟨⟨by omega, by omega⟩, _, _, f6, p5, by omega, ok1.2, c6, ok3, by omega, Or.inr ⟨rfl, z2⟩⟩, by dsimp only; omega⟩
  · exact absurd z h2
end FW

