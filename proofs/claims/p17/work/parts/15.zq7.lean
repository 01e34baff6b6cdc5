/-! THE MODEL READS CLASSES: the whole -/
section QN
variable {T : Int → Int} {e : Env} {p : Int}
theorem qF_N : eN (qF T e p).1 = eN e := by
  unfold qF
  by_cases h1 : qR T p = []
  · rw [if_pos h1]
  · rw [if_neg h1]
    by_cases h2 : T (p + (qR T p).length) = 58
    · rw [if_pos h2]
      by_cases h3 : qK (T (p + (qR T p).length + 1)) = -1
      · rw [if_pos h3]
      · rw [if_neg h3]
        rfl
    · rw [if_neg h2]
theorem qE_N : eN (qE T e p).1 = eN e := by
  unfold qE
  split <;> rfl
theorem qFs_N : ∀ (k : Nat) (e : Env) (p : Int), eN (qFs T k e p).1 = eN e
  | 0, e, p => qE_N
  | k + 1, e, p => by
    unfold qFs
    by_cases h1 : (qF T e p).2.2 = 0
    · rw [if_pos h1]
      exact qF_N
    · rw [if_neg h1]
      by_cases h2 : k ≠ 0 ∧ T (qF T e p).2.1 = 44
      · rw [if_pos h2, qFs_N k]
        exact qF_N
      · rw [if_neg h2, qE_N]
        exact qF_N
theorem qO_N : eN (qO T e p).1 = eN e := by
  unfold qO
  by_cases h1 : qR T p = []
  · rw [if_pos h1]
  · rw [if_neg h1]
    by_cases h2 : T (p + (qR T p).length) = 40
    · rw [if_pos h2]
      by_cases h3 : T (p + (qR T p).length + 1) = 41
      · rw [if_pos h3]
        rfl
      · rw [if_neg h3, qFs_N]
        rfl
    · rw [if_neg h2]
theorem qC_N : ∀ (k : Nat) (e : Env) (p : Int), eN (qC T k e p).1 = eN e
  | 0, e, p => rfl
  | k + 1, e, p => by
    unfold qC
    by_cases h1 : (qO T e p).2.2 = 0
    · rw [if_pos h1]
      exact qO_N
    · rw [if_neg h1]
      by_cases h2 : k ≠ 0 ∧ T (qO T e p).2.1 = 59
      · rw [if_pos h2, qC_N k]
        exact qO_N
      · rw [if_neg h2]
        exact qO_N
end QN
section MC
variable {S : St} {K : Int → St → Prop} {T : Int → Int} {n m : Int} {e : Env}
theorem m_259 (hK : ∀ S', (∀ j, j ≠ 18 → j ≠ 20 → S'.1 54 j = S.1 54 j) → S'.1 54 18 = 0 → S'.1 54 20 = 0 → (∀ a, a ≠ 56 → a ≠ 61 → a ≠ 67 → S'.2 a = S.2 a) → (∀ j, 0 ≤ j → j < 6 → S'.2 56 j = S.2 62 j ∧ S'.2 61 j = 0) → S'.2 67 0 = 0 → S'.2 67 1 = 0 → K m S') : wX11_classes_259 m 0 S K := by
  refine ⟨fun l1 l3 S' => l1 = m ∧ 0 ≤ l3 ∧ l3 ≤ 6 ∧ S'.1 = S.1 ∧ (∀ a, a ≠ 56 → a ≠ 61 → S'.2 a = S.2 a) ∧ ∀ j, 0 ≤ j → j < l3 → S'.2 56 j = S.2 62 j ∧ S'.2 61 j = 0, fun l1 l3 S' => (6 - l3).toNat, ⟨rfl, by decide, by decide, rfl, fun _ _ _ => rfl, fun j j1 j2 => absurd j2 (by omega)⟩, fun l1 l3 S' hI => ?_⟩
  obtain ⟨i1, i2, i3, i4, i5, i6⟩ := hI
  rw [i1]
  refine ⟨⟨by omega, by omega⟩, fun h => ⟨by decide, by decide, fun S4 e4 => ⟨by decide, by decide, fun S6 e6 S7 e7 S8 e8 => ?_⟩⟩, fun h => ⟨i2, by omega, fun _ => ⟨i2, by omega, fun S1 e1 => ⟨i2, by omega, fun S2 e2 => ⟨⟨rfl, by omega, by omega, ?_, ?_, fun j j1 j2 => ?_⟩, by dsimp only; omega⟩⟩⟩⟩⟩
  · have t8 : S8.2 = S6.2 := by rw [e8, e7]; rfl
    have s6 : S6.1 = S.1 := by rw [e6, e4]; exact i4
    have o : ∀ a, a ≠ 67 → S8.2 a = S'.2 a := fun a q => by rw [t8, e6, (pA_ne a q).2, e4, (pA_ne a q).2]
    have z67 : ∀ x, S8.2 67 x = if x = 1 then 0 else if x = 0 then 0 else S'.2 67 x := fun x => by rw [t8, e6, pA_if, e4, pA_if]
    refine hK S8 (fun j q1 q2 => ?_) ?_ ?_ (fun a q1 q2 q3 => (o a q3).trans (i5 a q1 q2)) (fun j j1 j2 => ?_) ?_ ?_
    · rw [e8, e7, ← s6]
      show (if 54 = 54 ∧ j = 20 then (0 : Int) else if 54 = 54 ∧ j = 18 then 0 else S6.1 54 j) = S6.1 54 j
      rw [if_neg (fun y => q2 y.2), if_neg (fun y => q1 y.2)]
    · rw [e8, e7]
      rfl
    · rw [e8]
      rfl
    · rw [o 56 (by decide), o 61 (by decide)]
      exact i6 j j1 (by omega)
    · rw [z67, if_neg (by decide), if_pos rfl]
    · rw [z67, if_pos rfl]
  · rw [e2, e1]
    exact i4
  · intro a q1 q2
    rw [e2, (pA_ne a q2).2, e1, (pA_ne a q1).2]
    exact i5 a q1 q2
  · have k56 : S2.2 56 j = if j = l3 then S'.2 62 l3 else S'.2 56 j := by rw [e2, (pA_ne 56 (by decide)).2, e1, pA_if]
    have k61 : S2.2 61 j = if j = l3 then 0 else S'.2 61 j := by rw [e2, pA_if, e1, (pA_ne 61 (by decide)).2]
    rw [k56, k61]
    by_cases z : j = l3
    · rw [if_pos z, if_pos z, z, i5 62 (by decide) (by decide)]
      exact ⟨rfl, rfl⟩
    · rw [if_neg z, if_neg z]
      exact i6 j j1 (by omega)
theorem m_221 (hK : ∀ S', S'.1 = S.1 → (∀ a, a ≠ 59 → a ≠ 60 → S'.2 a = S.2 a) → (∀ j, 0 ≤ j → j < 24 → S'.2 59 j = S.2 65 j ∧ S'.2 60 j = S.2 66 j) → wX11_classes_259 m 0 S' K) : wX11_classes_221 m 0 S K := by
  refine ⟨fun l1 l3 S' => l1 = m ∧ 0 ≤ l3 ∧ l3 ≤ 24 ∧ S'.1 = S.1 ∧ (∀ a, a ≠ 59 → a ≠ 60 → S'.2 a = S.2 a) ∧ ∀ j, 0 ≤ j → j < l3 → S'.2 59 j = S.2 65 j ∧ S'.2 60 j = S.2 66 j, fun l1 l3 S' => (24 - l3).toNat, ⟨rfl, by decide, by decide, rfl, fun _ _ _ => rfl, fun j j1 j2 => absurd j2 (by omega)⟩, fun l1 l3 S' hI => ?_⟩
  obtain ⟨i1, i2, i3, i4, i5, i6⟩ := hI
  rw [i1]
  refine ⟨⟨by omega, by omega⟩, fun h => hK S' i4 i5 (fun j j1 j2 => i6 j j1 (by omega)), fun h => ⟨i2, by omega, fun _ => ⟨i2, by omega, fun S1 e1 => ⟨i2, by omega, fun _ => ⟨i2, by omega, fun S2 e2 => ⟨⟨rfl, by omega, by omega, ?_, ?_, fun j j1 j2 => ?_⟩, by dsimp only; omega⟩⟩⟩⟩⟩⟩
  · rw [e2, e1]
    exact i4
  · intro a q1 q2
    rw [e2, (pA_ne a q2).2, e1, (pA_ne a q1).2]
    exact i5 a q1 q2
  · have k59 : S2.2 59 j = if j = l3 then S'.2 65 l3 else S'.2 59 j := by rw [e2, (pA_ne 59 (by decide)).2, e1, pA_if]
    have k60 : S2.2 60 j = if j = l3 then S'.2 66 l3 else S'.2 60 j := by rw [e2, pA_if, e1, (pA_ne 60 (by decide)).2, (pA_ne 66 (by decide)).2]
    rw [k59, k60]
    by_cases z : j = l3
    · rw [if_pos z, if_pos z, z, i5 65 (by decide) (by decide), i5 66 (by decide) (by decide)]
      exact ⟨rfl, rfl⟩
    · rw [if_neg z, if_neg z]
      exact i6 j j1 (by omega)
theorem m_194 (hK : ∀ S', S'.1 = S.1 → (∀ a, a ≠ 58 → S'.2 a = S.2 a) → (∀ j, 0 ≤ j → j < 240 → S'.2 58 j = S.2 64 j) → wX11_classes_221 m 0 S' K) : wX11_classes_194 m 0 S K := by
  refine ⟨fun l1 l3 S' => l1 = m ∧ 0 ≤ l3 ∧ l3 ≤ 240 ∧ S'.1 = S.1 ∧ (∀ a, a ≠ 58 → S'.2 a = S.2 a) ∧ ∀ j, 0 ≤ j → j < l3 → S'.2 58 j = S.2 64 j, fun l1 l3 S' => (240 - l3).toNat, ⟨rfl, by decide, by decide, rfl, fun _ _ => rfl, fun j j1 j2 => absurd j2 (by omega)⟩, fun l1 l3 S' hI => ?_⟩
  obtain ⟨i1, i2, i3, i4, i5, i6⟩ := hI
  rw [i1]
  refine ⟨⟨by omega, by omega⟩, fun h => hK S' i4 i5 (fun j j1 j2 => i6 j j1 (by omega)), fun h => ⟨i2, by omega, fun _ => ⟨i2, by omega, fun S1 e1 => ⟨⟨rfl, by omega, by omega, ?_, ?_, fun j j1 j2 => ?_⟩, by dsimp only; omega⟩⟩⟩⟩
  · rw [e1]
    exact i4
  · intro a q1
    rw [e1, (pA_ne a q1).2]
    exact i5 a q1
  · rw [e1, pA_if]
    by_cases z : j = l3
    · rw [if_pos z, z, i5 64 (by decide)]
    · rw [if_neg z]
      exact i6 j j1 (by omega)
theorem m_168 (hK : ∀ S', S'.1 = S.1 → (∀ a, a ≠ 57 → S'.2 a = S.2 a) → (∀ j, 0 ≤ j → j < 30 → S'.2 57 j = S.2 63 j) → wX11_classes_194 m 0 S' K) : wX11_classes_168 m 0 S K := by
  refine ⟨fun l1 l3 S' => l1 = m ∧ 0 ≤ l3 ∧ l3 ≤ 30 ∧ S'.1 = S.1 ∧ (∀ a, a ≠ 57 → S'.2 a = S.2 a) ∧ ∀ j, 0 ≤ j → j < l3 → S'.2 57 j = S.2 63 j, fun l1 l3 S' => (30 - l3).toNat, ⟨rfl, by decide, by decide, rfl, fun _ _ => rfl, fun j j1 j2 => absurd j2 (by omega)⟩, fun l1 l3 S' hI => ?_⟩
  obtain ⟨i1, i2, i3, i4, i5, i6⟩ := hI
  rw [i1]
  refine ⟨⟨by omega, by omega⟩, fun h => hK S' i4 i5 (fun j j1 j2 => i6 j j1 (by omega)), fun h => ⟨i2, by omega, fun _ => ⟨i2, by omega, fun S1 e1 => ⟨⟨rfl, by omega, by omega, ?_, ?_, fun j j1 j2 => ?_⟩, by dsimp only; omega⟩⟩⟩⟩
  · rw [e1]
    exact i4
  · intro a q1
    rw [e1, (pA_ne a q1).2]
    exact i5 a q1
  · rw [e1, pA_if]
    by_cases z : j = l3
    · rw [if_pos z, z, i5 63 (by decide)]
    · rw [if_neg z]
      exact i6 j j1 (by omega)
/-- what reading classes leaves of the model -/
def Mcc (S S' : St) : Prop := (∀ j, j ≠ 0 → j ≠ 2 → j ≠ 18 → j ≠ 20 → j ≠ 22 → j ≠ 23 → j ≠ 24 → S'.1 54 j = S.1 54 j) ∧ ∀ a, a < 56 ∨ 67 < a → S'.2 a = S.2 a
/-- the text was wrong: nothing is changed but the text -/
def Mw (S S' : St) : Prop := (∀ j, j ≠ 0 → j ≠ 22 → j ≠ 23 → j ≠ 24 → S'.1 54 j = S.1 54 j) ∧ ∀ a, a < 62 ∨ 66 < a → S'.2 a = S.2 a
def mForb (S : St) (e : Env) : Prop := (∀ c, okC e c → S.2 61 c = 0) ∧ S.1 54 18 = 0 ∧ S.2 67 1 = 0
theorem m_142w {S0 : St} {w : Int} (hM : Mp S0 S) (hw : S.1 54 23 = 1) (hp : S.1 54 22 = w) (hb : iv 0 3000 w) (hK : ∀ S', Mw S0 S' → S'.1 54 0 = 0 → K (-1 - w) S') : wX11_classes_142 m S K := by
  intro S1 e1
  have w1 : S1.1 54 23 = 1 := by rw [e1]; exact hw
  have p1 : S1.1 54 22 = w := by rw [e1]; exact hp
  rw [w1, p1]
  refine fun _ => ⟨fun h => absurd h (by decide), fun _ _ => hK S1 ⟨fun j q0 q1 q2 q3 => ?_, fun a q => ?_⟩ (by rw [e1]; rfl)⟩
  · rw [e1, ← hM.1 54 j (by omega)]
    exact if_neg (fun y => q0 y.2)
  · rw [e1]
    exact hM.2 a q
theorem m_142r {S0 : St} (hM : Mp S0 S) (hP : mP S e) (hV : PV e) (h0 : eN e = 0) (hw : S.1 54 23 = 0) (hK : ∀ S', Mcc S0 S' → S'.1 54 0 = 0 → S'.1 54 20 = 0 → mE S' e → mN S' e → mForb S' e → K (eC e) S') : wX11_classes_142 (eC e) S K := by
  intro S1 e1
  have w1 : S1.1 54 23 = 0 := by rw [e1]; exact hw
  have v1 := hV.1
  rw [w1]
  refine fun _ => ⟨fun _ => ⟨v1, fun S2 e2 => ?_⟩, fun h => absurd rfl h⟩
  have t2 : S2.2 = S.2 := by rw [e2, e1]; rfl
  refine m_168 (fun S3 f3 a3 k3 => m_194 (fun S4 f4 a4 k4 => m_221 (fun S5 f5 a5 k5 => m_259 (fun S6 f6 z18 z20 a6 k6 z0 z1 => ?_))))
  have s5 : S5.1 = S2.1 := f5.trans (f4.trans f3)
  have o5 : ∀ a, a ≠ 57 → a ≠ 58 → a ≠ 59 → a ≠ 60 → S5.2 a = S.2 a := fun a q1 q2 q3 q4 => by rw [a5 a q3 q4, a4 a q2, a3 a q1, t2]
  have o6 : ∀ a, a < 56 ∨ 67 < a ∨ (62 ≤ a ∧ a ≤ 66) → S6.2 a = S.2 a := fun a q => (a6 a (by omega) (by omega) (by omega)).trans (o5 a (by omega) (by omega) (by omega) (by omega))
  have g57 : ∀ j, 0 ≤ j → j < 30 → S6.2 57 j = S.2 63 j := fun j j1 j2 => by
    rw [a6 57 (by decide) (by decide) (by decide), a5 57 (by decide) (by decide), a4 57 (by decide), k3 j j1 j2, t2]
  have g58 : ∀ j, 0 ≤ j → j < 240 → S6.2 58 j = S.2 64 j := fun j j1 j2 => by
    rw [a6 58 (by decide) (by decide) (by decide), a5 58 (by decide) (by decide), k4 j j1 j2, a3 64 (by decide), t2]
  have g59 : ∀ j, 0 ≤ j → j < 24 → S6.2 59 j = S.2 65 j ∧ S6.2 60 j = S.2 66 j := fun j j1 j2 => by
    rw [a6 59 (by decide) (by decide) (by decide), a6 60 (by decide) (by decide) (by decide), (k5 j j1 j2).1, (k5 j j1 j2).2, a4 65 (by decide), a4 66 (by decide), a3 65 (by decide), a3 66 (by decide), t2]
    exact ⟨rfl, rfl⟩
  have g56 : ∀ j, 0 ≤ j → j < 6 → S6.2 56 j = S.2 62 j ∧ S6.2 61 j = 0 := fun j j1 j2 => by
    rw [(k6 j j1 j2).1, (k6 j j1 j2).2, o5 62 (by decide) (by decide) (by decide) (by decide)]
    exact ⟨rfl, rfl⟩
  have u2 : ∀ j, j ≠ 0 → j ≠ 2 → S2.1 54 j = S.1 54 j := fun j q0 q2 => by
    rw [e2, e1]
    show (if 54 = 54 ∧ j = 2 then eC e else if 54 = 54 ∧ j = 0 then (0 : Int) else S.1 54 j) = _
    rw [if_neg (fun y => q2 y.2), if_neg (fun y => q0 y.2)]
  have nr : ∀ k, okN e k → nL S6 k = eR e k ∧ S6.2 57 k = (eR e k).length := fun k hk => by
    have r := okN_lt hV hk
    have l := (hV.2.2.2 k hk).2
    have q := hP.2.2.1 k hk
    refine ⟨?_, (g57 k r.1 (by omega)).trans q.1⟩
    rw [← q.2]
    unfold nL nN
    rw [g57 k r.1 (by omega)]
    refine catF_eq _ _ (fun i i1 i2 => ?_)
    rw [q.1] at i2
    rw [g58 (8 * k + i) (by omega) (by omega)]
  refine hK S6 ⟨fun j q0 q2 q18 q20 q22 q23 q24 => ?_, fun a q => ?_⟩ ?_ z20 ⟨?_, fun o ho => ?_, fun o f ho => ?_, fun o f i ho => ?_, ?_, fun c hc => ?_, fun c f hf => ?_, fun k hk => ?_⟩ (fun k hk => (nr k hk).1.symm) ⟨fun c hc => ?_, z18, z1⟩
  · rw [f6 j q18 q20, s5, u2 j q0 q2]
    exact hM.1 54 j (by omega)
  · rw [o6 a (by omega)]
    exact hM.2 a (by omega)
  · rw [f6 0 (by decide) (by decide), s5, e2, e1]
    rfl
  · rw [z0, h0]
  · have := ho.1
    have h2 := ho.2
    rw [h0] at h2
    omega
  · have := ho.1
    have h2 := ho.2
    rw [h0] at h2
    omega
  · have := ho.1
    have h2 := ho.2
    rw [h0] at h2
    omega
  · rw [f6 2 (by decide) (by decide), s5, e2]
    rfl
  · have := hc.2
    rw [(g56 c hc.1 (by omega)).1]
    exact hP.1 c hc
  · have := hf.1.1
    have := hf.1.2
    have := hf.2
    have := (hV.2.1 c hf.1).1
    rw [(g59 (4 * c + f) (by omega) (by omega)).1, (g59 (4 * c + f) (by omega) (by omega)).2]
    exact hP.2.1 c f hf
  · obtain ⟨r1, r2⟩ := nr k hk
    have l := (hV.2.2.2 k hk).2
    refine ⟨by rw [r2]; exact ⟨by omega, by omega⟩, ?_⟩
    rw [(hV.2.2.2 k hk).1, ← r1]
    exact (xl_cat _ _).symm
  · have := hc.2
    exact (g56 c hc.1 (by omega)).2
theorem m_classesK (hX : TX T n) (hT : mTx S T n) (hKw : ∀ w S', QW T n w → iv 0 3000 w → Mw S S' → S'.1 54 0 = 0 → K (-1 - w) S') (hKr : QG T n → PV (qC T 6 e0 0).1 → ∀ S', Mcc S S' → S'.1 54 0 = 0 → S'.1 54 20 = 0 → mE S' (qC T 6 e0 0).1 → mN S' (qC T 6 e0 0).1 → mForb S' (qC T 6 e0 0).1 → K (eC (qC T 6 e0 0).1) S') : wX11_classes S K := by
  have hn := hX.1
  intro S1 e1 S2 e2 S3 e3
  have M3 : Mp S S3 := by
    rw [e3, e2, e1]
    exact ⟨(Ml.p22.tr Ml.p23).tr Ml.p24, fun _ _ => rfl⟩
  have w3 : S3.1 54 23 = 0 := by rw [e3, e2]; rfl
  have p3 : S3.1 54 22 = 0 := by rw [e3, e2, e1]; rfl
  have b3 : S3.1 54 24 = 0 := by rw [e3]; rfl
  have P3 : mP S3 e0 := by
    have no : ∀ c, ¬ okC e0 c := fun c hc => by
      have := hc.1
      have h2 : c < 0 := hc.2
      omega
    refine ⟨fun c hc => absurd hc (no c), fun c f hf => absurd hf.1 (no c), fun k hk => ?_, by rw [b3]; exact ⟨by decide, by decide⟩, ?_⟩
    · rcases hk with hc | ⟨c, f, hf, -⟩
      · exact absurd hc (no k)
      · exact absurd hf.1 (no c)
    · rw [b3]
      refine ⟨fun h => absurd h (by decide), ?_⟩
      rintro (⟨c, hc, -⟩ | ⟨c, f, hf, -⟩)
      · exact absurd hc (no c)
      · exact absurd hf.1 (no c)
  refine ⟨fun l1 l2 S' => iv 0 6 l1 ∧ Mp S S' ∧ ((l2 = 1 ∧ S'.1 54 23 = 0 ∧ ∃ e' p', S'.1 54 22 = p' ∧ 0 ≤ p' ∧ p' ≤ n ∧ mP S' e' ∧ PV e' ∧ eC e' = l1 ∧ l1 < 6 ∧ qC T 6 e0 0 = qC T (6 - l1).toNat e' p') ∨ (l2 = 0 ∧ S'.1 54 23 = 0 ∧ ∃ e' p', S'.1 54 22 = p' ∧ 0 ≤ p' ∧ p' ≤ n ∧ mP S' e' ∧ PV e' ∧ eC e' = l1 ∧ qC T 6 e0 0 = (e', p', 1)) ∨ (l2 = 0 ∧ S'.1 54 23 = 1 ∧ S'.1 54 22 = (qC T 6 e0 0).2.1 ∧ iv 0 3000 (qC T 6 e0 0).2.1 ∧ (qC T 6 e0 0).2.2 = 0)), fun l1 l2 S' => if l2 = 0 then 0 else (7 - l1).toNat, ⟨⟨by decide, by decide⟩, M3, Or.inl ⟨rfl, w3, e0, 0, p3, by decide, hn.1, P3, PV_0, rfl, by decide, rfl⟩⟩, ?_⟩
  intro l1 l2 S' hI
  obtain ⟨i1, hM, hS⟩ := hI
  have t1 := hT.mp hM
  have hc0 : S'.1 54 0 = n := t1.1
  rcases hS with ⟨z, w1, e', p', q1, q2, q3, P', V', c', l6, r'⟩ | ⟨z, w1, e', p', q1, q2, q3, P', V', c', r'⟩ | ⟨z, w1, q1, q2, r1⟩
  · rw [z]
    have hs : (6 - l1).toNat = (6 - (l1 + 1)).toNat + 1 := by omega
    rw [hs] at r'
    have r2 : qC T 6 e0 0 = if (qO T e' p').2.2 = 0 then qO T e' p' else if (6 - (l1 + 1)).toNat ≠ 0 ∧ T (qO T e' p').2.1 = 59 then qC T (6 - (l1 + 1)).toNat (qO T e' p').1 ((qO T e' p').2.1 + 1) else ((qO T e' p').1, (qO T e' p').2.1, 1) := r'
    clear r'
    obtain ⟨⟨o1, o2⟩, o3⟩ := qO_ok hX V' q2 q3 (by omega : eC e' < 6)
    refine ⟨⟨by decide, by decide⟩, fun h => absurd h (by decide), fun _ => ⟨⟨by omega, by omega⟩, ?_⟩⟩
    rw [← c']
    refine m_one hX t1 P' V' (by omega) q1 q2 q3 w1 (fun S4 M4 p4 w4 P4 => ?_)
    rw [c']
    have M5 := hM.tr M4
    have back : ∀ (s a : Int), rng s → iv 0 3000 a → (s = 0 → a = S4.1 54 22) → (¬ s = 0 → a = S4.1 54 22 + 1) → (∀ S5, S5 = pI S4 54 22 a → ((s = 1 ∧ S5.1 54 23 = 0 ∧ ∃ e' p', S5.1 54 22 = p' ∧ 0 ≤ p' ∧ p' ≤ n ∧ mP S5 e' ∧ PV e' ∧ eC e' = l1 + 1 ∧ l1 + 1 < 6 ∧ qC T 6 e0 0 = qC T (6 - (l1 + 1)).toNat e' p') ∨ (s = 0 ∧ S5.1 54 23 = 0 ∧ ∃ e' p', S5.1 54 22 = p' ∧ 0 ≤ p' ∧ p' ≤ n ∧ mP S5 e' ∧ PV e' ∧ eC e' = l1 + 1 ∧ qC T 6 e0 0 = (e', p', 1)) ∨ (s = 0 ∧ S5.1 54 23 = 1 ∧ S5.1 54 22 = (qC T 6 e0 0).2.1 ∧ iv 0 3000 (qC T 6 e0 0).2.1 ∧ (qC T 6 e0 0).2.2 = 0))) → wX11_classes_62 (l1 + 1) s S4 K (fun ml1 ml2 T' => ((iv 0 6 ml1 ∧ Mp S T' ∧ ((ml2 = 1 ∧ T'.1 54 23 = 0 ∧ ∃ e' p', T'.1 54 22 = p' ∧ 0 ≤ p' ∧ p' ≤ n ∧ mP T' e' ∧ PV e' ∧ eC e' = ml1 ∧ ml1 < 6 ∧ qC T 6 e0 0 = qC T (6 - ml1).toNat e' p') ∨ (ml2 = 0 ∧ T'.1 54 23 = 0 ∧ ∃ e' p', T'.1 54 22 = p' ∧ 0 ≤ p' ∧ p' ≤ n ∧ mP T' e' ∧ PV e' ∧ eC e' = ml1 ∧ qC T 6 e0 0 = (e', p', 1)) ∨ (ml2 = 0 ∧ T'.1 54 23 = 1 ∧ T'.1 54 22 = (qC T 6 e0 0).2.1 ∧ iv 0 3000 (qC T 6 e0 0).2.1 ∧ (qC T 6 e0 0).2.2 = 0))) ∧ (if ml2 = 0 then 0 else (7 - ml1).toNat) < (if (1 : Int) = 0 then 0 else (7 - l1).toNat))) := fun s a gs ga a0 a1 hh => by
      have en : ∀ S5, S5 = pI S4 54 22 a → (((iv 0 6 (l1 + 1) ∧ Mp S S5 ∧ ((s = 1 ∧ S5.1 54 23 = 0 ∧ ∃ e' p', S5.1 54 22 = p' ∧ 0 ≤ p' ∧ p' ≤ n ∧ mP S5 e' ∧ PV e' ∧ eC e' = l1 + 1 ∧ l1 + 1 < 6 ∧ qC T 6 e0 0 = qC T (6 - (l1 + 1)).toNat e' p') ∨ (s = 0 ∧ S5.1 54 23 = 0 ∧ ∃ e' p', S5.1 54 22 = p' ∧ 0 ≤ p' ∧ p' ≤ n ∧ mP S5 e' ∧ PV e' ∧ eC e' = l1 + 1 ∧ qC T 6 e0 0 = (e', p', 1)) ∨ (s = 0 ∧ S5.1 54 23 = 1 ∧ S5.1 54 22 = (qC T 6 e0 0).2.1 ∧ iv 0 3000 (qC T 6 e0 0).2.1 ∧ (qC T 6 e0 0).2.2 = 0))) ∧ (if s = 0 then 0 else (7 - (l1 + 1)).toNat) < (if (1 : Int) = 0 then 0 else (7 - l1).toNat))) := fun S5 e5 => by
        refine ⟨⟨⟨by omega, by omega⟩, M5.tr (by rw [e5]; exact ⟨Ml.p22, fun _ _ => rfl⟩), hh S5 e5⟩, ?_⟩
        rw [if_neg (show ¬ (1 : Int) = 0 by decide)]
        split <;> omega
      refine ⟨gs, fun h _ => ?_, fun h _ => ?_⟩
      · rw [← a0 h]
        exact ⟨ga, en⟩
      · rw [← a1 h]
        exact ⟨ga, en⟩
    rcases o3 with ok | ⟨ok, V2, c2⟩
    · rw [ok] at w4
      rw [w4]
      rw [if_pos ok] at r2
      refine fun _ => ⟨fun _ => back 0 (S4.1 54 22) ⟨by decide, by decide⟩ (by rw [p4]; exact ⟨by omega, by omega⟩) (fun _ => rfl) (fun h => absurd rfl h) (fun S5 e5 => Or.inr (Or.inr ⟨rfl, ?_, ?_, ?_, ?_⟩)), fun h => absurd (by decide) h⟩
      · rw [e5]
        exact w4
      · rw [e5, r2, ← p4]
        rfl
      · rw [r2]
        exact ⟨by omega, by omega⟩
      · rw [r2]
        exact ok
    · rw [ok] at w4
      rw [w4]
      rw [if_neg (by omega)] at r2
      have P5 := P4 ok
      refine fun _ => ⟨fun h => absurd rfl h, fun _ => ⟨⟨by omega, by omega⟩, fun h => back 0 (S4.1 54 22) ⟨by decide, by decide⟩ (by rw [p4]; exact ⟨by omega, by omega⟩) (fun _ => rfl) (fun h => absurd rfl h) (fun S5 e5 => Or.inr (Or.inl ⟨rfl, ?_, _, _, ?_, ?_, o2, ?_, V2, by omega, ?_⟩)), fun h => ?_⟩⟩
      · rw [e5]
        exact w4
      · rw [e5]
        exact p4
      · omega
      · rw [e5]
        exact P5
      · rw [r2, if_neg (fun y => y.1 (by omega))]
      rw [p4]
      intro _
      refine m_sg hX (hT.mp M5) (by omega) ⟨?_, fun h2 => back 0 (S4.1 54 22) ⟨by decide, by decide⟩ (by rw [p4]; exact ⟨by omega, by omega⟩) (fun _ => rfl) (fun h => absurd rfl h) (fun S5 e5 => Or.inr (Or.inl ⟨rfl, ?_, _, _, ?_, ?_, o2, ?_, V2, by omega, ?_⟩)), fun h2 => ?_⟩
      · have := mU_iv hX (p := (qO T e' p').2.1) (by omega)
        exact ⟨by omega, by omega⟩
      · rw [e5]
        exact w4
      · rw [e5]
        exact p4
      · omega
      · rw [e5]
        exact P5
      · rw [r2, if_neg (fun y => h2 ((mU_eq (by decide)).mpr y.2))]
      · have h59 : T (qO T e' p').2.1 = 59 := (mU_eq (by decide)).mp (Decidable.not_not.mp h2)
        have hin : (qO T e' p').2.1 < n := hX.in (by omega)
        refine back 1 (S4.1 54 22 + 1) ⟨by decide, by decide⟩ (by rw [p4]; exact ⟨by omega, by omega⟩) (fun h => absurd h (by decide)) (fun _ => rfl) (fun S5 e5 => Or.inl ⟨rfl, ?_, (qO T e' p').1, (qO T e' p').2.1 + 1, ?_, by omega, by omega, ?_, V2, by omega, by omega, ?_⟩)
        · rw [e5]
          exact w4
        · rw [e5, ← p4]
          rfl
        · rw [e5]
          exact P5
        · rw [r2, if_pos ⟨by omega, h59⟩]
  · rw [z]
    have en : eN e' = 0 := by
      have := qC_N (T := T) 6 e0 0
      rw [r'] at this
      exact this
    have wr : (p' < n ∨ BadN e') → QW T n p' := fun h => ⟨by rw [r'], Or.inr ⟨by rw [r'], by rw [r']; exact h⟩⟩
    refine ⟨⟨by decide, by decide⟩, fun _ => ?_, fun h => absurd rfl h⟩
    rw [q1, hc0]
    refine fun _ _ => ⟨fun h => ⟨⟨by decide, by decide⟩, m_want (by rw [w1]; exact ⟨by decide, by decide⟩) (fun S4 e4 => ?_)⟩, fun h => ⟨⟨by decide, by decide⟩, m_want (by rw [w1]; exact ⟨by decide, by decide⟩) (fun S4 e4 => ?_)⟩⟩
    · rw [if_neg (fun y => y.2 rfl)] at e4
      have w4 : S4.1 54 23 = 1 := by rw [e4]; rfl
      have M4 : Mp S S4 := hM.tr (by rw [e4]; exact ⟨Ml.p23, fun _ _ => rfl⟩)
      rw [w4]
      exact fun _ => ⟨fun _ => m_142w M4 w4 (by rw [e4]; exact q1) ⟨by omega, by omega⟩ (fun S5 m5 z5 => hKw p' S5 (wr (Or.inl (by omega))) ⟨by omega, by omega⟩ m5 z5), fun h2 => absurd (by decide) h2⟩
    · have hpn : p' = n := Decidable.not_not.mp h
      rw [w1, if_pos ⟨rfl, by decide⟩] at e4
      have w4 : S4.1 54 23 = 0 := by rw [e4]; rfl
      have M4 : Mp S S4 := hM.tr (by rw [e4]; exact ⟨Ml.p23, fun _ _ => rfl⟩)
      have P4 : mP S4 e' := by
        rw [e4]
        exact P'
      have bad : BadN e' → wX11_classes_129 l1 S4 K := fun hb => by
        have c4 : S4.1 54 0 = n := by rw [e4]; exact hc0
        unfold wX11_classes_129
        rw [c4]
        intro _ S5 e5 S6 e6
        refine m_142w (M4.tr (by rw [e6, e5]; exact ⟨Ml.p22.tr Ml.p23, fun _ _ => rfl⟩)) (by rw [e6]; rfl) (w := n) (by rw [e6, e5]; rfl) hn (fun S7 m7 z7 => hKw n S7 ?_ hn m7 z7)
        have := wr (Or.inr hb)
        rwa [hpn] at this
      have good : ¬ BadN e' → wX11_classes_142 l1 S4 K := fun hb => by
        rw [← c']
        have g : QG T n := ⟨by rw [r'], by rw [r']; show ¬ p' < n; omega, by rw [r']; exact hb⟩
        have er : (qC T 6 e0 0).1 = e' := by rw [r']
        rw [er] at hKr
        exact m_142r M4 P4 V' en w4 (fun S7 m7 z0 z20 h1 h2 h3 => hKr g V' S7 m7 z0 z20 h1 h2 h3)
      rw [w4]
      refine fun _ => ⟨fun h2 => absurd rfl h2, fun _ _ => ⟨fun h2 => bad (Or.inl (P4.2.2.2.2.mp ?_)), fun h2 => ⟨⟨by omega, by omega⟩, ?_⟩⟩⟩
      · have := P4.2.2.2.1
        omega
      · have nb : ¬ Brk e' := fun y => by
          have := P4.2.2.2.2.mpr y
          omega
        rw [← c']
        rw [← c'] at bad good
        exact m_mixed P4 V' (fun y => ⟨⟨by decide, by decide⟩, fun h3 => absurd h3 (by decide), fun _ => bad (Or.inr y)⟩) (fun y => ⟨⟨by decide, by decide⟩, fun _ => good (fun hb => hb.elim nb y), fun h3 => absurd rfl h3⟩)
  · rw [z]
    have wr : QW T n (qC T 6 e0 0).2.1 := ⟨rfl, Or.inl r1⟩
    refine ⟨⟨by decide, by decide⟩, fun _ => ?_, fun h => absurd rfl h⟩
    have fin : ∀ s, rng s → wX11_classes_104 l1 s S' K := fun s gs => by
      refine ⟨gs, m_want (by rw [w1]; exact ⟨by decide, by decide⟩) (fun S4 e4 => ?_)⟩
      rw [w1, if_neg (fun y => absurd y.1 (by decide))] at e4
      have w4 : S4.1 54 23 = 1 := by rw [e4]; rfl
      have M4 : Mp S S4 := hM.tr (by rw [e4]; exact ⟨Ml.p23, fun _ _ => rfl⟩)
      rw [w4]
      exact fun _ => ⟨fun _ => m_142w M4 w4 (by rw [e4]; exact q1) q2 (fun S5 m5 z5 => hKw _ S5 wr q2 m5 z5), fun h2 => absurd (by decide) h2⟩
    exact fun _ _ => ⟨fun _ => fin 0 ⟨by decide, by decide⟩, fun _ => fin 1 ⟨by decide, by decide⟩⟩
end MC

