/-! THE MODEL READS CLASSES: signs and names -/
def mTx (S : St) (T : Int → Int) (n : Int) : Prop := S.1 54 0 = n ∧ ∀ p, 0 ≤ p → p < n → S.2 55 p = T p
def mU (T : Int → Int) (p : Int) : Int := if T p = -1 then 0 else T p
def nN (S : St) (k : Int) : List Int := catF (fun i => [S.2 64 (8 * k + i)]) (S.2 63 k).toNat 0
theorem mU_eq {T : Int → Int} {p c : Int} (h : 1 ≤ c) : mU T p = c ↔ T p = c := by
  unfold mU
  by_cases q : T p = -1
  · rw [if_pos q]
    omega
  · rw [if_neg q]
theorem mU_N {T : Int → Int} {p : Int} : qN (mU T p) ↔ qN (T p) := by
  unfold mU
  by_cases q : T p = -1
  · rw [if_pos q]
    omega
  · rw [if_neg q]
theorem mU_B {T : Int → Int} {p : Int} : qB (mU T p) ↔ qB (T p) := by
  unfold mU
  by_cases q : T p = -1
  · rw [if_pos q]
    omega
  · rw [if_neg q]
theorem mU_iv {T : Int → Int} {n p : Int} (hX : TX T n) (h0 : 0 ≤ p) : iv 0 65535 (mU T p) := by
  have := hX.bd h0
  unfold mU
  by_cases q : T p = -1
  · rw [if_pos q]
    exact ⟨by decide, by decide⟩
  · rw [if_neg q]
    by_cases r : p < n
    · have := hX.2.1 p h0 r
      exact ⟨by omega, by omega⟩
    · exact absurd (hX.2.2 p (by omega)) q
/-- all but the new name k is the same -/
def Mk (S S' : St) (k : Int) : Prop := (∀ a, a ≠ 63 → a ≠ 64 → S'.2 a = S.2 a) ∧ (∀ j, j ≠ k → S'.2 63 j = S.2 63 j) ∧ ∀ j, (j < 8 * k ∨ 8 * k + 8 ≤ j) → S'.2 64 j = S.2 64 j
theorem Mk.rf {S : St} {k : Int} : Mk S S k := ⟨fun _ _ _ => rfl, fun _ _ => rfl, fun _ _ => rfl⟩
theorem Mk.tr {S S1 S2 : St} {k : Int} (h : Mk S S1 k) (g : Mk S1 S2 k) : Mk S S2 k := ⟨fun a q1 q2 => (g.1 a q1 q2).trans (h.1 a q1 q2), fun j q => (g.2.1 j q).trans (h.2.1 j q), fun j q => (g.2.2 j q).trans (h.2.2 j q)⟩
theorem Mk.row {S S' : St} {k j : Int} (h : Mk S S' k) (q : j ≠ k) (q2 : iv 0 8 (S.2 63 j)) : nN S' j = nN S j := by
  unfold nN
  rw [h.2.1 j q]
  refine catF_eq _ _ (fun i h1 h2 => ?_)
  rw [h.2.2 (8 * j + i) (by omega)]
/-- the places 22, 23, 24 alone may be others beside -/
def Ml (S S' : St) : Prop := ∀ a j, ¬ (a = 54 ∧ (j = 22 ∨ j = 23 ∨ j = 24)) → S'.1 a j = S.1 a j
theorem Ml.rf {S : St} : Ml S S := fun _ _ _ => rfl
theorem Ml.tr {S S1 S2 : St} (h : Ml S S1) (g : Ml S1 S2) : Ml S S2 := fun a j q => (g a j q).trans (h a j q)
theorem Ml.p22 {S : St} {x : Int} : Ml S (pI S 54 22 x) := fun a j q => if_neg (fun r => q ⟨r.1, Or.inl r.2⟩)
theorem Ml.p23 {S : St} {x : Int} : Ml S (pI S 54 23 x) := fun a j q => if_neg (fun r => q ⟨r.1, Or.inr (Or.inl r.2)⟩)
theorem Ml.p24 {S : St} {x : Int} : Ml S (pI S 54 24 x) := fun a j q => if_neg (fun r => q ⟨r.1, Or.inr (Or.inr r.2)⟩)
theorem mTx.mv {S S' : St} {T : Int → Int} {n : Int} (h : mTx S T n) (h1 : Ml S S') (h2 : S'.2 55 = S.2 55) : mTx S' T n := by
  unfold mTx at h ⊢
  rw [h1 54 0 (by decide), h2]
  exact h
section MN
variable {S : St} {K : Int → St → Prop} {T : Int → Int} {n p k u a b : Int}
theorem m_sg (hX : TX T n) (hT : mTx S T n) (hp : 0 ≤ p) (hK : K (mU T p) S) : wX11_signAt p S K := by
  unfold wX11_signAt
  intro _ _
  have h1 := hT.1
  have hn := hX.1
  rw [h1]
  refine ⟨fun h => ?_, fun h => ⟨hp, by omega, fun _ => ?_⟩⟩
  · have e : mU T p = 0 := if_pos (hX.2.2 p h)
    rw [e] at hK
    exact hK
  · have e : mU T p = S.2 55 p := by
      have h2 := hX.2.1 p hp (by omega)
      rw [hT.2 p hp (by omega)]
      exact if_neg (by omega)
    rw [e] at hK
    exact hK
theorem m_isD (hK : K (if 48 ≤ u ∧ u ≤ 57 then 1 else 0) S) : wX11_isDigit u S K := by
  unfold wX11_isDigit
  intro _
  by_cases h : 48 ≤ u ∧ u ≤ 57
  · rw [if_pos h] at hK
    exact ⟨fun q => absurd q (by omega), fun _ => ⟨fun q => absurd q (by omega), fun _ => hK⟩⟩
  · rw [if_neg h] at hK
    exact ⟨fun q => hK, fun _ => ⟨fun q => hK, fun _ => absurd h (by omega)⟩⟩
theorem m_isL (hK : K (if (97 ≤ u ∧ u ≤ 122) ∨ (65 ≤ u ∧ u ≤ 90) then 1 else 0) S) : wX11_isLetter u S K := by
  unfold wX11_isLetter
  intro g
  by_cases h : (97 ≤ u ∧ u ≤ 122) ∨ (65 ≤ u ∧ u ≤ 90)
  · rw [if_pos h] at hK
    exact ⟨fun q => ⟨g, fun q2 => absurd q2 (by omega), fun _ => ⟨fun q3 => absurd q3 (by omega), fun _ => hK⟩⟩, fun q => ⟨fun _ => hK, fun q2 => absurd q2 (by omega)⟩⟩
  · rw [if_neg h] at hK
    refine ⟨fun q => ⟨g, fun q2 => hK, fun q2 => ⟨fun q3 => hK, fun q3 => absurd h (by omega)⟩⟩, fun q => ⟨fun q2 => absurd h (by omega), fun q2 => ⟨g, fun q3 => hK, fun q3 => ⟨fun q4 => hK, fun q4 => absurd h (by omega)⟩⟩⟩⟩
theorem m_want (h01 : iv 0 1 (S.1 54 23)) (hK : ∀ S', S' = pI S 54 23 (if S.1 54 23 = 0 ∧ ¬ u = 0 then 0 else 1) → K 0 S') : wX11_want u S K := by
  unfold wX11_want
  intro _ _
  refine ⟨fun h S3 e3 => hK S3 ?_, fun h => ⟨fun h2 S3 e3 => hK S3 ?_, fun h2 S3 e3 => hK S3 ?_⟩⟩
  · rw [e3, if_neg (fun y => h y.1)]
  · rw [e3, if_pos ⟨by omega, h2⟩]
  · rw [e3, if_neg (fun y => h2 y.2)]
theorem m_eat (hX : TX T n) (hT : mTx S T n) (hp : S.1 54 22 = p) (h0 : 0 ≤ p) (hw : S.1 54 23 = 0) (hu : 1 ≤ u) (hK1 : T p = u → ∀ S', Ml S S' → S'.2 = S.2 → S'.1 54 22 = p + 1 → S'.1 54 23 = 0 → S'.1 54 24 = S.1 54 24 → K 0 S') (hK0 : ¬ T p = u → ∀ S', Ml S S' → S'.2 = S.2 → S'.1 54 22 = p → S'.1 54 23 = 1 → K 0 S') : wX11_eat u S K := by
  unfold wX11_eat
  intro _ _
  rw [hp]
  refine m_sg hX hT h0 ⟨?_, fun h => ?_, fun h => ?_⟩
  · have := mU_iv hX h0
    exact ⟨by omega, by omega⟩
  · have h2 : ¬ T p = u := fun q => h ((mU_eq hu).mpr q)
    refine ⟨⟨by decide, by decide⟩, m_want ⟨by omega, by omega⟩ (fun S1 e1 => ?_)⟩
    rw [if_neg (fun y => y.2 rfl)] at e1
    have a23 : S1.1 54 23 = 1 := by rw [e1]; rfl
    have a22 : S1.1 54 22 = p := by rw [e1]; exact hp
    rw [a23, a22]
    refine fun _ => ⟨fun h3 => absurd h3 (by decide), fun _ _ S2 e2 => hK0 h2 S2 ?_ ?_ ?_ ?_⟩
    · rw [e2, e1]
      exact Ml.p23.tr Ml.p22
    · rw [e2, e1]
      rfl
    · rw [e2]
      rfl
    · rw [e2, e1]
      rfl
  · have h2 : T p = u := (mU_eq hu).mp (Decidable.not_not.mp h)
    have hn : p < n := hX.in (by omega)
    have hn2 := hX.1
    refine ⟨⟨by decide, by decide⟩, m_want ⟨by omega, by omega⟩ (fun S1 e1 => ?_)⟩
    rw [if_pos ⟨hw, by decide⟩] at e1
    have a23 : S1.1 54 23 = 0 := by rw [e1]; rfl
    have a22 : S1.1 54 22 = p := by rw [e1]; exact hp
    rw [a23, a22]
    refine fun _ => ⟨fun _ _ => ⟨⟨by omega, by omega⟩, fun S2 e2 => hK1 h2 S2 ?_ ?_ ?_ ?_ ?_⟩, fun h3 => absurd rfl h3⟩
    · rw [e2, e1]
      exact Ml.p23.tr Ml.p22
    · rw [e2, e1]
      rfl
    · rw [e2]
      rfl
    · rw [e2, e1]
      rfl
    · rw [e2, e1]
      rfl
theorem m_nameAt (hX : TX T n) (hT : mTx S T n) (h0 : 0 ≤ p) (hpn : p ≤ n) (hk : iv 0 29 k) (hK2 : qR T p = [] → ∀ S', S'.1 = S.1 → Mk S S' k → K (-2) S') (hK10 : ¬ qR T p = [] → qN (T (p + (qR T p).length)) → (qR T p).length = 8 → ∀ S', S'.1 = S.1 → Mk S S' k → K (-10) S') (hK : ¬ qR T p = [] → ¬ qN (T (p + (qR T p).length)) → ∀ S', S'.1 = S.1 → Mk S S' k → nN S' k = qR T p → S'.2 63 k = (qR T p).length → K (qR T p).length S') : wX11_nameAt p k S K := by
  have hn := hX.1
  unfold wX11_nameAt
  intro _ _
  refine m_sg hX hT h0 ?_
  refine ⟨fun l1 l2 l3 l4 S' => l1 = p ∧ l2 = k ∧ ∃ i : Nat, l3 = i ∧ i ≤ 8 ∧ p + i ≤ n ∧ l4 = mU T (p + i) ∧ (i = 0 ∨ qB (T p)) ∧ qn T 8 p = i + qn T (8 - i) (p + i) ∧ S'.1 = S.1 ∧ Mk S S' k ∧ ∀ j : Int, 0 ≤ j → j < i → S'.2 64 (8 * k + j) = T (p + j), fun l1 l2 l3 l4 S' => (8 - l3).toNat, ⟨rfl, rfl, 0, rfl, by decide, by show p + ((0 : Nat) : Int) ≤ n; omega, by show mU T p = mU T (p + ((0 : Nat) : Int)); rw [show p + ((0 : Nat) : Int) = p by omega], Or.inl rfl, ?_, rfl, Mk.rf, fun j j1 j2 => absurd j2 (by show ¬ j < ((0 : Nat) : Int); omega)⟩, fun l1 l2 l3 l4 S' hI => ?_⟩
  · show qn T 8 p = 0 + qn T 8 (p + ((0 : Nat) : Int))
    rw [show p + ((0 : Nat) : Int) = p by omega]
    omega
  obtain ⟨i1, i2, i, i3, i4, i4', i5, i6, i7, i8, i9, i10⟩ := hI
  have u126 : iv 0 65535 l4 := by
    rw [i5]
    exact mU_iv hX (by omega)
  have go : qN (T (p + i)) → (i = 0 → qB (T p)) → wX11_nameAt_43 l1 l2 l3 l4 S' K (fun ml1 ml2 ml3 ml4 T' => ((ml1 = p ∧ ml2 = k ∧ ∃ i : Nat, ml3 = i ∧ i ≤ 8 ∧ p + i ≤ n ∧ ml4 = mU T (p + i) ∧ (i = 0 ∨ qB (T p)) ∧ qn T 8 p = i + qn T (8 - i) (p + i) ∧ T'.1 = S.1 ∧ Mk S T' k ∧ ∀ j : Int, 0 ≤ j → j < i → T'.2 64 (8 * k + j) = T (p + j)) ∧ (8 - ml3).toNat < (8 - l3).toNat)) := fun g1 g2 => by
    have gB : qB (T p) := by
      rcases i6 with z | z
      · exact g2 z
      · exact z
    have g3 : p + i < n := hX.in (by omega)
    have g4 : mU T (p + i) = T (p + i) := if_neg (by omega)
    refine ⟨⟨by omega, by omega⟩, fun h => ⟨by omega, by omega, ⟨by omega, by omega⟩, fun S4 e4 => ⟨⟨by omega, by omega⟩, ?_⟩⟩, fun h => ?_⟩
    · have f4 : S4.1 = S.1 := by rw [e4]; exact i8
      have m4 : ∀ j, S4.2 64 j = if j = 8 * l2 + l3 then l4 else S'.2 64 j := fun j => by
        rw [e4, pA_if]
      have k4 : Mk S S4 k := by
        refine i9.tr ⟨fun a q1 q2 => ?_, fun j q => ?_, fun j q => ?_⟩
        · rw [e4]
          exact (pA_ne a q2).2
        · rw [e4, (pA_ne 63 (by decide)).2]
        · rw [m4, if_neg (by omega)]
      have t4 : mTx S4 T n := hT.mv (fun a j _ => by rw [f4]) (k4.1 55 (by decide) (by decide))
      have es : l1 + (l3 + 1) = p + ((i + 1 : Nat) : Int) := by omega
      rw [es]
      refine m_sg hX t4 (by omega) ⟨⟨i1, i2, i + 1, by omega, by omega, by omega, rfl, Or.inr gB, ?_, f4, k4, fun j j1 j2 => ?_⟩, by omega⟩
      · have hs : qn T (8 - i) (p + i) = if qN (T (p + i)) then qn T (8 - (i + 1)) (p + i + 1) + 1 else 0 := by
          rw [show 8 - i = (8 - (i + 1)) + 1 by omega]
          rfl
        rw [if_pos g1] at hs
        rw [show p + ((i + 1 : Nat) : Int) = p + i + 1 by omega]
        omega
      · rw [m4]
        by_cases z : j = i
        · rw [if_pos (by omega), i5, g4, z]
        · rw [if_neg (by omega)]
          exact i10 j j1 (by omega)
    · have e8 : i = 8 := by omega
      rw [e8] at i7 g1
      have z0 : qn T 8 p = 8 := by
        rw [i7]
        rfl
      rcases qR_len (T := T) (p := p) with ⟨-, q⟩ | ⟨q1, -, q3, -⟩
      · exact absurd gB q
      · refine hK10 q1 ?_ (by omega) S' i8 i9
        rw [q3, z0]
        exact g1
  have stop : ¬ (qN (T (p + i)) ∧ (i = 0 → qB (T p))) → wX11_nameAt_80 l2 l3 S' K := fun g1 => by
    refine ⟨by omega, by omega, ⟨by omega, by omega⟩, fun S2 e2 => ?_⟩
    have f2 : S2.1 = S.1 := by rw [e2]; exact i8
    have k2 : Mk S S2 k := by
      refine i9.tr ⟨fun a q1 q2 => ?_, fun j q => ?_, fun j q => ?_⟩
      · rw [e2]
        exact (pA_ne a q1).2
      · rw [e2, pA_if, if_neg (by omega)]
      · rw [e2, (pA_ne 64 (by decide)).2]
    have e63 : S2.2 63 k = i := by rw [e2, pA_if, if_pos (by omega)]; exact i3
    refine ⟨fun h => ?_, fun h => hK2 ?_ S2 f2 k2⟩
    · have gB : qB (T p) := by
        rcases i6 with z | z
        · omega
        · exact z
      have g2 : ¬ qN (T (p + i)) := fun y => g1 ⟨y, fun z => by omega⟩
      have z0 : qn T (8 - i) (p + i) = 0 := by
        by_cases z : i = 8
        · rw [z]
          rfl
        · have hs : qn T (8 - i) (p + i) = if qN (T (p + i)) then qn T (8 - (i + 1)) (p + i + 1) + 1 else 0 := by
            rw [show 8 - i = (8 - (i + 1)) + 1 by omega]
            rfl
          rw [hs, if_neg g2]
      rcases qR_len (T := T) (p := p) with ⟨-, q⟩ | ⟨q1, -, q3, -, q5⟩
      · exact absurd gB q
      · have ei : (qR T p).length = i := by omega
        rw [i3, ← ei]
        refine hK q1 (by rw [ei]; exact g2) S2 f2 k2 ?_ (by rw [e63, ei])
        rw [q5, show qn T 8 p = i by omega]
        unfold nN
        rw [e63, show ((i : Nat) : Int).toNat = i by omega]
        have sh : ∀ (m : Nat) (x y : Int), (∀ j : Int, 0 ≤ j → j < m → S2.2 64 (8 * k + (x + j)) = T (y + j)) → catF (fun i => [S2.2 64 (8 * k + i)]) m x = catF (fun j => [T j]) m y := fun m => by
          induction m with
          | zero => exact fun x y _ => rfl
          | succ m ih =>
            intro x y hh
            show [S2.2 64 (8 * k + x)] ++ _ = [T y] ++ _
            have h0' := hh 0 (by decide) (by omega)
            rw [show x + 0 = x by omega, show y + 0 = y by omega] at h0'
            rw [h0', ih (x + 1) (y + 1) (fun j j1 j2 => by
              have := hh (j + 1) (by omega) (by omega)
              rw [show x + 1 + j = x + (j + 1) by omega, show y + 1 + j = y + (j + 1) by omega]
              exact this)]
        refine sh i 0 p (fun j j1 j2 => ?_)
        rw [show (0 : Int) + j = j by omega, e2, (pA_ne 64 (by decide)).2]
        exact i10 j j1 j2
    · have h0i : i = 0 := by omega
      rcases qR_len (T := T) (p := p) with ⟨q, -⟩ | ⟨-, q, -⟩
      · exact q
      · refine absurd ⟨?_, fun _ => q⟩ g1
        rw [h0i, show p + ((0 : Nat) : Int) = p by omega]
        omega
  have eN : qN l4 ↔ qN (T (p + i)) := by rw [i5]; exact mU_N
  have eB0 : i = 0 → (qB l4 ↔ qB (T p)) := fun z => by
    rw [i5, z, show p + ((0 : Nat) : Int) = p by omega]
    exact mU_B
  refine ⟨⟨by omega, by omega⟩, m_isL ⟨r01, fun h => ?_, fun h => ⟨fun h2 => ?_, fun h2 => ⟨fun h3 => ?_, fun h3 => ⟨⟨by omega, by omega⟩, fun h4 => stop ?_, fun h4 => m_isD ⟨r01, fun h5 => stop ?_, fun h5 => ?_⟩⟩⟩⟩⟩⟩
  · rw [n01] at h
    exact go (eN.mp (by omega)) (fun z => (eB0 z).mp (by omega))
  · exact go (eN.mp (by omega)) (fun z => (eB0 z).mp (by omega))
  · exact go (eN.mp (by omega)) (fun z => (eB0 z).mp (by omega))
  · rw [n01] at h
    have z : i = 0 := by omega
    exact fun y => absurd ((eB0 z).mpr (y.2 z)) (by omega)
  · rw [n01] at h h5
    exact fun y => absurd (eN.mpr y.1) (by omega)
  · rw [n01] at h5
    exact go (eN.mp (by omega)) (fun z => by omega)
end MN

