/-! THE MODEL READS CLASSES: the whole field -/
section MG
variable {S S' S0 : St} {K : Int → St → Prop} {T : Int → Int} {n p q x : Int} {e : Env} {nm : List Int} {kd mk : Int}
theorem qK_U : qK (mU T q) = qK (T q) := by
  unfold mU
  by_cases h : T q = -1
  · rw [if_pos h, h]
    rfl
  · rw [if_neg h]
theorem m_disp {u : Int} {F : Int → Prop} (h : ∀ s, iv 0 3 s → (qK u = -1 ∨ s = qK u) → F s) : ((¬ u = 105 → ((¬ u = 116 → ((¬ u = 114 → F 3) ∧ ((¬ (¬ u = 114)) → F 2))) ∧ ((¬ (¬ u = 116)) → F 1))) ∧ ((¬ (¬ u = 105)) → F 0)) := by
  unfold qK at h
  refine ⟨fun h1 => ⟨fun h2 => ⟨fun h3 => h 3 ⟨by decide, by decide⟩ ?_, fun h3 => h 2 ⟨by decide, by decide⟩ ?_⟩, fun h2 => h 1 ⟨by decide, by decide⟩ ?_⟩, fun h1 => h 0 ⟨by decide, by decide⟩ ?_⟩
  · rw [if_neg h1, if_neg h2, if_neg h3]
    by_cases h4 : u = 108
    · rw [if_pos h4]
      exact Or.inr rfl
    · rw [if_neg h4]
      exact Or.inl rfl
  · rw [if_neg h1, if_neg h2, if_pos (Decidable.not_not.mp h3)]
    exact Or.inr rfl
  · rw [if_neg h1, if_pos (Decidable.not_not.mp h2)]
    exact Or.inr rfl
  · rw [if_pos (Decidable.not_not.mp h1)]
    exact Or.inr rfl
theorem m_127 {u s c : Int} {R1 R0 : St → Prop} (gu : rng u) (hx : iv 0 23 x) (hs : iv 0 3 s) (h1 : ¬ qK u = -1 → ∀ S2, S2 = pA S 65 x s → wX11_field_162 c x 1 S2 K) (h0 : qK u = -1 → ∀ S2, S2 = pA S 65 x s → wX11_field_162 c x 0 S2 K) : wX11_field_127 c x u s x S K := by
  unfold qK at h1 h0
  refine ⟨by omega, by omega, hs, fun S2 e2 => ⟨gu, fun a => h1 ?_ S2 e2, fun a => ⟨fun b => h1 ?_ S2 e2, fun b => ⟨fun d => h1 ?_ S2 e2, fun d => ⟨fun f => h0 ?_ S2 e2, fun f => h1 ?_ S2 e2⟩⟩⟩⟩⟩
  · rw [if_pos a]
    decide
  · rw [if_neg a, if_pos b]
    decide
  · rw [if_neg a, if_neg b, if_pos d]
    decide
  · rw [if_neg a, if_neg b, if_neg d, if_neg f]
  · rw [if_neg a, if_neg b, if_neg d, if_pos (Decidable.not_not.mp f)]
    decide
theorem m_69 {s0 : Int} {r : Env × Int × Int} (hX : TX T n) (hT : mTx S0 T n) (hP : mP S0 e) (hV : PV e) (hc : 1 ≤ eC e) (hf : nF e < 4) (hG : Gx S0 S (4 * nC e + nF e)) (hq0 : 0 ≤ q) (hqn : q ≤ n) (hp : S.1 54 22 = q) (hw : S.1 54 23 = 0) (hnm : nN S (6 + (4 * nC e + nF e)) = nm) (hlen : S.2 63 (6 + (4 * nC e + nF e)) = nm.length) (hs : iv 0 1 s0) (hb : s0 = 1 ↔ (Brk e ∨ nm = wdC ∨ nm = wdI ∨ ∃ g, 0 ≤ g ∧ g < nF e ∧ eR e (6 + nC e * 4 + g) = nm)) (hr : r = if T q = 58 then (if qK (T (q + 1)) = -1 then (e, q + 1, 0) else (eAF e nm (qK (T (q + 1))) (qM T e q), q + 2 + qM T e q, 1)) else (e, q, 0)) (hK : ∀ S', Mp S0 S' → S'.2 62 = S0.2 62 → S'.1 54 22 = r.2.1 → S'.1 54 23 = 1 - r.2.2 → (r.2.2 = 1 → mP (pA S' 62 (nC e) (nF e + 1)) r.1) → K 0 S') : wX11_field_69 (nC e) (4 * nC e + nF e) s0 S K := by
  have v1 := hV.1
  have hn := hX.1
  have okn : okC e (nC e) := ⟨by unfold nC; omega, by unfold nC; omega⟩
  have v2 := hV.2.1 (nC e) okn
  have hnF : iv 0 4 (nF e) := v2.1
  have hC : iv 0 5 (nC e) := by
    unfold nC
    exact ⟨by omega, by omega⟩
  have hx : iv 0 23 (4 * nC e + nF e) := ⟨by omega, by omega⟩
  obtain ⟨x, hxx⟩ : ∃ x, x = 4 * nC e + nF e := ⟨_, rfl⟩
  refine ⟨hs, fun S1 e1 => ?_⟩
  have g1 : Gx S0 S1 (4 * nC e + nF e) := hG.tr (by rw [e1]; exact Gx.ml Ml.p24 rfl)
  have t1 := hT.mp g1.mp
  refine m_eat hX t1 (by rw [e1]; exact hp) hq0 (by rw [e1]; exact hw) (by decide) (fun h58 S4 m4 a4 p4 w4 b4 => ?_) (fun h58 S4 m4 a4 p4 w4 => ?_)
  · rw [if_pos h58] at hr
    have hq1 : q < n := hX.in (by omega)
    have g4 : Gx S0 S4 (4 * nC e + nF e) := g1.tr (Gx.ml m4 a4)
    have t4 := hT.mp g4.mp
    rw [p4]
    intro _
    refine m_sg hX t4 (by omega) ⟨?_, m_disp (F := fun s => wX11_field_127 (nC e) (4 * nC e + nF e) (mU T (q + 1)) s (4 * nC e + nF e) S4 K) (fun s s1 s2 => ?_)⟩
    · have := mU_iv hX (p := q + 1) (by omega)
      exact ⟨by omega, by omega⟩
    rw [qK_U] at s2
    have gU : rng (mU T (q + 1)) := by
      have := mU_iv hX (p := q + 1) (by omega)
      exact ⟨by omega, by omega⟩
    refine m_127 (R1 := fun _ => True) (R0 := fun _ => True) gU hx s1 (fun hk S5 e5 => ?_) (fun hk S5 e5 => ?_)
    · rw [qK_U] at hk
      rw [if_neg hk] at hr
      have s3 := s2.resolve_left hk
      have hq2 : q + 1 < n := hX.in (qK_n hk)
      have g5 : Gx S0 S5 (4 * nC e + nF e) := g4.tr (by rw [e5]; exact Gx.p65)
      have w5 : S5.1 54 23 = 0 := by rw [e5]; exact w4
      refine ⟨⟨by decide, by decide⟩, m_want (by rw [w5]; exact ⟨by decide, by decide⟩) (fun S6 e6 => ?_)⟩
      rw [w5, if_pos ⟨rfl, by decide⟩] at e6
      have g6 : Gx S0 S6 (4 * nC e + nF e) := g5.tr (by rw [e6]; exact Gx.ml Ml.p23 rfl)
      have w6 : S6.1 54 23 = 0 := by rw [e6]; rfl
      have p6 : S6.1 54 22 = q + 1 := by rw [e6, e5]; exact p4
      rw [w6, p6]
      refine fun _ => ⟨fun _ _ => ⟨⟨by omega, by omega⟩, fun S7 e7 => ?_⟩, fun h => absurd rfl h⟩
      have g7 : Gx S0 S7 (4 * nC e + nF e) := g6.tr (by rw [e7]; exact Gx.ml Ml.p22 rfl)
      have p7 : S7.1 54 22 = q + 2 := by
        rw [e7]
        show q + 1 + 1 = q + 2
        omega
      rw [p7]
      intro _
      refine m_sg hX (hT.mp g7.mp) (by omega) (fun x12 h12 => ?_)
      rw [h12]
      have a7 : S7.2 = S5.2 := by rw [e7, e6]; rfl
      have k65 : S7.2 65 (4 * nC e + nF e) = qK (T (q + 1)) := by rw [a7, e5, pA_if, if_pos rfl, s3]
      have n7 : nN S7 (6 + (4 * nC e + nF e)) = nm := by
        rw [← hnm]
        unfold nN
        rw [a7, e5, (pA_ne 63 (by decide)).2, (pA_ne 64 (by decide)).2, a4, e1]
        rfl
      have l7 : S7.2 63 (6 + (4 * nC e + nF e)) = nm.length := by
        rw [a7, e5, (pA_ne 63 (by decide)).2, a4, e1]
        exact hlen
      refine m_201 hP g7 hV hc hf hX hq0 p7 (Or.inr (by omega)) k65 hk (fun S8 g8 p8 w8 b8 k66 k65' n8 l8 => ?_)
      rw [hr] at hK
      refine hK S8 (g7.tr g8).mp ((g7.tr g8).2.1 62 (by decide)) p8 ?_ (fun _ => mP_AF hP hV hc hf (g7.tr g8) (k65'.trans k65) k66 (n8.trans n7) (l8.trans l7) ?_ ?_)
      · rw [w8, e7]
        show S6.1 54 23 = 1 - 1
        rw [w6]
        rfl
      · rw [b8, e7, e6, e5]
        show iv 0 1 (S4.1 54 24)
        rw [b4, e1]
        exact hs
      · rw [b8, e7, e6, e5]
        show S4.1 54 24 = 1 ↔ _
        rw [b4, e1]
        exact hb
    · rw [qK_U] at hk
      rw [if_pos hk] at hr
      have g5 : Gx S0 S5 (4 * nC e + nF e) := g4.tr (by rw [e5]; exact Gx.p65)
      have w5 : S5.1 54 23 = 0 := by rw [e5]; exact w4
      refine ⟨⟨by decide, by decide⟩, m_want (by rw [w5]; exact ⟨by decide, by decide⟩) (fun S6 e6 => ?_)⟩
      rw [if_neg (fun y => y.2 rfl)] at e6
      have g6 : Gx S0 S6 (4 * nC e + nF e) := g5.tr (by rw [e6]; exact Gx.ml Ml.p23 rfl)
      have w6 : S6.1 54 23 = 1 := by rw [e6]; rfl
      have p6 : S6.1 54 22 = q + 1 := by rw [e6, e5]; exact p4
      rw [w6]
      refine fun _ => ⟨fun h => absurd h (by decide), fun _ => ?_⟩
      rw [hr] at hK
      exact hK S6 g6.mp (g6.2.1 62 (by decide)) p6 w6 (fun h => absurd (show (0 : Int) = 1 from h) (by decide))
  · rw [if_neg h58] at hr
    have g4 : Gx S0 S4 (4 * nC e + nF e) := g1.tr (Gx.ml m4 a4)
    have t4 := hT.mp g4.mp
    rw [p4]
    intro _
    have gU : rng (mU T q) := by
      have := mU_iv hX (p := q) hq0
      exact ⟨by omega, by omega⟩
    have fin : ∀ (s y : Int) (S5 : St), S5 = pA S4 65 (4 * nC e + nF e) s → rng y → wX11_field_162 (nC e) (4 * nC e + nF e) y S5 K := fun s y S5 e5 gy => by
      have g5 : Gx S0 S5 (4 * nC e + nF e) := g4.tr (by rw [e5]; exact Gx.p65)
      have w5 : S5.1 54 23 = 1 := by rw [e5]; exact w4
      refine ⟨gy, m_want (by rw [w5]; exact ⟨by decide, by decide⟩) (fun S6 e6 => ?_)⟩
      rw [w5, if_neg (fun y => absurd y.1 (by decide))] at e6
      have g6 : Gx S0 S6 (4 * nC e + nF e) := g5.tr (by rw [e6]; exact Gx.ml Ml.p23 rfl)
      have w6 : S6.1 54 23 = 1 := by rw [e6]; rfl
      have p6 : S6.1 54 22 = q := by rw [e6, e5]; exact p4
      rw [w6]
      refine fun _ => ⟨fun h => absurd h (by decide), fun _ => ?_⟩
      rw [hr] at hK
      exact hK S6 g6.mp (g6.2.1 62 (by decide)) p6 w6 (fun h => absurd (show (0 : Int) = 1 from h) (by decide))
    refine m_sg hX t4 hq0 ⟨gU, m_disp (F := fun s => wX11_field_127 (nC e) (4 * nC e + nF e) (mU T q) s (4 * nC e + nF e) S4 K) (fun s s1 s2 => ?_)⟩
    exact m_127 (R1 := fun _ => True) (R0 := fun _ => True) gU hx s1 (fun hk S5 e5 => fin s 1 S5 e5 ⟨by decide, by decide⟩) (fun hk S5 e5 => fin s 0 S5 e5 ⟨by decide, by decide⟩)
theorem m_fieldK (hX : TX T n) (hT : mTx S T n) (hP : mP S e) (hV : PV e) (hc : 1 ≤ eC e) (hf : nF e < 4) (hp : S.1 54 22 = p) (h0 : 0 ≤ p) (hpn : p ≤ n) (hw : S.1 54 23 = 0) (hK : ∀ S', Mp S S' → S'.2 62 = S.2 62 → S'.1 54 22 = (qF T e p).2.1 → S'.1 54 23 = 1 - (qF T e p).2.2 → ((qF T e p).2.2 = 1 → mP (pA S' 62 (nC e) (nF e + 1)) (qF T e p).1) → K 0 S') : wX11_field (nC e) (nF e) S K := by
  have v1 := hV.1
  have hn := hX.1
  have okn : okC e (nC e) := ⟨by unfold nC; omega, by unfold nC; omega⟩
  have v2 := hV.2.1 (nC e) okn
  have hnF : iv 0 4 (nF e) := v2.1
  have hC : iv 0 5 (nC e) := by
    unfold nC
    exact ⟨by omega, by omega⟩
  have hqn := qR_in hX hpn
  have h8 := qR_8 (T := T) (p := p)
  have okg : ∀ g, 0 ≤ g → g < nF e → okN e (6 + nC e * 4 + g) := fun g g0 g1 => Or.inr ⟨nC e, g, ⟨okn, g0, g1⟩, rfl⟩
  unfold wX11_field
  intro _ _ x1 hx1
  rw [hx1]
  refine ⟨⟨by omega, by omega⟩, ⟨by omega, by omega⟩, m_nameK hX hT hp h0 hpn ⟨by omega, by omega⟩ (by omega) (by omega) (by omega) (fun j j1 j2 => ⟨by omega, ?_⟩) hP.2.2.2.1 (fun hr S5 m5 k5 p5 w5 => ?_) (fun hr hr2 S5 m5 k5 p5 w5 n5 l5 b5 b6 => ?_)⟩
  · have o := okg (j - (6 + nC e * 4)) (by omega) (by omega)
    rw [show 6 + nC e * 4 + (j - (6 + nC e * 4)) = j by omega] at o
    rw [(hP.2.2.1 j o).1]
    have := (hV.2.2.2 j o).2
    exact ⟨by omega, by omega⟩
  · have eF1 : qF T e p = (e, p + (qR T p).length, 0) := by
      unfold qF
      rcases hr with hr | hr
      · rw [if_pos hr, hr]
        show (e, p, (0 : Int)) = (e, p + ((0 : Nat) : Int), 0)
        rw [show p + ((0 : Nat) : Int) = p by omega]
      · by_cases z : qR T p = []
        · rw [if_pos z, z]
          show (e, p, (0 : Int)) = (e, p + ((0 : Nat) : Int), 0)
          rw [show p + ((0 : Nat) : Int) = p by omega]
        · rw [if_neg z, if_neg (by omega)]
    rw [eF1] at hK
    have g5 : Gx S S5 (4 * nC e + nF e) := Gx.mk m5 k5
    rw [w5]
    exact fun _ => ⟨fun h => absurd h (by decide), fun _ => hK S5 g5.mp (g5.2.1 62 (by decide)) p5 w5 (fun h => absurd (show (0 : Int) = 1 from h) (by decide))⟩
  · obtain ⟨q, hq⟩ : ∃ q, q = p + ((qR T p).length : Int) := ⟨_, rfl⟩
    have eF1 : qF T e p = if T q = 58 then (if qK (T (q + 1)) = -1 then (e, q + 1, 0) else (eAF e (qR T p) (qK (T (q + 1))) (qM T e q), q + 2 + qM T e q, 1)) else (e, q, 0) := by
      unfold qF
      rw [if_neg hr, hq]
    rw [← hq] at p5 hqn
    have g5 : Gx S S5 (4 * nC e + nF e) := Gx.mk m5 k5
    have w5 : S5.1 54 23 = 0 := w5.trans hw
    have tw : (∃ j, 6 + 4 * nC e ≤ j ∧ j < 6 + (4 * nC e + nF e) ∧ nN S j = qR T p) ↔ ∃ g, 0 ≤ g ∧ g < nF e ∧ eR e (6 + nC e * 4 + g) = qR T p := by
      constructor
      · rintro ⟨j, j1, j2, j3⟩
        have o := okg (j - (6 + nC e * 4)) (by omega) (by omega)
        have ej : 6 + nC e * 4 + (j - (6 + nC e * 4)) = j := by omega
        rw [ej] at o
        refine ⟨j - (6 + nC e * 4), by omega, by omega, ?_⟩
        rw [ej, ← (hP.2.2.1 j o).2]
        exact j3
      · rintro ⟨g, g0, g1, g2⟩
        refine ⟨6 + nC e * 4 + g, by omega, by omega, ?_⟩
        rw [(hP.2.2.1 _ (okg g g0 g1)).2]
        exact g2
    rw [tw, hP.2.2.2.2] at b6
    have l8 : iv 0 8 (S5.2 63 (6 + (4 * nC e + nF e))) := by
      rw [l5]
      exact ⟨by omega, by omega⟩
    have go : ∀ s, iv 0 1 s → (s = 1 ↔ (Brk e ∨ qR T p = wdC ∨ qR T p = wdI ∨ ∃ g, 0 ≤ g ∧ g < nF e ∧ eR e (6 + nC e * 4 + g) = qR T p)) → wX11_field_69 (nC e) (4 * nC e + nF e) s S5 K := fun s s1 s2 => m_69 hX hT hP hV hc hf g5 (by omega) hqn p5 w5 n5 l5 s1 s2 eF1 hK
    rw [w5]
    refine fun _ => ⟨fun _ _ => ⟨fun h => go 1 ⟨by decide, by decide⟩ ⟨fun _ => ?_, fun _ => rfl⟩, fun h => m_word ⟨by omega, by omega⟩ l8 (Or.inl ⟨rfl, rfl⟩) mLoC (fun y => ⟨⟨by decide, by decide⟩, fun _ => go 1 ⟨by decide, by decide⟩ ⟨fun _ => Or.inr (Or.inl (n5.symm.trans y)), fun _ => rfl⟩, fun h2 => absurd (by decide) h2⟩) (fun y => ⟨⟨by decide, by decide⟩, fun h2 => absurd rfl h2, fun _ => m_word ⟨by omega, by omega⟩ l8 (Or.inr ⟨rfl, rfl⟩) mLoI (fun y2 => ⟨⟨by decide, by decide⟩, fun h2 => absurd h2 (by decide), fun _ => go 1 ⟨by decide, by decide⟩ ⟨fun _ => Or.inr (Or.inr (Or.inl (n5.symm.trans y2))), fun _ => rfl⟩⟩) (fun y2 => ⟨⟨by decide, by decide⟩, fun _ => go 0 ⟨by decide, by decide⟩ ⟨fun h2 => absurd h2 (by decide), fun z => ?_⟩, fun h2 => absurd rfl h2⟩)⟩)⟩, fun h => absurd rfl h⟩
    · rcases b6.mp (by omega) with z | z
      · exact Or.inl z
      · exact Or.inr (Or.inr (Or.inr z))
    · rw [n5] at y y2
      rcases z with z | z | z | z
      · have := b6.mpr (Or.inl z)
        omega
      · exact absurd z y
      · exact absurd z y2
      · have := b6.mpr (Or.inr z)
        omega
end MG

