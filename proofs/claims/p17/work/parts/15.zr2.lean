/-! THE SMALL CALLS: the model -/
def HM (S S' : St) : Prop := S'.1 54 2 = S.1 54 2 ∧ ∀ b, 56 ≤ b → b ≤ 61 → S'.2 b = S.2 b
theorem mE_hp {S S' : St} {e : Env} {N : Int} {K : Int → Int} {V : Int → Int → Int} {P : Int → Int → Int → Int} (h : mE S e) (q : HM S S') (h1 : S'.2 67 0 = N) (h2 : ∀ o, 0 ≤ o → o < N → S'.2 68 o = K o) (h3 : ∀ o f, 0 ≤ o → o < N → okF e (K o) f → S'.2 69 (4 * o + f) = V o f) (h4 : ∀ o f i, 0 ≤ o → o < N → okF e (K o) f → (eD e (K o) f = 1 ∨ eD e (K o) f = 3) → 0 ≤ i → i < V o f → S'.2 70 (20 * (4 * o + f) + i) = P o f i) : mE S' (hp e N K V P) := by
  obtain ⟨a1, a2, a3, a4, a5, a6, a7, a8⟩ := h
  refine ⟨h1, fun o ho => h2 o ho.1 ho.2, fun o f ho hf => h3 o f ho.1 ho.2 hf, fun o f i ho hf hd i0 i1 => h4 o f i ho.1 ho.2 hf hd i0 i1, q.1.trans a5, fun c hc => by rw [q.2 56 (by decide) (by decide)]; exact a6 c hc, fun c f hf => ?_, fun k hk => ?_⟩
  · rw [q.2 59 (by decide) (by decide), q.2 60 (by decide) (by decide)]
    exact a7 c f hf
  · rw [q.2 57 (by decide) (by decide), q.2 58 (by decide) (by decide)]
    exact a8 k hk
theorem mN_hp {S S' : St} {e : Env} {N : Int} {K : Int → Int} {V : Int → Int → Int} {P : Int → Int → Int → Int} (h : mN S e) (q : HM S S') : mN S' (hp e N K V P) := fun k hk => by
  unfold nL
  rw [q.2 57 (by decide) (by decide), q.2 58 (by decide) (by decide)]
  exact h k hk
def FTm (S : St) : Prop := S.1 54 0 ≤ 20 ∧ ∀ p, 0 ≤ p → p < S.1 54 0 → 32 ≤ S.2 55 p
def Mb (S T : St) (a N m : Int) : Prop := T.1 = S.1 ∧ (∀ b, b < 67 ∨ 69 < b → T.2 b = S.2 b) ∧ (∀ x, T.2 67 x = if x = 0 then N + 1 else S.2 67 x) ∧ (∀ x, T.2 68 x = if x = N then a else S.2 68 x) ∧ ∀ x, T.2 69 x = if 4 * N ≤ x ∧ x < 4 * N + m then (if S.2 59 (4 * a + (x - 4 * N)) = 2 then -2 else 0) else S.2 69 x
def Tm (S T : St) (x n m : Int) : Prop := T.1 = S.1 ∧ (∀ b, b < 69 ∨ 70 < b → T.2 b = S.2 b) ∧ (∀ y, T.2 69 y = if y = x then n else S.2 69 y) ∧ ∀ y, T.2 70 y = if 20 * x ≤ y ∧ y < 20 * x + m then S.2 55 (y - 20 * x) else S.2 70 y
section SM
variable {S : St} {K : Int → St → Prop} {e : Env} {a b x lo hi : Int}
theorem n_in (hK : ∀ r, (r = 1 ∧ lo ≤ a ∧ a ≤ hi) ∨ (r = 0 ∧ ¬ (lo ≤ a ∧ a ≤ hi)) → K r S) : wX11_in a lo hi S K := by
  unfold wX11_in
  intro _ _ _
  exact ⟨fun h => hK 0 (Or.inr ⟨rfl, by omega⟩), fun h => ⟨fun h2 => hK 0 (Or.inr ⟨rfl, by omega⟩), fun h2 => hK 1 (Or.inl ⟨rfl, by omega, by omega⟩)⟩⟩
theorem n_isO (hE : mE S e) (hK : ∀ r, (r = 1 ∧ okO e a) ∨ (r = 0 ∧ ¬ okO e a) → K r S) : wX11_isObject 0 a S K := by
  have h1 := hE.1
  unfold wX11_isObject
  intro _ _
  rw [h1]
  exact ⟨fun h => hK 0 (Or.inr ⟨rfl, fun z => by have := z.1; omega⟩), fun h => ⟨by decide, by decide, fun _ => ⟨fun h2 => hK 0 (Or.inr ⟨rfl, fun z => by have := z.2; omega⟩), fun h2 => hK 1 (Or.inl ⟨rfl, by omega, by omega⟩)⟩⟩⟩
theorem n_kind (hE : mE S e) (hV : EV e) (hK : ∀ r, (r = eD e (eK e a) b ∧ okO e a ∧ okF e (eK e a) b) ∨ (r = -1 ∧ ¬ (okO e a ∧ okF e (eK e a) b)) → K r S) : wX11_kindAt 0 a b S K := by
  unfold wX11_kindAt
  intro _ _ _
  refine n_in (fun r hr => ?_)
  rcases hr with ⟨rfl, -⟩ | ⟨-, h⟩
  · refine ⟨⟨by decide, by decide⟩, fun q => absurd q (by decide), fun _ => n_isO hE (fun r hr => ?_)⟩
    rcases hr with ⟨rfl, ho⟩ | ⟨rfl, ho⟩
    · refine ⟨⟨by decide, by decide⟩, fun _ => ?_, fun q => absurd (by decide) q⟩
      rw [show (30 : Int) * 0 + a = a by omega]
      have hk := hE.2.1 a ho
      have hC := hV.2.2.1 a ho
      have h6 := hV.2.1
      have h30 := hV.1
      have h4 := hV.2.2.2.1 _ hC
      have hF := hE.2.2.2.2.2.1 _ hC
      refine ⟨ho.1, by have := ho.2; omega, fun _ y ey => ?_⟩
      have ey : y = eK e a := ey.trans hk
      rw [ey]
      clear ey
      refine ⟨hC.1, by have := hC.2; omega, fun _ => ?_⟩
      rw [hF]
      refine ⟨⟨by omega, by omega⟩, n_in (fun r hr => ?_)⟩
      rcases hr with ⟨rfl, h1, h2⟩ | ⟨rfl, h1⟩
      · have hf : okF e (eK e a) b := ⟨hC, h1, by omega⟩
        have hD := (hE.2.2.2.2.2.2.1 _ _ hf).1
        refine ⟨⟨by decide, by decide⟩, fun q => absurd q (by decide), fun _ => ⟨by have := hC.1; omega, by have := hC.2; omega, fun _ => ?_⟩⟩
        rw [hD]
        exact hK _ (Or.inl ⟨rfl, ho, hf⟩)
      · exact ⟨⟨by decide, by decide⟩, fun _ => hK _ (Or.inr ⟨rfl, fun z => h1 ⟨z.2.2.1, by have := z.2.2.2; omega⟩⟩), fun q => absurd rfl q⟩
    · exact ⟨⟨by decide, by decide⟩, fun q => absurd rfl q, fun _ => hK _ (Or.inr ⟨rfl, fun z => ho z.1⟩)⟩
  · exact absurd ⟨by decide, by decide⟩ h
theorem n_unit (hn : iv 0 3000 (S.1 54 0)) (hK : ∀ r S', (isSg a ∧ S.1 54 0 < 3000 ∧ r = 1 ∧ S' = pI (pA S 55 (S.1 54 0) a) 54 0 (S.1 54 0 + 1)) ∨ (¬ (isSg a ∧ S.1 54 0 < 3000) ∧ r = 0 ∧ S' = S) → K r S') : wX11_unit a S K := by
  unfold wX11_unit
  intro g _
  refine ⟨fun h => hK 0 S (Or.inr ⟨fun z => by have := z.2; omega, rfl, rfl⟩), fun h => ?_⟩
  have put : isSg a → wX11_unit_30 a S K := fun hs => by
    unfold wX11_unit_30
    intro _
    refine ⟨by omega, by omega, ⟨by omega, by omega⟩, fun S3 e3 _ => ?_⟩
    rw [e3]
    refine ⟨⟨by show 0 ≤ S.1 54 0 + 1; omega, by show S.1 54 0 + 1 ≤ 3000; omega⟩, fun S6 e6 => hK 1 S6 (Or.inl ⟨hs, by omega, rfl, e6⟩)⟩
  refine n_in (fun r hr => ?_)
  rcases hr with ⟨rfl, h1⟩ | ⟨rfl, h1⟩
  · exact ⟨⟨by decide, by decide⟩, fun _ => put (Or.inl h1), fun q => absurd (by decide) q⟩
  · refine ⟨⟨by decide, by decide⟩, fun q => absurd rfl q, fun _ => ?_⟩
    have key : ∀ r, (r = 1 ∧ isSg a) ∨ (r = 0 ∧ ¬ isSg a) → (rng r ∧ ((¬ r = 0 → wX11_unit_30 a S K) ∧ ((¬ (¬ r = 0)) → K 0 S))) := fun r hr => by
      rcases hr with ⟨rfl, h2⟩ | ⟨rfl, h2⟩
      · exact ⟨⟨by decide, by decide⟩, fun _ => put h2, fun q => absurd (by decide) q⟩
      · exact ⟨⟨by decide, by decide⟩, fun q => absurd rfl q, fun _ => hK 0 S (Or.inr ⟨fun z => h2 z.1, rfl, rfl⟩)⟩
    unfold wX11_isBlank
    intro _
    unfold isSg at key
    exact ⟨fun h2 => key 1 (by omega), fun h2 => ⟨fun h3 => key 1 (by omega), fun h3 => ⟨fun h4 => key 1 (by omega), fun h4 => ⟨fun h5 => key 0 (by omega), fun h5 => key 1 (by omega)⟩⟩⟩⟩
theorem n_make (hE : mE S e) (hV : EV e) (hK0 : ¬ (okC e a ∧ eN e < 30) → K (-1) S) (hK : okC e a → eN e < 30 → ∀ T, Mb S T a (eN e) 4 → K (eN e) T) : wX11_make a S K := by
  have h67 := hE.1
  have hc := hE.2.2.2.2.1
  have h6 := hV.2.1
  have h30 := hV.1
  unfold wX11_make
  intro _ _
  rw [hc]
  refine ⟨⟨by omega, by omega⟩, n_in (fun r hr => ?_)⟩
  rcases hr with ⟨rfl, h0, h1⟩ | ⟨rfl, h⟩
  · have hC : okC e a := ⟨h0, by omega⟩
    refine ⟨⟨by decide, by decide⟩, fun q => absurd q (by decide), fun _ => ⟨by decide, by decide, fun _ => ?_⟩⟩
    rw [h67]
    refine ⟨fun hN => ?_, fun q => hK0 (fun z => by have := z.2; omega)⟩
    have hN : eN e < 30 := by omega
    unfold wX11_object
    intro _ _
    refine ⟨by decide, by decide, fun _ x3 e3 => ⟨by decide, by decide, fun _ => ⟨by decide, by decide, ⟨by omega, by omega⟩, fun S7 e7 => ⟨by omega, by omega, ⟨by omega, by omega⟩, fun S10 e10 => ?_⟩⟩⟩⟩
    have e3 : x3 = eN e := by omega
    refine ⟨fun l2 l3 l4 T => l2 = a ∧ l3 = eN e ∧ 0 ≤ l4 ∧ l4 ≤ 4 ∧ Mb S T a (eN e) l4, fun l2 l3 l4 T => (4 - l4).toNat, ⟨rfl, e3, by decide, by decide, ?_⟩, ?_⟩
    · rw [e10, e7, e3, h67]
      refine ⟨rfl, fun b q => ?_, fun y => ?_, fun y => ?_, fun y => ?_⟩
      · rw [(pA_ne b (by omega)).2, (pA_ne b (by omega)).2]
      · rw [(pA_ne 67 (by decide)).2, pA_if]
      · rw [pA_if, (pA_ne 68 (by decide)).2]
      · rw [(pA_ne 69 (by decide)).2, (pA_ne 69 (by decide)).2, if_neg (by omega)]
    · rintro l2 l3 l4 T ⟨rfl, rfl, i0, i1, b1, b2, b3, b4, b5⟩
      refine ⟨⟨by omega, by omega⟩, fun q => ?_, fun q => ⟨by omega, by omega, fun _ => ?_⟩⟩
      · rw [show l4 = 4 by omega] at b5
        exact hK hC hN T ⟨b1, b2, b3, b4, b5⟩
      · have e59 : T.2 59 (4 * l2 + l4) = S.2 59 (4 * l2 + l4) := by rw [b2 59 (by decide)]
        rw [e59]
        have fin : ∀ s0, (s0 = if S.2 59 (4 * l2 + l4) = 2 then -2 else 0) → iv (-2) 0 s0 → wX11_object_81 l2 (eN e) l4 s0 (4 * eN e + l4) T K (fun ml2 ml3 ml4 T1 => (ml2 = l2 ∧ ml3 = eN e ∧ 0 ≤ ml4 ∧ ml4 ≤ 4 ∧ Mb S T1 l2 (eN e) ml4) ∧ (4 - ml4).toNat < (4 - l4).toNat) := fun s0 hs hi => by
          unfold wX11_object_81
          refine ⟨by omega, by omega, ⟨by omega, by omega⟩, fun S2 e2 => ⟨⟨rfl, rfl, by omega, by omega, ?_, fun b z => ?_, fun y => ?_, fun y => ?_, fun y => ?_⟩, by omega⟩⟩
          · rw [e2]
            exact b1
          · rw [e2, (pA_ne b (by omega)).2]
            exact b2 b z
          · rw [e2, (pA_ne 67 (by decide)).2]
            exact b3 y
          · rw [e2, (pA_ne 68 (by decide)).2]
            exact b4 y
          · rw [e2, pA_if, b5 y]
            by_cases hy : y = 4 * eN e + l4
            · rw [if_pos hy, if_pos (by omega), hs, show y - 4 * eN e = l4 by omega]
            · rw [if_neg hy]
              by_cases hz : 4 * eN e ≤ y ∧ y < 4 * eN e + l4
              · rw [if_pos hz]
                exact (if_pos (by omega)).symm
              · rw [if_neg hz, if_neg (by omega)]
        unfold wX11_object_58
        refine ⟨fun z => ⟨⟨by decide, by decide⟩, fun _ => fin 0 (by rw [if_neg z]) ⟨by decide, by decide⟩, fun w => absurd rfl w⟩, fun z => ⟨⟨by decide, by decide⟩, fun w => absurd w (by decide), fun _ => fin (-2) (by rw [if_pos (Classical.not_not.mp z)]) ⟨by decide, by decide⟩⟩⟩
  · exact ⟨⟨by decide, by decide⟩, fun _ => hK0 (fun z => h ⟨z.1.1, by have := z.1.2; omega⟩), fun q => absurd rfl q⟩
theorem n_set (hE : mE S e) (hV : EV e) (hK : ∀ r S', (okO e a ∧ okF e (eK e a) b ∧ (eD e (eK e a) b = 0 ∨ (eD e (eK e a) b = 2 ∧ (x = -2 ∨ okO e x))) ∧ r = 1 ∧ S' = pA S 69 (4 * a + b) x) ∨ (¬ (okO e a ∧ okF e (eK e a) b ∧ (eD e (eK e a) b = 0 ∨ (eD e (eK e a) b = 2 ∧ (x = -2 ∨ okO e x)))) ∧ r = 0 ∧ S' = S) → K r S') : wX11_set a b x S K := by
  unfold wX11_set
  intro g1 g2 g3
  have h30 := hV.1
  refine n_kind hE hV (fun r hr => ?_)
  rcases hr with ⟨hr, ho, hf⟩ | ⟨rfl, h⟩
  · have h3 := (hV.2.2.2.2.1 _ _ hf).1
    have h4 := hV.2.2.2.1 _ hf.1
    have yes : (eD e (eK e a) b = 0 ∨ (eD e (eK e a) b = 2 ∧ (x = -2 ∨ okO e x))) → wX11_set_37 a b x S K := fun h => by
      have o1 := ho.1
      have o2 := ho.2
      have f1 := hf.2.1
      have f2 := hf.2.2
      exact ⟨by omega, by omega, ⟨by omega, by omega⟩, fun S2 e2 => hK 1 S2 (Or.inl ⟨ho, hf, h, rfl, e2⟩)⟩
    refine ⟨⟨by omega, by omega⟩, fun q => yes (Or.inl (by omega)), fun q => ⟨fun q2 => hK 0 S (Or.inr ⟨fun z => by have := z.2.2; omega, rfl, rfl⟩), fun q2 => ⟨fun q3 => yes (Or.inr ⟨by omega, Or.inl q3⟩), fun q3 => n_isO hE (fun r2 hr2 => ?_)⟩⟩⟩
    rcases hr2 with ⟨rfl, h2⟩ | ⟨rfl, h2⟩
    · exact ⟨⟨by decide, by decide⟩, fun _ => yes (Or.inr ⟨by omega, Or.inr h2⟩), fun q => absurd (by decide) q⟩
    · refine ⟨⟨by decide, by decide⟩, fun q => absurd rfl q, fun _ => hK 0 S (Or.inr ⟨fun z => ?_, rfl, rfl⟩)⟩
      rcases z.2.2 with z1 | ⟨z1, z2⟩
      · omega
      · exact z2.elim q3 h2
  · exact ⟨⟨by decide, by decide⟩, fun q => absurd q (by decide), fun q => ⟨fun q2 => hK 0 S (Or.inr ⟨fun z => h ⟨z.1, z.2.1⟩, rfl, rfl⟩), fun q2 => absurd (by decide) q2⟩⟩
theorem n_text (hE : mE S e) (hV : EV e) (hn : iv 0 3000 (S.1 54 0)) (hK0 : ¬ (okO e a ∧ okF e (eK e a) b ∧ eD e (eK e a) b = 1 ∧ FTm S) → K 0 S) (hK : okO e a → okF e (eK e a) b → eD e (eK e a) b = 1 → FTm S → ∀ T, Tm S T (4 * a + b) (S.1 54 0) (S.1 54 0) → K 1 (pI T 54 0 0)) : wX11_text a b S K := by
  have h30 := hV.1
  have t66 : ∀ l3 : Int, iv 0 1 l3 → (l3 = 1 ↔ (okO e a ∧ okF e (eK e a) b ∧ eD e (eK e a) b = 1 ∧ FTm S)) → wX11_text_66 a b l3 S K := fun l3 h01 hl => by
    unfold wX11_text_66
    refine ⟨⟨by omega, by omega⟩, fun q x3 e3 _ => ?_, fun q => hK0 (fun z => by have := hl.mpr z; omega)⟩
    obtain ⟨ho, hf, hd, hx⟩ := hl.mp (by omega)
    have h4 := hV.2.2.2.1 _ hf.1
    have o1 := ho.1
    have o2 := ho.2
    have f1 := hf.2.1
    have f2 := hf.2.2
    have h20 := hx.1
    refine ⟨by omega, by omega, ⟨by omega, by omega⟩, fun S6 e6 => ?_⟩
    refine ⟨fun l4 l5 T => l4 = 4 * a + b ∧ 0 ≤ l5 ∧ l5 ≤ S.1 54 0 ∧ Tm S T (4 * a + b) (S.1 54 0) l5, fun l4 l5 T => (S.1 54 0 - l5).toNat, ⟨e3, by decide, by omega, ?_⟩, ?_⟩
    · rw [e6, e3]
      refine ⟨rfl, fun b q => (pA_ne b (by omega)).2, fun y => pA_if, fun y => ?_⟩
      rw [if_neg (by omega), (pA_ne 70 (by decide)).2]
    · rintro l4 l5 T ⟨rfl, i0, i1, b1, b2, b3, b4⟩
      have e0 : T.1 54 0 = S.1 54 0 := by rw [b1]
      have e55 : T.2 55 = S.2 55 := b2 55 (by decide)
      intro _
      rw [e0]
      refine ⟨⟨by omega, by omega⟩, fun q S4 e4 => ?_, fun q => ⟨by omega, by omega, fun _ => ⟨by omega, by omega, fun S8 e8 => ⟨⟨rfl, by omega, by omega, ?_, fun b z => ?_, fun y => ?_, fun y => ?_⟩, by show (S.1 54 0 - (l5 + 1)).toNat < (S.1 54 0 - l5).toNat; omega⟩⟩⟩⟩
      · rw [e4]
        rw [show l5 = S.1 54 0 by omega] at b4
        exact hK ho hf hd hx T ⟨b1, b2, b3, b4⟩
      · rw [e8]
        exact b1
      · rw [e8, (pA_ne b (by omega)).2]
        exact b2 b z
      · rw [e8, (pA_ne 69 (by decide)).2]
        exact b3 y
      · rw [e8, pA_if, b4 y, e55]
        by_cases hy : y = 20 * (4 * a + b) + l5
        · rw [if_pos hy, if_pos (by omega), show y - 20 * (4 * a + b) = l5 by omega]
        · rw [if_neg hy]
          by_cases hz : 20 * (4 * a + b) ≤ y ∧ y < 20 * (4 * a + b) + l5
          · rw [if_pos hz, if_pos (by omega)]
          · rw [if_neg hz, if_neg (by omega)]
  have loop : ∀ s0 : Int, iv 0 1 s0 → (s0 = 1 ↔ (okO e a ∧ okF e (eK e a) b ∧ eD e (eK e a) b = 1 ∧ S.1 54 0 ≤ 20)) → wX11_text_25 a b s0 S K := fun s0 h01 hs => by
    unfold wX11_text_25
    refine ⟨fun l1 l2 l3 l4 T => l1 = a ∧ l2 = b ∧ T = S ∧ 0 ≤ l4 ∧ l4 ≤ S.1 54 0 ∧ iv 0 1 l3 ∧ (l3 = 1 ↔ (s0 = 1 ∧ ∀ p, 0 ≤ p → p < l4 → 32 ≤ S.2 55 p)), fun l1 l2 l3 l4 T => (S.1 54 0 - l4).toNat, ⟨rfl, rfl, rfl, by decide, by omega, h01, ⟨fun z => ⟨z, fun p p0 p1 => by omega⟩, fun z => z.1⟩⟩, ?_⟩
    rintro l1 l2 l3 l4 T ⟨rfl, rfl, rfl, i0, i1, i2, i3⟩
    intro _
    refine ⟨⟨by omega, by omega⟩, fun q => t66 l3 i2 ⟨fun z => ?_, fun z => i3.mpr ⟨hs.mpr ⟨z.1, z.2.1, z.2.2.1, z.2.2.2.1⟩, fun p p0 p1 => z.2.2.2.2 p p0 (by omega)⟩⟩, fun q => ⟨⟨by omega, by omega⟩, fun q2 => t66 l3 i2 ⟨fun z => absurd z (by omega), fun z => i3.mpr ⟨hs.mpr ⟨z.1, z.2.1, z.2.2.1, z.2.2.2.1⟩, fun p p0 p1 => z.2.2.2.2 p p0 (by omega)⟩⟩, fun q2 => ⟨by omega, by omega, fun _ => ⟨fun q3 => ?_, fun q3 => ?_⟩⟩⟩⟩
    · obtain ⟨z1, z2⟩ := i3.mp z
      obtain ⟨y1, y2, y3, y4⟩ := hs.mp z1
      exact ⟨y1, y2, y3, y4, fun p p0 p1 => z2 p p0 (by omega)⟩
    · exact ⟨⟨rfl, rfl, rfl, by omega, by omega, ⟨by decide, by decide⟩, ⟨fun z => absurd z (by decide), fun z => absurd (z.2 l4 i0 (by omega)) (by omega)⟩⟩, by show (T.1 54 0 - (l4 + 1)).toNat < (T.1 54 0 - l4).toNat; omega⟩
    · refine ⟨⟨rfl, rfl, rfl, by omega, by omega, ⟨by decide, by decide⟩, ⟨fun _ => ?_, fun _ => rfl⟩⟩, by show (T.1 54 0 - (l4 + 1)).toNat < (T.1 54 0 - l4).toNat; omega⟩
      obtain ⟨z1, z2⟩ := i3.mp (by omega)
      refine ⟨z1, fun p p0 p1 => ?_⟩
      by_cases hp : p = l4
      · rw [hp]
        omega
      · exact z2 p p0 (by omega)
  unfold wX11_text
  intro g1 g2
  refine n_kind hE hV (fun r hr => ?_)
  rcases hr with ⟨hr, ho, hf⟩ | ⟨rfl, h⟩
  · have h3 := (hV.2.2.2.2.1 _ _ hf).1
    refine ⟨⟨by omega, by omega⟩, fun q => loop 0 ⟨by decide, by decide⟩ ⟨fun z => absurd z (by decide), fun z => absurd (hr.trans z.2.2.1) q⟩, fun q _ => ⟨fun q2 => loop 0 ⟨by decide, by decide⟩ ⟨fun z => absurd z (by decide), fun z => absurd z.2.2.2 (by omega)⟩, fun q2 => loop 1 ⟨by decide, by decide⟩ ⟨fun _ => ⟨ho, hf, by omega, by omega⟩, fun _ => rfl⟩⟩⟩
  · exact ⟨⟨by decide, by decide⟩, fun q => loop 0 ⟨by decide, by decide⟩ ⟨fun z => absurd z (by decide), fun z => absurd ⟨z.1, z.2.1⟩ h⟩, fun q => absurd (by decide) q⟩
theorem n_add (hE : mE S e) (hV : EV e) (hK0 : ¬ (okO e a ∧ okF e (eK e a) b ∧ eD e (eK e a) b = 3 ∧ okO e x ∧ eV e a b < 8) → K (-1) S) (hK : okO e a → okF e (eK e a) b → eD e (eK e a) b = 3 → okO e x → eV e a b < 8 → K (eV e a b + 1) (pA (pA S 70 (20 * (4 * a + b) + eV e a b) x) 69 (4 * a + b) (eV e a b + 1))) : wX11_add a b x S K := by
  have h30 := hV.1
  unfold wX11_add
  intro g1 g2 g3 x1 e1
  refine n_kind hE hV (fun r hr => ?_)
  rcases hr with ⟨hr, ho, hf⟩ | ⟨rfl, h⟩
  · have h3 := (hV.2.2.2.2.1 _ _ hf).1
    have h4 := hV.2.2.2.1 _ hf.1
    have o1 := ho.1
    have o2 := ho.2
    have f1 := hf.2.1
    have f2 := hf.2.2
    refine ⟨⟨by omega, by omega⟩, fun q => hK0 (fun z => by have := z.2.2.1; omega), fun q => n_isO hE (fun r2 hr2 => ?_)⟩
    have hd : eD e (eK e a) b = 3 := by omega
    rcases hr2 with ⟨rfl, h2⟩ | ⟨rfl, h2⟩
    · have h8 := ((hV.2.2.2.2.2 a b ho hf).2.2.2 hd).1
      have hv := hE.2.2.1 a b ho hf
      refine ⟨⟨by decide, by decide⟩, fun q => absurd q (by decide), fun _ => ⟨by omega, by omega, fun _ => ?_⟩⟩
      rw [e1, hv]
      have k := hK ho hf hd h2
      refine ⟨fun z => ⟨by omega, by omega, fun _ => ⟨by omega, by omega, ⟨by omega, by omega⟩, fun S16 e16 => ?_⟩⟩, fun z => hK0 (fun w => by have := w.2.2.2.2; omega)⟩
      have e69 : S16.2 69 (4 * a + b) = eV e a b := by rw [e16, (pA_ne 69 (by decide)).2, hv]
      rw [e69]
      refine ⟨by omega, by omega, fun _ => ⟨by omega, by omega, ⟨by omega, by omega⟩, fun S21 e21 => ⟨by omega, by omega, fun _ => ?_⟩⟩⟩
      rw [e21, pA_if, if_pos rfl, e16]
      exact k (by omega)
    · exact ⟨⟨by decide, by decide⟩, fun _ => hK0 (fun z => h2 z.2.2.2.1), fun q => absurd rfl q⟩
  · exact ⟨⟨by decide, by decide⟩, fun _ => hK0 (fun z => h ⟨z.1, z.2.1⟩), fun q => absurd (by decide) q⟩
theorem n_sign (hn : iv 0 3000 (S.1 54 20)) (hK : ∀ r, (0 ≤ a ∧ a < S.1 54 20 ∧ r = S.2 71 a) ∨ ((a < 0 ∨ S.1 54 20 ≤ a) ∧ r = -1) → K r S) : wX11_sign a S K := by
  unfold wX11_sign
  intro _ _
  refine ⟨⟨by omega, by omega⟩, n_in (fun r hr => ?_)⟩
  rcases hr with ⟨rfl, h0, h1⟩ | ⟨rfl, h⟩
  · exact ⟨⟨by decide, by decide⟩, fun q => absurd q (by decide), fun _ => ⟨h0, by omega, fun _ => hK _ (Or.inl ⟨h0, by omega, rfl⟩)⟩⟩
  · exact ⟨⟨by decide, by decide⟩, fun _ => hK _ (Or.inr ⟨by omega, rfl⟩), fun q => absurd rfl q⟩
theorem n_take (hn : iv 0 3000 (S.1 54 20)) (hK : ∀ S', (∀ j, j ≠ 0 → S'.1 54 j = S.1 54 j) → (∀ b, b ≠ 55 → S'.2 b = S.2 b) → S'.1 54 0 = S.1 54 20 → (∀ p, 0 ≤ p → p < S.1 54 20 → S'.2 55 p = S.2 71 p) → K (S.1 54 20) S') : wX11_take S K := by
  intro _ S2 e2
  refine ⟨fun l1 T => 0 ≤ l1 ∧ l1 ≤ S.1 54 20 ∧ (∀ j, j ≠ 0 → T.1 54 j = S.1 54 j) ∧ (∀ b, b ≠ 55 → T.2 b = S.2 b) ∧ T.1 54 0 = S.1 54 20 ∧ ∀ p, 0 ≤ p → p < l1 → T.2 55 p = S.2 71 p, fun l1 T => (S.1 54 20 - l1).toNat, ⟨by decide, by omega, fun j hj => ?_, fun b _ => by rw [e2]; rfl, by rw [e2]; rfl, fun p p0 p1 => by omega⟩, ?_⟩
  · rw [e2]
    exact if_neg (fun q => hj q.2)
  · rintro l1 T ⟨i0, i1, b1, b2, b3, b4⟩
    have e20 := b1 20 (by decide)
    intro _
    rw [e20]
    refine ⟨⟨by omega, by omega⟩, fun q => hK T b1 b2 b3 (fun p p0 p1 => b4 p p0 (by omega)), fun q => ⟨by omega, by omega, fun _ => ⟨by omega, by omega, fun S7 e7 => ⟨⟨by omega, by omega, fun j hj => ?_, fun b hb => ?_, ?_, fun p p0 p1 => ?_⟩, by show (S.1 54 20 - (l1 + 1)).toNat < (S.1 54 20 - l1).toNat; omega⟩⟩⟩⟩
    · rw [e7]
      exact b1 j hj
    · rw [e7, (pA_ne b hb).2]
      exact b2 b hb
    · rw [e7]
      exact b3
    · rw [e7, pA_if]
      by_cases hp : p = l1
      · rw [if_pos hp, hp, b2 71 (by decide)]
      · rw [if_neg hp]
        exact b4 p p0 (by omega)
theorem n_forbid (hE : mE S e) (hV : EV e) (hb : iv 0 1 b) (hK : ∀ r S', (okC e a ∧ r = S.2 61 a ∧ S' = pA S 61 a b) ∨ (¬ okC e a ∧ r = 0 ∧ S' = S) → K r S') : wX11_forbid a b S K := by
  have hc := hE.2.2.2.2.1
  have h6 := hV.2.1
  unfold wX11_forbid
  intro _ _ _
  rw [hc]
  refine ⟨⟨by omega, by omega⟩, n_in (fun r hr => ?_)⟩
  rcases hr with ⟨rfl, h0, h1⟩ | ⟨rfl, h⟩
  · exact ⟨⟨by decide, by decide⟩, fun _ => ⟨h0, by omega, fun _ x9 e9 => ⟨h0, by omega, hb, fun S13 e13 => hK x9 S13 (Or.inl ⟨⟨h0, by omega⟩, e9, e13⟩)⟩⟩, fun q => absurd (by decide) q⟩
  · exact ⟨⟨by decide, by decide⟩, fun q => absurd rfl q, fun _ => hK 0 S (Or.inr ⟨fun z => h ⟨z.1, by have := z.2; omega⟩, rfl, rfl⟩)⟩
end SM

