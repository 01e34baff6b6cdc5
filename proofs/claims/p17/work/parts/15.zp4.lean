/-! THE CLASS READS CLASSES: the field's rest, the class, the loop -/
section FE
variable {S S' S2 : St} {K : Int → St → Prop} {T : Int → Int} {n p c f d at1 im rb x q : Int} {e : Env} {nm : List Int} {kd mk : Int}
theorem c_shape {u : Int} (hK : K (qK u + 1) S) : wX0_shapeOf u S K := by
  unfold wX0_shapeOf
  intro _
  unfold qK at hK
  by_cases h1 : u = 105
  · rw [if_pos h1] at hK
    exact ⟨fun _ => hK, fun h => absurd h (by omega), fun h => absurd h (by omega), fun h => absurd h (by omega), fun h => absurd h1 h.1⟩
  · rw [if_neg h1] at hK
    by_cases h2 : u = 116
    · rw [if_pos h2] at hK
      exact ⟨fun h => absurd h h1, fun h => absurd h (by omega), fun h => absurd h (by omega), fun _ => hK, fun h => absurd h2 h.2.2.2⟩
    · rw [if_neg h2] at hK
      by_cases h3 : u = 114
      · rw [if_pos h3] at hK
        exact ⟨fun h => absurd h h1, fun h => absurd h (by omega), fun _ => hK, fun h => absurd h h2, fun h => absurd h3 h.2.2.1⟩
      · rw [if_neg h3] at hK
        by_cases h4 : u = 108
        · rw [if_pos h4] at hK
          exact ⟨fun h => absurd h h1, fun _ => hK, fun h => absurd h h3, fun h => absurd h h2, fun h => absurd h4 h.2.1⟩
        · rw [if_neg h4] at hK
          exact ⟨fun h => absurd h h1, fun h => absurd h h4, fun h => absurd h h3, fun h => absurd h h2, fun _ => hK⟩
theorem c_putShape (hF : FS S S' c f d at1 im rb) (h33 : c < S'.1 33 8) (c0 : 0 ≤ c) (c6 : c < 6) (f0 : 0 ≤ f) (f4 : f < 4) (hb : iv 0 15 rb) (hd : iv 0 3 kd) (hK : ∀ S2, FS S S2 c f (kd + 1) at1 im (if kd = 2 then bor rb (bsl 1 f) else rb) → Pl S' S2 → S2.1 200 2 = S'.1 200 2 → S2.2 34 = S'.2 34 → S2.2 35 = S'.2 35 → K 0 S2) : wX4_putShape c f (kd + 1) S' K := by
  have e38 : S'.2 38 c = f + 1 := by rw [hF.2.2.2.2.1 c, if_pos rfl]
  have e40 : S'.2 40 c = rb := by rw [hF.2.2.2.2.2.2.1 c, if_pos rfl]
  unfold wX4_putShape
  intro _ _ _
  refine b_isField h33 (by omega) c0 c6 f0 ⟨⟨by decide, by decide⟩, fun h => absurd h (by decide), fun _ => ⟨by omega, by omega, ⟨by omega, by omega⟩, fun S1 h1 => ⟨c0, c6, fun _ => ?_⟩⟩⟩
  have b := bits (g := 0) hb (⟨f0, by omega⟩ : iv 0 3 f) ⟨by decide, by decide⟩
  have e2 : S1.2 40 c = rb := by
    rw [h1, (pA_ne 40 (by decide)).2]
    exact e40
  rw [e2]
  refine ⟨fun h => ⟨c0, c6, ⟨by rw [b.2.2]; omega, by rw [b.2.2]; omega⟩, fun S2 h2 => ?_⟩, fun h => ⟨c0, c6, ⟨by have := b.2.1; omega, by have := b.2.1; omega⟩, fun S2 h2 => ?_⟩⟩
  · rw [b.2.2] at h2
    have h3 : ¬ kd = 2 := by omega
    rw [h2, h1]
    refine hK _ ?_ Pl.rf rfl ((pA_ne 34 (by decide)).2.trans (pA_ne 34 (by decide)).2) ((pA_ne 35 (by decide)).2.trans (pA_ne 35 (by decide)).2)
    rw [if_neg h3]
    exact hF.p36.p40
  · have h3 : kd = 2 := by omega
    rw [h2, h1]
    refine hK _ ?_ Pl.rf rfl ((pA_ne 34 (by decide)).2.trans (pA_ne 34 (by decide)).2) ((pA_ne 35 (by decide)).2.trans (pA_ne 35 (by decide)).2)
    rw [if_pos h3]
    exact hF.p36.p40
/-- marks -/
theorem c_mark (hX : TX T n) (hT : cTx S' T n) (hp : S'.1 200 2 = q + 2) (h0 : 0 ≤ q) (h33 : nC e < S'.1 33 8) (c0 : 0 ≤ nC e) (c6 : nC e < 6) (f0 : 0 ≤ nF e) (f4 : nF e < 4) (gI : rng (eI e (nC e))) (hkd : kd = qK (T (q + 1))) (hd : iv 0 3 kd) (hF : FS S S' (nC e) (nF e) (kd + 1) 0 (eI e (nC e)) rb) (hK : ∀ S2, FS S S2 (nC e) (nF e) (kd + 1) (if kd ≤ 1 ∧ qM T e q = 1 then 1 else 0) (if kd = 3 ∧ qM T e q = 1 then nF e else eI e (nC e)) rb → S2.1 200 2 = q + 2 + qM T e q → S2.2 34 = S'.2 34 → S2.2 35 = S'.2 35 → K 1 S2) : ((kd + 1 = 1 → wX0_isFieldRight_81 (nC e) (nF e) (kd + 1) S' K) ∧ ((¬ (kd + 1 = 1)) → ((¬ kd + 1 = 2 → wX0_isFieldRight_86 (nC e) (nF e) (kd + 1) 0 S' K) ∧ ((¬ (¬ kd + 1 = 2)) → wX0_isFieldRight_81 (nC e) (nF e) (kd + 1) S' K)))) := by
  have e38 : S'.2 38 (nC e) = nF e + 1 := by rw [hF.2.2.2.2.1 _, if_pos rfl]
  have e39 : S'.2 39 (nC e) = eI e (nC e) := by rw [hF.2.2.2.2.2.1 _, if_pos rfl]
  have gc : rng (nC e) := ⟨by omega, by omega⟩
  have gf : rng (nF e) := ⟨by omega, by omega⟩
  have m0 : qM T e q = 0 → K 1 S' := fun h => by
    refine hK S' ?_ (by rw [hp]; omega) rfl rfl
    rw [if_neg (fun y => by have := y.2; omega), if_neg (fun y => by have := y.2; omega)]
    exact hF
  have hM : qM T e q = if (T (q + 2) = 64 ∧ kd ≤ 1) ∨ (T (q + 2) = 42 ∧ kd = 3 ∧ eI e (nC e) = -1) then 1 else 0 := by
    rw [hkd]
    rfl
  have r114 : ¬ (T (q + 2) = 64 ∧ kd ≤ 1) → wX0_isFieldRight_114 (nC e) (nF e) (kd + 1) S' K := fun h64 => by
    refine ⟨⟨by omega, by omega⟩, fun h => m0 ?_, fun h => ⟨gc, b_impl h33 c0 c6 ?_⟩⟩
    · rw [hM, if_neg (by omega)]
    · rw [e39]
      refine ⟨?_, fun h2 => m0 ?_, fun h2 => c_sk hX hT hp (by omega) (by decide) (fun h3 => ⟨⟨by decide, by decide⟩, fun h4 => absurd h4 (by decide), fun _ => ⟨gf, ?_⟩⟩) (fun h3 => ⟨⟨by decide, by decide⟩, fun _ => m0 ?_, fun h4 => absurd rfl h4⟩)⟩
      · exact gI
      · rw [hM, if_neg (by omega)]
      · have m1 : qM T e q = 1 := by rw [hM, if_pos (by omega)]
        unfold wX4_putImplicit
        intro _ _
        refine b_isField (by exact h33) (by show nF e < S'.2 38 (nC e); omega) c0 c6 f0 ⟨⟨by decide, by decide⟩, fun h => absurd h (by decide), fun _ => ⟨c0, c6, ⟨by omega, by omega⟩, fun S6 h6 => ?_⟩⟩
        rw [h6]
        refine hK _ ?_ (by rw [m1]; rfl) (pA_ne 34 (by decide)).2 (pA_ne 35 (by decide)).2
        rw [if_neg (fun y => by have := y.1; omega), if_pos ⟨by omega, m1⟩]
        exact (hF.mv pI_pl Lt.rf).p39
      · rw [hM, if_neg (by omega)]
  have r86 : kd ≤ 1 → wX0_isFieldRight_86 (nC e) (nF e) (kd + 1) 1 S' K := fun h1 => by
    refine ⟨⟨by decide, by decide⟩, fun h => absurd h (by decide), fun _ => c_sk hX hT hp (by omega) (by decide) (fun h3 => ⟨⟨by decide, by decide⟩, fun h4 => absurd h4 (by decide), fun _ => ⟨gc, gf, ?_⟩⟩) (fun h3 => ⟨⟨by decide, by decide⟩, fun _ => r114 (fun y => h3 y.1), fun h4 => absurd rfl h4⟩)⟩
    have m1 : qM T e q = 1 := by rw [hM, if_pos (by omega)]
    unfold wX4_putAttribute
    intro _ _
    refine b_isField (by exact h33) (by show nF e < S'.2 38 (nC e); omega) c0 c6 f0 ⟨⟨by decide, by decide⟩, fun h => absurd h (by decide), fun _ => ⟨by omega, by omega, fun S6 h6 => ?_⟩⟩
    rw [h6]
    refine hK _ ?_ (by rw [m1]; rfl) (pA_ne 34 (by decide)).2 (pA_ne 35 (by decide)).2
    rw [if_pos ⟨by omega, m1⟩, if_neg (fun y => by have := y.1; omega)]
    exact (hF.mv pI_pl Lt.rf).p37
  refine ⟨fun h => r86 (by omega), fun h => ⟨fun h2 => ⟨⟨by decide, by decide⟩, fun _ => r114 (by omega), fun h4 => absurd rfl h4⟩, fun h2 => r86 (by omega)⟩⟩
theorem c_field (hX : TX T n) (hT : cTx S T n) (hP : cP S e) (hV : PV e) (hp : S.1 200 2 = p) (h0 : 0 ≤ p) (hc : 1 ≤ eC e) (hf : nF e < 4) (hK : ∀ S', Cq S S' → S'.1 200 2 = (qF T e p).2.1 → ((qF T e p).2.2 = 1 → cP S' (qF T e p).1) → K (qF T e p).2.2 S') : wX0_isFieldRight (nC e) (nF e) S K := by
  have okn : okC e (nC e) := ⟨by unfold nC; omega, by unfold nC; omega⟩
  have v := hV.2.1 (nC e) okn
  have hn : iv 0 4 (nF e) := v.1
  have hC : iv 0 5 (nC e) := by
    have := hV.1
    unfold nC
    exact ⟨by omega, by omega⟩
  have hb : iv 0 15 (S.2 40 (nC e)) := (hP.2.1 (nC e) okn).2.2.2.1
  unfold wX0_isFieldRight
  intro _ _
  refine c_begF hP hV hc hf (fun S1 F1 s1 z1 => ?_)
  unfold wX4_fieldName
  intro _ _
  refine ⟨⟨by omega, by omega⟩, ?_⟩
  have t1 := hT.cq F1.cq
  refine c_name hX t1 (by rw [s1]; exact hp) h0 ⟨by omega, by omega⟩ z1 (fun hr => ⟨⟨by decide, by decide⟩, fun _ => ?_, fun h => absurd rfl h⟩) (fun S2 p2 l2 q2 r2 w2 hr => ⟨⟨by decide, by decide⟩, fun h => absurd h (by decide), fun _ => ?_⟩)
  · have eF1 : qF T e p = (e, p, 0) := by
      unfold qF
      rw [if_pos hr]
    rw [eF1] at hK
    exact hK S1 F1.cq (by rw [s1]; exact hp) (fun h => absurd (show (0 : Int) = 1 from h) (by decide))
  have F2 := F1.mv p2 l2
  have t2 := hT.cq F2.cq
  obtain ⟨q, hq⟩ : ∃ q, q = p + ((qR T p).length : Int) := ⟨_, rfl⟩
  rw [← hq] at q2
  have eF1 : qF T e p = if T q = 58 then (if qK (T (q + 1)) = -1 then (e, q + 1, 0) else (eAF e (qR T p) (qK (T (q + 1))) (qM T e q), q + 2 + qM T e q, 1)) else (e, q, 0) := by
    unfold qF
    rw [if_neg hr, hq]
  refine c_sk hX t2 q2 (by omega) (by decide) (fun h3 => ⟨⟨by decide, by decide⟩, fun _ => ?_, fun h4 => absurd h4 (by decide)⟩) (fun h3 => ⟨⟨by decide, by decide⟩, fun h4 => absurd rfl h4, fun _ => ?_⟩)
  · rw [if_pos h3] at eF1
    have F3 : FS S (pI S2 200 2 (q + 1)) (nC e) (nF e) 0 0 (eI e (nC e)) (S.2 40 (nC e)) := F2.mv pI_pl Lt.rf
    have t3 := hT.cq F3.cq
    have hq1 : q < n := hX.in (by omega)
    have hn1 := hX.1
    intro _
    refine c_at (p := q + 1) hX t3 (by omega) ⟨?_, c_shape ⟨?_, fun h4 _ => ⟨?_, fun S4 h5 => ?_⟩, fun h4 => ?_⟩⟩
    · have := hX.bd (p := q + 1) (by omega)
      exact ⟨by omega, by omega⟩
    · have := qK_iv (T (q + 1))
      exact ⟨by omega, by omega⟩
    · show iv _ _ (q + 1 + 1)
      exact ⟨by omega, by omega⟩
    · have h6 : ¬ qK (T (q + 1)) = -1 := by omega
      rw [if_neg h6] at eF1
      have hd : iv 0 3 (qK (T (q + 1))) := by
        have := qK_iv (T (q + 1))
        exact ⟨by omega, by omega⟩
      have F4 : FS S S4 (nC e) (nF e) 0 0 (eI e (nC e)) (S.2 40 (nC e)) := by
        rw [h5]
        exact F3.mv pI_pl Lt.rf
      have e33 : ∀ S', Pl S S' → nC e < S'.1 33 8 := fun S' h => by
        rw [h 33 8 (by decide), hP.1]
        unfold nC
        omega
      refine c_putShape F4 (e33 _ F4.1) hC.1 (by omega) hn.1 hf hb hd (fun S5 F5 p5 q5 k34 k35 => ?_)
      have p4 : S4.1 200 2 = q + 2 := by
        rw [h5]
        show q + 1 + 1 = q + 2
        omega
      refine c_mark hX (hT.cq F5.cq) (q5.trans p4) (by omega) (e33 _ F5.1) hC.1 (by omega) hn.1 hf ⟨by have := v.2.1; omega, by have := v.2.1; omega⟩ rfl hd F5 (fun S6 F6 q6 l34 l35 => ?_)
      have m34 : S6.2 34 = S2.2 34 := by
        rw [l34, k34, h5]
        rfl
      have m35 : S6.2 35 = S2.2 35 := by
        rw [l35, k35, h5]
        rfl
      rw [eF1] at hK
      refine hK S6 F6.cq q6 (fun _ => cP_AF hP hV hc hf hd F6 ?_ ?_)
      · rw [← r2]
        unfold cRow
        rw [m34, m35]
      · rw [m35]
        exact w2
    · have h6 : qK (T (q + 1)) = -1 := by omega
      rw [if_pos h6] at eF1
      rw [eF1] at hK
      exact hK _ F3.cq rfl (fun h => absurd (show (0 : Int) = 1 from h) (by decide))
  · rw [if_neg h3] at eF1
    rw [eF1] at hK
    exact hK S2 F2.cq q2 (fun h => absurd (show (0 : Int) = 1 from h) (by decide))
end FE

