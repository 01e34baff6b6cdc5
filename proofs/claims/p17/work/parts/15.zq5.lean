/-! THE MODEL READS CLASSES: a class; what is mixed -/
section MO1
variable {S S' S0 : St} {K : Int → St → Prop} {T : Int → Int} {n p q x : Int} {e : Env} {nm : List Int}
theorem m_one (hX : TX T n) (hT : mTx S T n) (hP : mP S e) (hV : PV e) (hc : eC e < 6) (hp : S.1 54 22 = p) (h0 : 0 ≤ p) (hpn : p ≤ n) (hw : S.1 54 23 = 0) (hK : ∀ S', Mp S S' → S'.1 54 22 = (qO T e p).2.1 → S'.1 54 23 = 1 - (qO T e p).2.2 → ((qO T e p).2.2 = 1 → mP S' (qO T e p).1) → K 0 S') : wX11_oneClass (eC e) S K := by
  have v1 := hV.1
  have hn := hX.1
  have hqn := qR_in hX hpn
  have h8 := qR_8 (T := T) (p := p)
  -- the loop over the fields
  have loop : ∀ (l2 : Int) (S1 : St), Mp S S1 → ((l2 = 1 ∧ S1.1 54 23 = 0 ∧ ∃ e' p', S1.1 54 22 = p' ∧ 0 ≤ p' ∧ p' ≤ n ∧ mP S1 e' ∧ PV e' ∧ eC e' = eC e + 1 ∧ nF e' < 4 ∧ qO T e p = qFs T (4 - nF e').toNat e' p') ∨ (l2 = 0 ∧ S1.1 54 23 = 0 ∧ ∃ e' p', S1.1 54 22 = p' ∧ 0 ≤ p' ∧ p' ≤ n ∧ mP S1 e' ∧ PV e' ∧ qO T e p = qE T e' p') ∨ (l2 = 0 ∧ S1.1 54 23 = 1 ∧ S1.1 54 22 = (qO T e p).2.1 ∧ (qO T e p).2.2 = 0)) → wX11_oneClass_54 (eC e) l2 S1 K := fun l2 S1 hM hS => by
    refine ⟨fun l1 l2 S1 => l1 = eC e ∧ Mp S S1 ∧ ((l2 = 1 ∧ S1.1 54 23 = 0 ∧ ∃ e' p', S1.1 54 22 = p' ∧ 0 ≤ p' ∧ p' ≤ n ∧ mP S1 e' ∧ PV e' ∧ eC e' = eC e + 1 ∧ nF e' < 4 ∧ qO T e p = qFs T (4 - nF e').toNat e' p') ∨ (l2 = 0 ∧ S1.1 54 23 = 0 ∧ ∃ e' p', S1.1 54 22 = p' ∧ 0 ≤ p' ∧ p' ≤ n ∧ mP S1 e' ∧ PV e' ∧ qO T e p = qE T e' p') ∨ (l2 = 0 ∧ S1.1 54 23 = 1 ∧ S1.1 54 22 = (qO T e p).2.1 ∧ (qO T e p).2.2 = 0)), fun l1 l2 S1 => if l2 = 0 then 0 else (5 - S1.2 62 l1).toNat, ⟨rfl, hM, hS⟩, ?_⟩
    clear hS hM l2 S1
    intro l1 l2 S1 hI
    obtain ⟨i1, hM, hS⟩ := hI
    rw [i1]
    have t1 := hT.mp hM
    rcases hS with ⟨z, w1, e', p', p1, p2, p3, P', V', c', f', r'⟩ | ⟨z, w1, e', p', p1, p2, p3, P', V', r'⟩ | ⟨z, w1, p1, r1⟩
    · rw [z]
      have ec : nC e' = eC e := by
        unfold nC
        omega
      have okn : okC e' (nC e') := ⟨by omega, by omega⟩
      have e62 : S1.2 62 (eC e) = nF e' := by
        have := P'.1 (nC e') okn
        rw [ec] at this
        rw [this]
        show _ = eF e' (nC e')
        rw [ec]
      have hnF : iv 0 4 (nF e') := (V'.2.1 (nC e') okn).1
      refine ⟨⟨by decide, by decide⟩, fun h => absurd h (by decide), fun _ => ⟨v1.1, hc, fun _ => ⟨⟨by omega, by omega⟩, ?_⟩⟩⟩
      rw [e62, ← ec]
      have hs : (4 - nF e').toNat = (4 - (nF e' + 1)).toNat + 1 := by omega
      rw [hs] at r'
      have r2 : qO T e p = if (qF T e' p').2.2 = 0 then qF T e' p' else if (4 - (nF e' + 1)).toNat ≠ 0 ∧ T (qF T e' p').2.1 = 44 then qFs T (4 - (nF e' + 1)).toNat (qF T e' p').1 ((qF T e' p').2.1 + 1) else qE T (qF T e' p').1 (qF T e' p').2.1 := r'
      clear r'
      obtain ⟨⟨o1, o2⟩, o3⟩ := qF_ok hX V' p2 p3 (by omega) f'
      refine m_fieldK hX t1 P' V' (by omega) f' p1 p2 p3 w1 (fun S2 M2 k62 p22 w2 P2 => ?_)
      rw [k62, ec, e62]
      refine ⟨v1.1, hc, fun _ => ⟨v1.1, hc, ⟨by omega, by omega⟩, fun S3 e3 => ?_⟩⟩
      have M3 : Mp S S3 := (hM.tr M2).tr (by rw [e3]; exact ⟨Ml.rf, fun a q => (pA_ne a (by omega)).2⟩)
      have w3 : S3.1 54 23 = S2.1 54 23 := by rw [e3]; rfl
      have p33 : S3.1 54 22 = (qF T e' p').2.1 := by rw [e3]; exact p22
      have k3 : S3.2 62 (eC e) = nF e' + 1 := by rw [e3, pA_if, if_pos rfl]
      have back : ∀ (s a : Int), rng s → iv 0 3000 a → (s = 0 → a = S3.1 54 22) → (¬ s = 0 → a = S3.1 54 22 + 1) → (∀ S4, S4 = pI S3 54 22 a → ((s = 1 ∧ S4.1 54 23 = 0 ∧ ∃ e' p', S4.1 54 22 = p' ∧ 0 ≤ p' ∧ p' ≤ n ∧ mP S4 e' ∧ PV e' ∧ eC e' = eC e + 1 ∧ nF e' < 4 ∧ qO T e p = qFs T (4 - nF e').toNat e' p') ∨ (s = 0 ∧ S4.1 54 23 = 0 ∧ ∃ e' p', S4.1 54 22 = p' ∧ 0 ≤ p' ∧ p' ≤ n ∧ mP S4 e' ∧ PV e' ∧ qO T e p = qE T e' p') ∨ (s = 0 ∧ S4.1 54 23 = 1 ∧ S4.1 54 22 = (qO T e p).2.1 ∧ (qO T e p).2.2 = 0))) → wX11_oneClass_114 (eC e) s S3 K (fun ml1 ml2 T' => ((ml1 = eC e ∧ Mp S T' ∧ ((ml2 = 1 ∧ T'.1 54 23 = 0 ∧ ∃ e' p', T'.1 54 22 = p' ∧ 0 ≤ p' ∧ p' ≤ n ∧ mP T' e' ∧ PV e' ∧ eC e' = eC e + 1 ∧ nF e' < 4 ∧ qO T e p = qFs T (4 - nF e').toNat e' p') ∨ (ml2 = 0 ∧ T'.1 54 23 = 0 ∧ ∃ e' p', T'.1 54 22 = p' ∧ 0 ≤ p' ∧ p' ≤ n ∧ mP T' e' ∧ PV e' ∧ qO T e p = qE T e' p') ∨ (ml2 = 0 ∧ T'.1 54 23 = 1 ∧ T'.1 54 22 = (qO T e p).2.1 ∧ (qO T e p).2.2 = 0))) ∧ (if ml2 = 0 then 0 else (5 - T'.2 62 ml1).toNat) < (if (1 : Int) = 0 then 0 else (5 - S1.2 62 (eC e)).toNat))) := fun s a gs ga a0 a1 hh => by
        have en : ∀ S4, S4 = pI S3 54 22 a → (((eC e = eC e ∧ Mp S S4 ∧ ((s = 1 ∧ S4.1 54 23 = 0 ∧ ∃ e' p', S4.1 54 22 = p' ∧ 0 ≤ p' ∧ p' ≤ n ∧ mP S4 e' ∧ PV e' ∧ eC e' = eC e + 1 ∧ nF e' < 4 ∧ qO T e p = qFs T (4 - nF e').toNat e' p') ∨ (s = 0 ∧ S4.1 54 23 = 0 ∧ ∃ e' p', S4.1 54 22 = p' ∧ 0 ≤ p' ∧ p' ≤ n ∧ mP S4 e' ∧ PV e' ∧ qO T e p = qE T e' p') ∨ (s = 0 ∧ S4.1 54 23 = 1 ∧ S4.1 54 22 = (qO T e p).2.1 ∧ (qO T e p).2.2 = 0))) ∧ (if s = 0 then 0 else (5 - S4.2 62 (eC e)).toNat) < (if (1 : Int) = 0 then 0 else (5 - S1.2 62 (eC e)).toNat))) := fun S4 e4 => by
          have k4 : S4.2 62 (eC e) = nF e' + 1 := by rw [e4]; exact k3
          refine ⟨⟨rfl, M3.tr (by rw [e4]; exact ⟨Ml.p22, fun _ _ => rfl⟩), hh S4 e4⟩, ?_⟩
          rw [k4, e62, if_neg (show ¬ (1 : Int) = 0 by decide)]
          split <;> omega
        refine ⟨gs, fun h _ => ?_, fun h _ => ?_⟩
        · rw [← a0 h]
          exact ⟨ga, en⟩
        · rw [← a1 h]
          exact ⟨ga, en⟩
      rw [w3, w2]
      rcases o3 with ok | ⟨ok, V2, c2, f2⟩
      · rw [ok]
        rw [if_pos ok] at r2
        refine fun _ => ⟨fun _ => back 0 (S3.1 54 22) ⟨by decide, by decide⟩ (by rw [p33]; exact ⟨by omega, by omega⟩) (fun _ => rfl) (fun h => absurd rfl h) (fun S4 e4 => Or.inr (Or.inr ⟨rfl, ?_, ?_, ?_⟩)), fun h => absurd (by decide) h⟩
        · rw [e4]
          show S3.1 54 23 = 1
          rw [w3, w2, ok]
          rfl
        · rw [e4, r2, ← p33]
          rfl
        · rw [r2]
          exact ok
      · rw [ok]
        rw [if_neg (by omega)] at r2
        have P3 : mP S3 (qF T e' p').1 := by
          rw [e3, ← ec]
          exact P2 ok
        have w30 : S3.1 54 23 = 0 := by
          rw [w3, w2, ok]
          rfl
        refine fun _ => ⟨fun h => absurd rfl h, fun _ => ⟨v1.1, hc, fun _ => ?_⟩⟩
        rw [k3]
        refine ⟨fun h => back 0 (S3.1 54 22) ⟨by decide, by decide⟩ (by rw [p33]; exact ⟨by omega, by omega⟩) (fun _ => rfl) (fun h => absurd rfl h) (fun S4 e4 => Or.inr (Or.inl ⟨rfl, ?_, _, _, ?_, ?_, o2, ?_, V2, ?_⟩)), fun h => ?_⟩
        · rw [e4]
          exact w30
        · rw [e4]
          exact p33
        · omega
        · rw [e4]
          exact P3
        · rw [r2, if_neg (fun y => y.1 (by omega))]
        rw [p33]
        intro _
        refine m_sg hX (hT.mp M3) (by omega) ⟨?_, fun h2 => back 0 (S3.1 54 22) ⟨by decide, by decide⟩ (by rw [p33]; exact ⟨by omega, by omega⟩) (fun _ => rfl) (fun h => absurd rfl h) (fun S4 e4 => Or.inr (Or.inl ⟨rfl, ?_, _, _, ?_, ?_, o2, ?_, V2, ?_⟩)), fun h2 => ?_⟩
        · have := mU_iv hX (p := (qF T e' p').2.1) (by omega)
          exact ⟨by omega, by omega⟩
        · rw [e4]
          exact w30
        · rw [e4]
          exact p33
        · omega
        · rw [e4]
          exact P3
        · rw [r2, if_neg (fun y => h2 ((mU_eq (by decide)).mpr y.2))]
        · have h44 : T (qF T e' p').2.1 = 44 := (mU_eq (by decide)).mp (Decidable.not_not.mp h2)
          have hin : (qF T e' p').2.1 < n := hX.in (by omega)
          refine back 1 (S3.1 54 22 + 1) ⟨by decide, by decide⟩ (by rw [p33]; exact ⟨by omega, by omega⟩) (fun h => absurd h (by decide)) (fun _ => rfl) (fun S4 e4 => Or.inl ⟨rfl, ?_, (qF T e' p').1, (qF T e' p').2.1 + 1, ?_, by omega, by omega, ?_, V2, by omega, by omega, ?_⟩)
          · rw [e4]
            exact w30
          · rw [e4, ← p33]
            rfl
          · rw [e4]
            exact P3
          · rw [r2, if_pos ⟨by omega, h44⟩, f2]
    · rw [z]
      refine ⟨⟨by decide, by decide⟩, fun _ => ?_, fun h => absurd rfl h⟩
      rw [w1]
      refine fun _ => ⟨fun h => absurd rfl h, fun _ => m_eat hX t1 p1 p2 w1 (by decide) (fun h S2 m2 a2 p22 w2 b2 => ?_) (fun h S2 m2 a2 p22 w2 => ?_)⟩
      · have rE : qE T e' p' = (e', p' + 1, 1) := by
          unfold qE
          rw [if_pos h]
        rw [r', rE] at hK
        refine hK S2 (hM.tr ⟨m2, fun _ _ => by rw [a2]⟩) p22 w2 (fun _ => ?_)
        obtain ⟨q1, q2, q3, q4, q5⟩ := P'
        refine ⟨by rw [a2]; exact q1, by rw [a2]; exact q2, fun k hk => ?_, by rw [b2]; exact q4, by rw [b2]; exact q5⟩
        unfold nN
        rw [a2]
        exact q3 k hk
      · have rE : qE T e' p' = (e', p', 0) := by
          unfold qE
          rw [if_neg h]
        rw [r', rE] at hK
        exact hK S2 (hM.tr ⟨m2, fun _ _ => by rw [a2]⟩) p22 w2 (fun h => absurd (show (0 : Int) = 1 from h) (by decide))
    · rw [z]
      refine ⟨⟨by decide, by decide⟩, fun _ => ?_, fun h => absurd rfl h⟩
      rw [w1]
      refine fun _ => ⟨fun _ => hK S1 hM p1 ?_ (fun h => ?_), fun h => absurd (by decide) h⟩
      · rw [w1, r1]
        rfl
      · rw [r1] at h
        exact absurd h (by decide)
  unfold wX11_oneClass
  intro _
  refine m_nameK hX hT hp h0 hpn ⟨v1.1, by omega⟩ (by decide) v1.1 (by omega) (fun j j1 j2 => ⟨by omega, ?_⟩) hP.2.2.2.1 (fun hr S5 m5 k5 p5 w5 => ?_) (fun hr hr2 S5 m5 k5 p5 w5 n5 l5 b5 b6 => ?_)
  · have o : okN e j := Or.inl ⟨j1, j2⟩
    rw [(hP.2.2.1 j o).1]
    have := (hV.2.2.2 j o).2
    exact ⟨by omega, by omega⟩
  · have eO1 : qO T e p = (e, p + (qR T p).length, 0) := by
      unfold qO
      rcases hr with hr | hr
      · rw [if_pos hr, hr]
        show (e, p, (0 : Int)) = (e, p + ((0 : Nat) : Int), 0)
        rw [show p + ((0 : Nat) : Int) = p by omega]
      · by_cases z : qR T p = []
        · rw [if_pos z, z]
          show (e, p, (0 : Int)) = (e, p + ((0 : Nat) : Int), 0)
          rw [show p + ((0 : Nat) : Int) = p by omega]
        · rw [if_neg z, if_neg (by omega)]
    rw [eO1] at hK
    refine ⟨v1.1, hc, fun S6 e6 => ?_⟩
    have M6 : Mp S S6 := by
      rw [e6]
      exact ⟨m5, fun a q => (pA_ne a (by omega)).2.trans (k5.1 a (by omega) (by omega))⟩
    have w6 : S6.1 54 23 = 1 := by rw [e6]; exact w5
    rw [w6]
    exact fun _ => ⟨fun h => absurd h (by decide), fun _ => hK S6 M6 (by rw [e6]; exact p5) w6 (fun h => absurd (show (0 : Int) = 1 from h) (by decide))⟩
  · obtain ⟨q, hq⟩ : ∃ q, q = p + ((qR T p).length : Int) := ⟨_, rfl⟩
    have eO1 : qO T e p = if T q = 40 then (if T (q + 1) = 41 then (eAC e (qR T p), q + 2, 1) else qFs T 4 (eAC e (qR T p)) (q + 1)) else (e, q, 0) := by
      unfold qO
      rw [if_neg hr, hq]
    rw [← hq] at p5 hqn
    have hl : 1 ≤ (qR T p).length := List.length_pos_iff.mpr hr
    have V2 : PV (eAC e (qR T p)) := PV_AC hV hc hl h8
    refine ⟨v1.1, hc, fun S6 e6 => ?_⟩
    have M6 : Mp S S6 := by
      rw [e6]
      exact ⟨m5, fun a q => (pA_ne a (by omega)).2.trans (k5.1 a (by omega) (by omega))⟩
    have w6 : S6.1 54 23 = 0 := by rw [e6]; exact w5.trans hw
    have P6 : mP S6 (eAC e (qR T p)) := by
      obtain ⟨q1, q2, q3, q4, q5⟩ := hP
      refine ⟨fun c hc' => ?_, fun c f hf => ?_, fun k hk => ?_, by rw [e6]; exact b5, ?_⟩
      · rw [e6, pA_if, eF_AC]
        by_cases z : c = eC e
        · rw [if_pos z, if_pos z]
        · rw [if_neg z, if_neg z, k5.1 62 (by decide) (by decide)]
          exact q1 c ((okC_AC hc').resolve_left z)
      · rw [e6, (pA_ne 65 (by decide)).2, (pA_ne 66 (by decide)).2, k5.1 65 (by decide) (by decide), k5.1 66 (by decide) (by decide), eD_AC, eM_AC]
        exact q2 c f (okF_AC hf).1
      · have en : nN S6 k = nN S5 k := by
          unfold nN
          rw [e6, (pA_ne 63 (by decide)).2, (pA_ne 64 (by decide)).2]
        rw [en, e6, (pA_ne 63 (by decide)).2]
        rcases okN_AC hV hc hk with z | ⟨z, z2⟩
        · rw [z, eR_AC1 hV]
          exact ⟨l5, n5⟩
        · obtain ⟨r1, r2⟩ := q3 k z
          have r3 := (hV.2.2.2 k z).2
          rw [eR_AC0 hV (okN_lt hV z) z2, k5.2.1 k z2, k5.row z2 (by rw [r1]; omega)]
          exact ⟨r1, r2⟩
      · rw [e6, brk_AC hV hc, ← q5]
        refine b6.trans ⟨fun y => ?_, fun y => ?_⟩
        · rcases y with y | ⟨j, j1, j2, j3⟩
          · exact Or.inl y
          · exact Or.inr ⟨j, j1, j2, by rw [← (q3 j (Or.inl ⟨j1, j2⟩)).2]; exact j3⟩
        · rcases y with y | ⟨j, j1, j2, j3⟩
          · exact Or.inl y
          · exact Or.inr ⟨j, j1, j2, by rw [(q3 j (Or.inl ⟨j1, j2⟩)).2]; exact j3⟩
    have ec : nC (eAC e (qR T p)) = eC e := by
      show eC e + 1 - 1 = eC e
      omega
    have ef : nF (eAC e (qR T p)) = 0 := by
      show eF (eAC e (qR T p)) (nC (eAC e (qR T p))) = 0
      rw [ec, eF_AC, if_pos rfl]
    have p6 : S6.1 54 22 = q := by rw [e6]; exact p5
    rw [w6]
    refine fun _ => ⟨fun _ => m_eat hX (hT.mp M6) p6 (by omega) w6 (by decide) (fun h40 S7 m7 a7 p7 w7 b7 => ?_) (fun h40 S7 m7 a7 p7 w7 => ?_), fun h => absurd rfl h⟩
    · rw [if_pos h40] at eO1
      have hq1 : q < n := hX.in (by omega)
      have M7 : Mp S S7 := M6.tr ⟨m7, fun _ _ => by rw [a7]⟩
      have P7 : mP S7 (eAC e (qR T p)) := by
        obtain ⟨q1, q2, q3, q4, q5⟩ := P6
        refine ⟨by rw [a7]; exact q1, by rw [a7]; exact q2, fun k hk => ?_, by rw [b7]; exact q4, by rw [b7]; exact q5⟩
        unfold nN
        rw [a7]
        exact q3 k hk
      rw [w7, p7]
      refine fun _ => ⟨fun h => absurd rfl h, fun _ _ => m_sg hX (hT.mp M7) (by omega) ⟨?_, fun h41 => loop 0 S7 M7 (Or.inr (Or.inl ⟨rfl, w7, _, _, p7, by omega, by omega, P7, V2, ?_⟩)), fun h41 => loop 1 S7 M7 (Or.inl ⟨rfl, w7, _, _, p7, by omega, by omega, P7, V2, rfl, by rw [ef]; decide, ?_⟩)⟩⟩
      · have := mU_iv hX (p := q + 1) (by omega)
        exact ⟨by omega, by omega⟩
      · have h2 : T (q + 1) = 41 := (mU_eq (by decide)).mp h41
        rw [eO1, if_pos h2]
        unfold qE
        rw [if_pos h2, show q + 1 + 1 = q + 2 by omega]
      · rw [eO1, if_neg (fun y => h41 ((mU_eq (by decide)).mpr y)), ef]
        rfl
    · rw [if_neg h40] at eO1
      have M7 : Mp S S7 := M6.tr ⟨m7, fun _ _ => by rw [a7]⟩
      rw [w7]
      refine fun _ => ⟨fun _ => loop 0 S7 M7 (Or.inr (Or.inr ⟨rfl, w7, ?_, ?_⟩)), fun h => absurd (by decide) h⟩
      · rw [eO1]
        exact p7
      · rw [eO1]
end MO1

