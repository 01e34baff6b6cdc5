/-! WHAT ELEMENTS MEAN: the model, all of it -/
section NY
variable {S S' : St} {K : Int → St → Prop} {T W : Int → Int} {n x y o f v u c r p a b d i z w q fl N A B s P t : Int} {X : Xs} {e : Env} {fb : Int → Int} {M M' M1 M2 : Mm} {L : List Int} {h h' : Hs}
theorem n_rn2 (hP : PL T n X e fb M S) (hV : EV e) (hX : XE e) (hK0 : rn2 e T X X.1.length M 0 = none → ∀ (r : Int) S', NF S S' → 0 ≤ r → r < X.1.length → K r S') (hK : ∀ M' S', rn2 e T X X.1.length M 0 = some M' → NF S S' → PL T n X e fb M' S' → K (-2) S') : wX11_meaningless_35 0 S K := by
  have l := hP.1.len
  refine ⟨fun l1 S' => 0 ≤ l1 ∧ l1 ≤ X.1.length ∧ NF S S' ∧ ∃ M', PL T n X e fb M' S' ∧ rn2 e T X ((X.1.length : Int) - l1).toNat M' l1 = rn2 e T X X.1.length M 0, fun l1 S' => ((X.1.length : Int) - l1).toNat, ⟨by decide, by omega, NF.rf, M, hP, by rw [show ((X.1.length : Int) - 0).toNat = X.1.length by omega]⟩, ?_⟩
  rintro l1 S' ⟨h0, h1, hm, M1, p1, p3⟩
  intro _
  rw [p1.1.len.2.2.2.2.2.1]
  refine ⟨⟨by omega, by omega⟩, fun z => ?_, fun z => ?_⟩
  · rw [show ((X.1.length : Int) - l1).toNat = 0 by omega] at p3
    exact hK M1 S' p3.symm hm p1
  · have x1 : l1 < X.1.length := by omega
    have rl := (p1.2.2.2.2.2.1 l1 h0 x1).role.2
    rw [show ((X.1.length : Int) - l1).toNat = ((X.1.length : Int) - (l1 + 1)).toNat + 1 by omega] at p3
    have p3 : (if M1.2 0 l1 = 4 then (match ldE e T X M1 l1 with | none => none | some M' => rn2 e T X ((X.1.length : Int) - (l1 + 1)).toNat M' (l1 + 1)) else rn2 e T X ((X.1.length : Int) - (l1 + 1)).toNat M1 (l1 + 1)) = rn2 e T X X.1.length M 0 := p3
    refine ⟨h0, by omega, fun _ => ⟨fun w => ?_, fun w => ?_⟩⟩
    · rw [if_neg (fun y => w (rl.mpr y))] at p3
      unfold wX11_meaningless_63
      refine ⟨⟨by omega, by omega, hm, M1, p1, p3⟩, ?_⟩
      show ((X.1.length : Int) - (l1 + 1)).toNat < ((X.1.length : Int) - l1).toNat
      omega
    · have w := rl.mp (Classical.not_not.mp w)
      rw [if_pos w] at p3
      refine n_leads p1 hV hX h0 x1 w (fun r S3 m3 hO => ?_)
      rcases hO with ⟨rfl, hn⟩ | ⟨rfl, M2, hs, hP2⟩
      · rw [hn] at p3
        exact ⟨⟨by decide, by decide⟩, fun w => absurd rfl w, fun _ => hK0 p3.symm l1 S3 (hm.tr m3) h0 x1⟩
      · rw [hs] at p3
        refine ⟨⟨by decide, by decide⟩, fun _ => ?_, fun w => absurd (by decide) w⟩
        unfold wX11_meaningless_63
        refine ⟨⟨by omega, by omega, hm.tr m3, M2, hP2, p3⟩, ?_⟩
        show ((X.1.length : Int) - (l1 + 1)).toNat < ((X.1.length : Int) - l1).toNat
        omega
/-- the root alone, a reference: it leads nowhere -/
theorem n_root (hC : CNm T n X S) (hl : X.1.length = 1) (h98 : S.2 98 0 = 5) (a1 : xAf X 0 < X.2.1.length) (hK : ∀ S', NF S S' → K 0 S') : wX11_meaningless_35 0 S K := by
  have l := hC.len
  refine ⟨fun l1 S' => l1 = 0 ∧ S' = S, fun _ _ => 0, ⟨rfl, rfl⟩, ?_⟩
  rintro l1 S' ⟨rfl, rfl⟩
  intro _
  rw [l.2.2.2.2.2.1, h98]
  refine ⟨⟨by decide, by decide⟩, fun z => absurd z (by omega), fun _ => ⟨by decide, by decide, fun _ => ⟨fun w => absurd rfl w, fun _ => ?_⟩⟩⟩
  unfold wX11_leads
  refine fun _ => n_tgt hC (by decide) (by omega) a1 (fun t S2 pf ht => ?_)
  have tb : t = -2 ∨ 0 ≤ t := by
    rcases ht with ⟨-, -, c3⟩ | ⟨-, c2⟩
    · rcases c3 with ⟨c3, -⟩ | ⟨c3, -⟩
      · exact Or.inl c3
      · exact Or.inr c3
    · rw [c2]
      exact (wyE_n1 hC (by decide) (by omega)).1
  have tu : t < 200 := by
    rcases ht with ⟨-, -, c3⟩ | ⟨-, c2⟩
    · rcases c3 with ⟨c3, -⟩ | ⟨-, c3, -⟩
      · omega
      · omega
    · rw [c2]
      have := (wyE_n1 (a := (gAt X (xAf X 0)).2.2.1) (b := (gAt X (xAf X 0)).2.2.2) hC (by decide) (show (0 : Int) < X.1.length by omega)).2.2
      omega
  unfold wX11_target_51
  refine ⟨⟨by omega, by omega⟩, fun _ => ⟨⟨by decide, by decide⟩, fun w => absurd rfl w, fun _ => ⟨⟨by decide, by decide⟩, fun w => absurd rfl w, fun _ => hK S2 pf.nf⟩⟩, fun w => ⟨⟨by decide, by decide⟩, fun _ => ⟨⟨by decide, by decide⟩, fun w => absurd rfl w, fun _ => ⟨⟨by decide, by decide⟩, fun w => absurd rfl w, fun _ => hK S2 pf.nf⟩⟩, fun w2 => absurd (by omega) w2⟩⟩
/-- the model reads what elements mean -/
theorem n_mean (hC : CNm T n X S) (hE : mE S e) (hV : EV e) (hX : XE e) (hf : ∀ c, okC e c → S.2 61 c = fb c) (hK : ∀ (r : Int) S', NF S S' → ((r = -2 ∧ ∃ M', mng e T X fb = some M' ∧ mH S' e M'.1 ∧ EH e M'.1) ∨ (0 ≤ r ∧ r < X.1.length ∧ mng e T X fb = none)) → K r S') : wX11_meaningless S K := by
  have l := hC.len
  unfold wX11_meaningless
  refine ⟨by decide, by decide, fun S2 e2 => ?_⟩
  have nf2 : NF S S2 := by
    rw [e2]
    exact ⟨fun _ _ _ => rfl, fun b q _ => (pA_ne b (by omega)).2, fun j q => by rw [pA_if, if_neg q], fun j _ => by rw [(pA_ne 68 (by decide)).2], fun j _ => by rw [(pA_ne 69 (by decide)).2], fun j _ => by rw [(pA_ne 70 (by decide)).2]⟩
  have hH0 : EH e (m0 e).1 := ⟨⟨by show (0 : Int) ≤ 0; decide, by show (0 : Int) ≤ 30; decide⟩, fun o o0 o1 => absurd o1 (by show ¬ o < 0; omega), fun o f o0 o1 => absurd o1 (by show ¬ o < 0; omega)⟩
  have hP : PNm T n X e fb (m0 e) 0 S2 := by
    refine ⟨hC.nf nf2, hE.nf hV nf2, fun c hc => by rw [nf2.2.1 61 (by decide) (by decide)]; exact hf c hc, ⟨by rw [e2, pA_if, if_pos rfl]; rfl, fun o o0 o1 => absurd o1 (by show ¬ o < 0; omega), fun o f o0 o1 => absurd o1 (by show ¬ o < 0; omega), fun o f i o0 o1 => absurd o1 (by show ¬ o < 0; omega)⟩, hH0, fun y y0 y1 => by omega, fun o f o0 o1 => absurd o1 (by show ¬ o < 0; omega), fun i _ => by show ¬ (0 : Int) = 1; decide, fun _ _ => rfl, fun o f o0 o1 => absurd o1 (by show ¬ o < 0; omega)⟩
  have hI0 : TI e (m0 e) 0 := fun y y0 y1 => by omega
  have hU0 : IDU X.1.length (m0 e) := ⟨fun i j _ hi => absurd rfl hi, fun i hi => absurd rfl hi⟩
  -- no meaning
  have non : ∀ (r : Int) S', NF S S' → 0 ≤ r → r < X.1.length → mng e T X fb = none → K r S' := fun r S' m r0 r1 hn => hK r S' m (Or.inr ⟨r0, r1, hn⟩)
  have mg0 : rn1 e T X fb X.1.length (m0 e) 0 = none → mng e T X fb = none := fun w => by
    unfold mng
    rw [w]
  have mg1 : ∀ M1, rn1 e T X fb X.1.length (m0 e) 0 = some M1 → mng e T X fb = rn2 e T X X.1.length M1 0 := fun M1 w => by
    unfold mng
    rw [w]
  refine ⟨fun l1 S' => 0 ≤ l1 ∧ l1 ≤ X.1.length ∧ NF S S' ∧ ((∃ M', PNm T n X e fb M' l1 S' ∧ TI e M' l1 ∧ IDU X.1.length M' ∧ rn1 e T X fb ((X.1.length : Int) - l1).toNat M' l1 = rn1 e T X fb X.1.length (m0 e) 0) ∨ (l1 = 1 ∧ X.1.length = 1 ∧ mng e T X fb = none ∧ CNm T n X S' ∧ S'.2 98 0 = 5 ∧ xAf X 0 < X.2.1.length)), fun l1 S' => ((X.1.length : Int) - l1).toNat, ⟨by decide, by omega, nf2, Or.inl ⟨m0 e, hP, hI0, hU0, by rw [show ((X.1.length : Int) - 0).toNat = X.1.length by omega]⟩⟩, ?_⟩
  rintro l1 S' ⟨h0, h1, hm, hJ⟩
  rcases hJ with ⟨M1, p1, p2, p3, p4⟩ | ⟨j1, j2, j3, j4, j5, j6⟩
  rotate_left
  · intro _
    rw [j4.len.2.2.2.2.2.1]
    refine ⟨⟨by omega, by omega⟩, fun _ => n_root j4 j2 j5 j6 (fun S3 m3 => non 0 S3 (hm.tr m3) (by decide) (by omega) j3), fun w => absurd (by omega) w⟩
  · intro _
    rw [p1.1.len.2.2.2.2.2.1]
    refine ⟨⟨by omega, by omega⟩, fun w => ?_, fun w => ?_⟩
    · have e1 : l1 = X.1.length := by omega
      rw [show ((X.1.length : Int) - l1).toNat = 0 by omega] at p4
      rw [e1] at p1 p2
      have mg := mg1 M1 p4.symm
      have hPL : PL T n X e fb M1 S' := ⟨p1.1, p1.2.1, p1.2.2.1, p1.2.2.2.1, p1.2.2.2.2.1, p1.2.2.2.2.2.1, p2, p3⟩
      refine n_rn2 hPL hV hX (fun hn r S3 m3 r0 r1 => non r S3 (hm.tr m3) r0 r1 (mg.trans hn)) (fun M3 S3 hs m3 hP3 => hK (-2) S3 (hm.tr m3) (Or.inl ⟨rfl, M3, mg.trans hs, hP3.2.2.2.1, hP3.2.2.2.2.1⟩))
    · have x1 : l1 < X.1.length := by omega
      rw [show ((X.1.length : Int) - l1).toNat = ((X.1.length : Int) - (l1 + 1)).toNat + 1 by omega] at p4
      have p4 : (match stM e T X fb M1 l1 with | none => none | some M' => rn1 e T X fb ((X.1.length : Int) - (l1 + 1)).toNat M' (l1 + 1)) = rn1 e T X fb X.1.length (m0 e) 0 := p4
      have r12 : 0 ≤ xPr X l1 → M1.2 0 (xPr X l1) = 1 ∨ M1.2 0 (xPr X l1) = 2 := fun w2 => by
        have hp := (cn_e p1.1 h0 x1).2.2.2.2.2.1
        obtain ⟨-, -, -, q3, q4, q5, q6⟩ := p1.2.2.2.2.2.1 _ w2 hp
        have kd : xKd X (xPr X l1) = true := xKd_iff.mpr ⟨l1.toNat, by omega, rfl⟩
        rcases (show M1.2 0 (xPr X l1) = 1 ∨ M1.2 0 (xPr X l1) = 2 ∨ M1.2 0 (xPr X l1) = 3 ∨ M1.2 0 (xPr X l1) = 4 by omega) with y | y | y | y
        · exact Or.inl y
        · exact Or.inr y
        · rw [(q3 y).2] at kd
          cases kd
        · rw [(q4 y).2.2.2.1.2.1] at kd
          cases kd
      -- a bad reference
      have hbad : bdE T X l1 → mng e T X fb = none := fun hb => by
        cases hs : stM e T X fb M1 l1 with
        | none =>
          rw [hs] at p4
          exact mg0 p4.symm
        | some M2 =>
          rw [hs] at p4
          have p4 : rn1 e T X fb ((X.1.length : Int) - (l1 + 1)).toNat M2 (l1 + 1) = rn1 e T X fb X.1.length (m0 e) 0 := p4
          cases hr : rn1 e T X fb X.1.length (m0 e) 0 with
          | none => exact mg0 hr
          | some M3 =>
            rw [hr] at p4
            obtain ⟨e1, e2'⟩ := stM_EH p1.1 hV p1.2.2.2.2.1 p2 h0 x1 hs
            have b4 := bad_4 p1.1 hV hX p1.2.2.2.2.1 p2 h0 x1 hb r12 hs
            have rr := rn1_row (d := l1) p1.1 hV _ M2 (l1 + 1) e1 e2' (by omega) (by omega) (by omega) p4
            rw [mg1 M3 hr]
            exact rn2_bad hb.2 X.1.length M3 0 (by rw [rr]; exact b4) h0 (by omega)
      refine n_has p1 hV hX p2 h0 x1 (fun r S3 m3 hO => ?_)
      rcases hO with ⟨rfl, hO⟩ | ⟨rfl, hnb, M2, hs, hP2, hI2⟩ | ⟨rfl, hs, hx, hl, h98, haf⟩
      · refine ⟨⟨by decide, by decide⟩, fun w => absurd rfl w, fun _ => non l1 S3 (hm.tr m3) h0 x1 ?_⟩
        rcases hO with hO | hO
        · rw [hO] at p4
          exact mg0 p4.symm
        · exact hbad hO
      · rw [hs] at p4
        refine ⟨⟨by decide, by decide⟩, fun _ => ⟨⟨by omega, by omega, hm.tr m3, Or.inl ⟨M2, hP2, hI2, stM_idu h0 x1 p3 (p1.2.2.2.2.2.2.2.2.1 l1 (Int.le_refl _)) hs, p4⟩⟩, ?_⟩, fun w => absurd (by decide) w⟩
        show ((X.1.length : Int) - (l1 + 1)).toNat < ((X.1.length : Int) - l1).toNat
        omega
      · rw [hs] at p4
        refine ⟨⟨by decide, by decide⟩, fun _ => ⟨⟨by omega, by omega, hm.tr m3, Or.inr ⟨by omega, hl, mg0 p4.symm, hC.nf (hm.tr m3), h98, haf⟩⟩, ?_⟩, fun w => absurd (by decide) w⟩
        show ((X.1.length : Int) - (l1 + 1)).toNat < ((X.1.length : Int) - l1).toNat
        omega
end NY

