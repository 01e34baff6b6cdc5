/-! WHAT ELEMENTS MEAN: the model: an object's attributes, an object's element -/
/-- behind an element x: what belongs to the others stays -/
def UF (x : Int) (S S' : St) : Prop := NF S S' ∧ S'.2 100 = S.2 100 ∧ S'.2 101 = S.2 101 ∧ ∀ y, ¬ y = x → S'.2 98 y = S.2 98 y ∧ S'.2 99 y = S.2 99 y ∧ S'.2 102 y = S.2 102 y
theorem UF.rf {x : Int} {S : St} : UF x S S := ⟨NF.rf, rfl, rfl, fun _ _ => ⟨rfl, rfl, rfl⟩⟩
theorem UF.tr {x : Int} {S S1 S2 : St} (h : UF x S S1) (g : UF x S1 S2) : UF x S S2 := ⟨h.1.tr g.1, g.2.1.trans h.2.1, g.2.2.1.trans h.2.2.1, fun y q => ⟨(g.2.2.2 y q).1.trans (h.2.2.2 y q).1, (g.2.2.2 y q).2.1.trans (h.2.2.2 y q).2.1, (g.2.2.2 y q).2.2.trans (h.2.2.2 y q).2.2⟩⟩
theorem BF.uf {x : Int} {S S' : St} (h : BF S S') : UF x S S' := ⟨h.nf, h.2.1 100 (by decide) (by decide), h.2.1 101 (by decide) (by decide), fun y _ => ⟨by rw [h.2.1 98 (by decide) (by decide)], by rw [h.2.1 99 (by decide) (by decide)], by rw [h.2.1 102 (by decide) (by decide)]⟩⟩
/-- where only pieces change -/
def PcF (S S' : St) : Prop := (∀ a, ¬ a = 104 → S'.2 a = S.2 a) ∧ ∀ a j, ¬ (a = 54 ∧ j = 67) → S'.1 a j = S.1 a j
theorem PcF.nf {S S' : St} (h : PcF S S') : NF S S' := ⟨h.2, fun a _ q => h.1 a (by omega), fun j _ => by rw [h.1 67 (by decide)], fun j _ => by rw [h.1 68 (by decide)], fun j _ => by rw [h.1 69 (by decide)], fun j _ => by rw [h.1 70 (by decide)]⟩
theorem PcF.uf {x : Int} {S S' : St} (h : PcF S S') : UF x S S' := ⟨h.nf, h.1 100 (by decide), h.1 101 (by decide), fun y _ => ⟨by rw [h.1 98 (by decide)], by rw [h.1 99 (by decide)], by rw [h.1 102 (by decide)]⟩⟩
theorem UF.p {x : Int} {S : St} {a : Nat} {v : Int} (h : a = 98 ∨ a = 99 ∨ a = 102) : UF x S (pA S a x v) := by
  have ne : ∀ (b : Nat) (y : Int), ¬ y = x → (pA S a x v).2 b y = S.2 b y := fun b y q => by
    by_cases hb : b = a
    · rw [hb, pA_if, if_neg q]
    · rw [(pA_ne b hb).2]
  exact ⟨NF.pa (by omega), (pA_ne 100 (by omega)).2, (pA_ne 101 (by omega)).2, fun y q => ⟨ne 98 y q, ne 99 y q, ne 102 y q⟩⟩
section NO
variable {S S' : St} {K : Int → St → Prop} {T W : Int → Int} {n x y o f v u c r p a b d i k z w q : Int} {X : Xs} {e : Env} {fb : Int → Int} {M M' : Mm} {L : List Int} {h h' : Hs}
theorem n_atts (hC : CNm T n X S) (hE : mE S e) (hV : EV e) (hX : XE e) (g : mH S e M.1) (hW : EW e M.1) (x0 : 0 ≤ x) (x1 : x < X.1.length) (ho : 0 ≤ M.2 1 x ∧ M.2 1 x < M.1.1) (hq : (q = 1 ∧ ¬ M.2 2 x = -1) ∨ (q = 0 ∧ M.2 2 x = -1)) (hid : ∀ y, 0 ≤ y → y < x → S.2 102 y = M.2 4 y) (hix : S.2 102 x = M.2 4 x) (hz : ∀ y, x ≤ y → M.2 4 y = 0) (hK : ∀ r S', UF x S S' → S'.2 98 = S.2 98 → S'.2 99 = S.2 99 → S'.2 103 = S.2 103 → ((r = 0 ∧ atS e T X x (xAc X x).toNat M (xAf X x) = none) ∨ (r = 1 ∧ ∃ M', atS e T X x (xAc X x).toNat M (xAf X x) = some M' ∧ mH S' e M'.1 ∧ EW e M'.1 ∧ S'.2 102 x = M'.2 4 x ∧ ∀ y, ¬ y = x → M'.2 4 y = M.2 4 y)) → K r S') : wX11_isObjectElement_245 x q (xAf X x) (xAc X x) (M.1.2.1 (M.2 1 x)) (M.2 1 x) 1 (xAf X x) S K := by
  have l := hC.len
  have h30 := hW.1
  have hc := hW.2.1 _ ho.1 ho.2
  have h6 := hV.2.1
  have c0 := hc.1
  have c1 := hc.2
  obtain ⟨-, -, -, -, -, -, g1, g2, g3⟩ := cn_e hC x0 x1
  have ku := hC.2.2.2.2.2.2.2.2.2.2
  refine ⟨fun l1 l2 l3 l4 l5 l6 l7 l8 S' => l1 = x ∧ l2 = q ∧ l3 = xAf X x ∧ l4 = xAc X x ∧ l5 = M.1.2.1 (M.2 1 x) ∧ l6 = M.2 1 x ∧ xAf X x ≤ l8 ∧ l8 ≤ xAf X x + xAc X x ∧ UF x S S' ∧ S'.2 98 = S.2 98 ∧ S'.2 99 = S.2 99 ∧ S'.2 103 = S.2 103 ∧ ((l7 = 1 ∧ ∃ M', AK e M M' ∧ (∀ y, ¬ y = x → M'.2 4 y = M.2 4 y) ∧ mH S' e M'.1 ∧ EW e M'.1 ∧ S'.2 102 x = M'.2 4 x ∧ (M'.2 4 x = 0 ∨ ∃ a', xAf X x ≤ a' ∧ a' < l8 ∧ kyA T X a' = ywI) ∧ atS e T X x (xAf X x + xAc X x - l8).toNat M' l8 = atS e T X x (xAc X x).toNat M (xAf X x)) ∨ (l7 = 0 ∧ atS e T X x (xAc X x).toNat M (xAf X x) = none)), fun l1 l2 l3 l4 l5 l6 l7 l8 S' => (xAf X x + xAc X x - l8).toNat, ⟨rfl, rfl, rfl, rfl, rfl, rfl, Int.le_refl _, by omega, UF.rf, rfl, rfl, rfl, Or.inl ⟨rfl, M, AK.rf, fun _ _ => rfl, g, hW, hix, Or.inl (hz x (Int.le_refl _)), by rw [show xAf X x + xAc X x - xAf X x = xAc X x by omega]⟩⟩, ?_⟩
  rintro l1 l2 l3 l4 l5 l6 l7 l8 S' ⟨rfl, rfl, rfl, rfl, rfl, rfl, h0, h1, hu, u98, u99, u103, h2⟩
  have hC' := hC.nf hu.1
  have hE' := hE.nf hV hu.1
  have r7 : iv 0 1 l7 := by
    rcases h2 with ⟨w, -⟩ | ⟨w, -⟩
    · rw [w]
      exact ⟨by decide, by decide⟩
    · rw [w]
      exact ⟨by decide, by decide⟩
  refine ⟨⟨by omega, by omega⟩, ⟨by omega, by omega⟩, fun z => ⟨r7, ?_⟩, fun z => ⟨⟨by omega, by omega⟩, fun z2 => ⟨r7, ?_⟩, fun z2 => ?_⟩⟩
  · rcases h2 with ⟨rfl, M', -, p2, p3, p4, p5, -, p7⟩ | ⟨rfl, p1⟩
    · rw [show (xAf X l1 + xAc X l1 - l8).toNat = 0 by omega] at p7
      exact hK 1 S' hu u98 u99 u103 (Or.inr ⟨rfl, M', p7.symm, p3, p4, p5, p2⟩)
    · exact hK 0 S' hu u98 u99 u103 (Or.inl ⟨rfl, p1⟩)
  · rcases h2 with ⟨w, -⟩ | ⟨rfl, p1⟩
    · omega
    · exact hK 0 S' hu u98 u99 u103 (Or.inl ⟨rfl, p1⟩)
  · rcases h2 with ⟨rfl, M', p1, p2, p3, p4, p5, p6, p7⟩ | ⟨w, -⟩
    rotate_left
    · exact absurd w z2
    have a0 : 0 ≤ l8 := by omega
    have a1 : l8 < X.2.1.length := by omega
    obtain ⟨⟨e92, e93, e94, e95⟩, k1, k2, k3, k4, k5, k6⟩ := cn_a hC' a0 a1
    have hM1 : M'.2 1 l1 = M.2 1 l1 := by rw [p1.2.2.2 1 (by decide)]
    have hM2 : M'.2 2 l1 = M.2 2 l1 := by rw [p1.2.2.2 2 (by decide)]
    have ho' : 0 ≤ M'.2 1 l1 ∧ M'.2 1 l1 < M'.1.1 := by rw [hM1, p1.1]; exact ho
    have hcc : M'.1.2.1 (M'.2 1 l1) = M.1.2.1 (M.2 1 l1) := by rw [p1.2.1, hM1]
    rw [show (xAf X l1 + xAc X l1 - l8).toNat = (xAf X l1 + xAc X l1 - (l8 + 1)).toNat + 1 by omega] at p7
    -- behind this attribute
    have go : ∀ r S2, UF l1 S' S2 → S2.2 98 = S'.2 98 → S2.2 99 = S'.2 99 → S2.2 103 = S'.2 103 → ((r = 0 ∧ atO e T X M' l1 l8 = none) ∨ (r = 1 ∧ ∃ M2, atO e T X M' l1 l8 = some M2 ∧ (∀ y, ¬ y = l1 → M2.2 4 y = M'.2 4 y) ∧ mH S2 e M2.1 ∧ EW e M2.1 ∧ S2.2 102 l1 = M2.2 4 l1 ∧ (M2.2 4 l1 = M'.2 4 l1 ∨ kyA T X l8 = ywI))) → wX11_isObjectElement_349 l1 l2 (xAf X l1) (xAc X l1) (M.1.2.1 (M.2 1 l1)) (M.2 1 l1) r l8 S2 K (fun ml1 ml2 ml3 ml4 ml5 ml6 ml7 ml8 T' => (ml1 = l1 ∧ ml2 = l2 ∧ ml3 = xAf X l1 ∧ ml4 = xAc X l1 ∧ ml5 = M.1.2.1 (M.2 1 l1) ∧ ml6 = M.2 1 l1 ∧ xAf X l1 ≤ ml8 ∧ ml8 ≤ xAf X l1 + xAc X l1 ∧ UF l1 S T' ∧ T'.2 98 = S.2 98 ∧ T'.2 99 = S.2 99 ∧ T'.2 103 = S.2 103 ∧ ((ml7 = 1 ∧ ∃ M', AK e M M' ∧ (∀ y, ¬ y = l1 → M'.2 4 y = M.2 4 y) ∧ mH T' e M'.1 ∧ EW e M'.1 ∧ T'.2 102 l1 = M'.2 4 l1 ∧ (M'.2 4 l1 = 0 ∨ ∃ a', xAf X l1 ≤ a' ∧ a' < ml8 ∧ kyA T X a' = ywI) ∧ atS e T X l1 (xAf X l1 + xAc X l1 - ml8).toNat M' ml8 = atS e T X l1 (xAc X l1).toNat M (xAf X l1)) ∨ (ml7 = 0 ∧ atS e T X l1 (xAc X l1).toNat M (xAf X l1) = none))) ∧ (xAf X l1 + xAc X l1 - ml8).toNat < (xAf X l1 + xAc X l1 - l8).toNat) := fun r S2 hu2 v98 v99 v103 hO => by
      unfold wX11_isObjectElement_349
      refine ⟨⟨rfl, rfl, rfl, rfl, rfl, rfl, by omega, by omega, hu.tr hu2, v98.trans u98, v99.trans u99, v103.trans u103, ?_⟩, by omega⟩
      rcases hO with ⟨rfl, hn⟩ | ⟨rfl, M2, hs, s1, s2, s3, s4, s5⟩
      · refine Or.inr ⟨rfl, ?_⟩
        rw [← p7]
        show (match atO e T X M' l1 l8 with | none => none | some M' => atS e T X l1 _ M' (l8 + 1)) = none
        rw [hn]
      · refine Or.inl ⟨rfl, M2, p1.tr (atO_keep hV (by rw [hcc]; exact hc) hs), fun y hy => (s1 y hy).trans (p2 y hy), s2, s3, s4, ?_, ?_⟩
        · rcases s5 with s5 | s5
          · rcases p6 with p6 | ⟨a', b1, b2, b3⟩
            · exact Or.inl (s5.trans p6)
            · exact Or.inr ⟨a', b1, by omega, b3⟩
          · exact Or.inr ⟨l8, h0, by omega, s5⟩
        · rw [← p7]
          show _ = (match atO e T X M' l1 l8 with | none => none | some M' => atS e T X l1 _ M' (l8 + 1))
          rw [hs]
    have hky : sbT T (gAt X l8).1 ((gAt X l8).1 + ((gAt X l8).2.1 - (gAt X l8).1)) = kyA T X l8 := by
      unfold kyA
      rw [show (gAt X l8).1 + ((gAt X l8).2.1 - (gAt X l8).1) = (gAt X l8).2.1 by omega]
    have hfd := fdN_ok (a := 1) hV hc (L := kyA T X l8)
    have h4 := hV.2.2.2.1 _ hc
    unfold atO at go
    rw [hcc, hM1, hM2] at go
    rw [e92, e93]
    refine ⟨a0, by omega, fun _ => ⟨a0, by omega, fun _ => ⟨⟨by omega, by omega⟩, n_fdN hC' hE' hV hX hc k1 (by omega) (by omega) ?_⟩⟩⟩
    rw [hky]
    have bad : atO e T X M' l1 l8 = none → wX11_isObjectElement_346 l1 l2 (xAf X l1) (xAc X l1) (M.1.2.1 (M.2 1 l1)) (M.2 1 l1) l8 S' K _ := fun hn => by
      unfold wX11_isObjectElement_346 wX11_isObjectElement_347
      refine go 0 S' UF.rf rfl rfl rfl (Or.inl ⟨rfl, ?_⟩)
      unfold atO at hn
      rw [hcc, hM1, hM2] at hn
      exact hn
    have nk : ¬ ywC = ywI := by decide
    have rl2 : rng l2 := by
      rcases hq with y | y
      · rw [y.1]
        exact ⟨by decide, by decide⟩
      · rw [y.1]
        exact ⟨by decide, by decide⟩
    by_cases w : fdN e 1 (M.1.2.1 (M.2 1 l1)) (kyA T X l8) = -1
    · have t322 : (kyA T X l8 = ywC → M.2 2 l1 = -1) → wX11_isObjectElement_322 l1 l2 (xAf X l1) (xAc X l1) (M.1.2.1 (M.2 1 l1)) (M.2 1 l1) l8 S' K _ := fun hcl => by
        unfold wX11_isObjectElement_322
        refine ⟨⟨by omega, by omega⟩, n_key hC' (w := 1) (Or.inr (Or.inl rfl)) a0 a1 (fun r hr => ?_)⟩
        have w1 : wds 1 = ywI := by decide
        rw [w1] at hr
        rcases hr with ⟨rfl, hr⟩ | ⟨rfl, hr⟩
        · have hnC : ¬ kyA T X l8 = ywC := fun y => nk (y.symm.trans hr)
          have hx0 : M'.2 4 l1 = 0 := by
            rcases p6 with p6 | ⟨a', b1, b2, b3⟩
            · exact p6
            · exact absurd (ku l1 a' l8 x0 x1 b1 (by omega) h0 (by omega) (b3.trans hr.symm)) (by omega)
          rw [if_neg hnC, if_pos hr] at go
          refine ⟨⟨by decide, by decide⟩, fun y => absurd y (by decide), fun _ => ⟨⟨by omega, by omega⟩, n_isId (M := M') hC' x0 x1 a0 a1 (fun y y0 y1 => ?_) (fun y y1 => ?_) (fun hb S2 hS2 => ?_) (fun hb => ?_)⟩⟩
          · rw [(hu.2.2.2 y (by omega)).2.2, p2 y (by omega)]
            exact hid y y0 y1
          · by_cases qy : y = l1
            · rw [qy]
              exact hx0
            · rw [p2 y qy]
              exact hz y y1
          · rw [if_pos hb] at go
            refine ⟨⟨by decide, by decide⟩, fun _ => ?_, fun y => absurd rfl y⟩
            unfold wX11_isObjectElement_346 wX11_isObjectElement_347
            rcases hS2 with rfl | rfl
            · exact go 0 _ UF.rf rfl rfl rfl (Or.inl ⟨rfl, rfl⟩)
            · exact go 0 _ (UF.p (by decide)) (pA_ne 98 (by decide)).2 (pA_ne 99 (by decide)).2 (pA_ne 103 (by decide)).2 (Or.inl ⟨rfl, rfl⟩)
          · rw [if_neg hb] at go
            refine ⟨⟨by decide, by decide⟩, fun y => absurd y (by decide), fun _ => ?_⟩
            unfold wX11_isObjectElement_342 wX11_isObjectElement_347
            refine go 1 _ (UF.p (by decide)) (pA_ne 98 (by decide)).2 (pA_ne 99 (by decide)).2 (pA_ne 103 (by decide)).2 (Or.inr ⟨rfl, _, rfl, fun y hy => if_neg (fun z => hy z.2), p3.tb (fun a b1 b2 => (pA_ne a (by omega)).2), p4, ?_, Or.inr hr⟩)
            rw [pA_if, if_pos rfl]
            exact (if_pos ⟨rfl, rfl⟩).symm
        · refine ⟨⟨by decide, by decide⟩, fun _ => ?_, fun y => absurd rfl y⟩
          unfold wX11_isObjectElement_346 wX11_isObjectElement_347
          refine go 0 S' UF.rf rfl rfl rfl (Or.inl ⟨rfl, ?_⟩)
          by_cases hC2 : kyA T X l8 = ywC
          · rw [if_pos hC2, if_pos (hcl hC2)]
          · rw [if_neg hC2, if_neg hr, if_pos w]
      rw [w]
      refine ⟨⟨by decide, by decide⟩, fun _ => ⟨rl2, fun y => ?_, fun y => n_key hC' (w := 0) (Or.inl rfl) a0 a1 (fun r hr => ?_)⟩, fun y => absurd rfl y⟩
      · exact t322 (fun _ => (hq.resolve_left (fun y2 => by omega)).2)
      · have w0 : wds 0 = ywC := by decide
        rw [w0] at hr
        rcases hr with ⟨rfl, hr⟩ | ⟨rfl, hr⟩
        · refine ⟨⟨by decide, by decide⟩, fun _ => ?_, fun y => absurd (by decide) y⟩
          have hq2 := (hq.resolve_right (fun y2 => y y2.1)).2
          rw [if_pos hr, if_neg hq2] at go
          unfold wX11_isObjectElement_342 wX11_isObjectElement_347
          exact go 1 S' UF.rf rfl rfl rfl (Or.inr ⟨rfl, M', rfl, fun _ _ => rfl, p3, p4, p5, Or.inl rfl⟩)
        · exact ⟨⟨by decide, by decide⟩, fun y => absurd rfl y, fun _ => t322 (fun y2 => absurd y2 hr)⟩
    · obtain ⟨f1, f2, f3⟩ := hfd.resolve_left w
      have f4 := okF4 hV f1
      have xn := hX.2.2.2.2.2.2 _ _ f1
      rw [f3] at xn
      rw [if_neg xn.1, if_neg xn.2.1, if_neg w] at go
      have hA := isA_le f2
      have hD := (hV.2.2.2.2.1 _ _ f1).1
      unfold mNg
      rw [if_neg w]
      refine ⟨⟨by omega, by omega⟩, fun y => absurd y (by omega), fun _ => n_pcV hC' a0 a1 (fun S2 s1 s2 s3 => ⟨⟨by omega, by omega⟩, ?_⟩)⟩
      have hpf : PcF S' S2 := ⟨s1, s2⟩
      have hE2 := hE'.nf hV hpf.nf
      have g2 : mH S2 e M'.1 := p3.tb (fun a b1 b2 => s1 a (by omega))
      have f1' : okF e (M'.1.2.1 (M.2 1 l1)) (fdN e 1 (M.1.2.1 (M.2 1 l1)) (kyA T X l8)) := by
        rw [p1.2.1]
        exact f1
      have vl := vlA_len hC' a0 a1
      refine n_become (L := vlA X l8) g2 hE2 hV p4 (by rw [p1.1]; exact ho) f1' (by rw [p1.2.1]; omega) s3 (by omega) (sgV_mem hC'.2.2.2.2.2.2.1 k4 k6) (fun hn S3 hb => ?_) (fun h3 S3 hs hb g3 w3 => ?_)
      · rw [hn] at go
        exact go 0 S3 (hpf.uf.tr hb.uf) (by rw [hb.2.1 98 (by decide) (by decide), s1 98 (by decide)]) (by rw [hb.2.1 99 (by decide) (by decide), s1 99 (by decide)]) (by rw [hb.2.1 103 (by decide) (by decide), s1 103 (by decide)]) (Or.inl ⟨rfl, rfl⟩)
      · rw [hs] at go
        exact go 1 S3 (hpf.uf.tr hb.uf) (by rw [hb.2.1 98 (by decide) (by decide), s1 98 (by decide)]) (by rw [hb.2.1 99 (by decide) (by decide), s1 99 (by decide)]) (by rw [hb.2.1 103 (by decide) (by decide), s1 103 (by decide)]) (Or.inr ⟨rfl, _, rfl, fun _ _ => rfl, g3, w3, by rw [hb.2.1 102 (by decide) (by decide), s1 102 (by decide)]; exact p5, Or.inl rfl⟩)
end NO

