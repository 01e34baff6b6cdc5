/-! WHAT ELEMENTS MEAN: the model: references, both rounds -/
section NX
variable {S S' : St} {K : Int → St → Prop} {T W : Int → Int} {n x y o f v u c r p a b d i z w q fl N A B s P t : Int} {X : Xs} {e : Env} {fb : Int → Int} {M M' M1 M2 : Mm} {L : List Int} {h h' : Hs}
theorem dwn_n1 : ∀ (k : Nat) (y a : Int), 0 ≤ y → dwn T X b k y a = -2 ∨ 0 ≤ dwn T X b k y a
  | 0, y, a, h0 => Or.inr h0
  | k + 1, y, a, h0 => by
    by_cases q : b < a
    · rw [dwn_e q]
      exact Or.inr h0
    · rw [dwn_s q]
      have cb : stC T X y a b = -1 ∨ (0 ≤ stC T X y a b ∧ stC T X y a b < X.1.length) := chd_b
      by_cases w : stC T X y a b = -1
      · rw [if_pos w]
        exact Or.inl rfl
      · rw [if_neg w]
        exact dwn_n1 k _ _ (by omega)
theorem upW_n1 (h : ∀ y : Int, 0 ≤ y → y < X.1.length → -1 ≤ xPr X y ∧ xPr X y < y) : ∀ (k : Nat) (y a : Int), 0 ≤ y → y < X.1.length → upW T X b k y a = -2 ∨ 0 ≤ upW T X b k y a
  | 0, y, a, h0, h1 => dwn_n1 3001 y a h0
  | k + 1, y, a, h0, h1 => by
    have hp := h y h0 h1
    unfold upW
    by_cases c1 : a + 2 ≤ b ∧ sgV X a = 46 ∧ sgV X (a + 1) = 46
    · rw [if_pos c1]
      by_cases c2 : xPr X y = -1
      · rw [if_pos c2]
        exact Or.inl rfl
      · rw [if_neg c2]
        by_cases c3 : a + 2 = b
        · rw [if_pos c3]
          exact Or.inr (by omega)
        · rw [if_neg c3]
          by_cases c4 : sgV X (a + 2) = 47
          · rw [if_pos c4]
            exact upW_n1 h k _ _ (by omega) (by omega)
          · rw [if_neg c4]
            exact Or.inl rfl
    · rw [if_neg c1]
      exact dwn_n1 3001 y a h0
theorem wyE_n1 (hC : CNm T n X S) (x0 : 0 ≤ x) (x1 : x < X.1.length) : (wyE T X x a b = -2 ∨ 0 ≤ wyE T X x a b) ∧ -2 ≤ wyE T X x a b ∧ wyE T X x a b < X.1.length := by
  have hpr : ∀ y : Int, 0 ≤ y → y < X.1.length → -1 ≤ xPr X y ∧ xPr X y < y := fun y y0 y1 => ⟨(cn_e hC y0 y1).2.2.2.2.1, (cn_e hC y0 y1).2.2.2.2.2.1⟩
  unfold wyE
  by_cases q : a < b ∧ sgV X a = 47
  · rw [if_pos q]
    refine ⟨?_, dwn_b (p := 0) (by decide) (by omega) 3001 (-1) (a + 1) (by decide) (by omega)⟩
    unfold dwA
    rw [dwn_s (by omega)]
    have cb : stC T X (-1) (a + 1) b = -1 ∨ (0 ≤ stC T X (-1) (a + 1) b ∧ stC T X (-1) (a + 1) b < X.1.length) := chd_b
    by_cases w : stC T X (-1) (a + 1) b = -1
    · rw [if_pos w]
      exact Or.inl rfl
    · rw [if_neg w]
      exact dwn_n1 3000 _ _ (by omega)
  · rw [if_neg q]
    exact ⟨upW_n1 hpr 3001 x a x0 x1, upW_b hpr 3001 x a x0 x1⟩
theorem n_tgt (hC : CNm T n X S) (x0 : 0 ≤ x) (x1 : x < X.1.length) (a1 : xAf X x < X.2.1.length) (hK : ∀ (t : Int) (S' : St), PcF S S' → (((gAt X (xAf X x)).2.2.1 < (gAt X (xAf X x)).2.2.2 ∧ isDg (sgV X (gAt X (xAf X x)).2.2.1) ∧ ((t = -2 ∧ (idV (vlA X (xAf X x)) = 0 ∨ ∀ k : Int, 0 ≤ k → k < X.1.length → ¬ (S.2 98 k = 4 ∧ S.2 102 k = idV (vlA X (xAf X x))))) ∨ (0 ≤ t ∧ t < X.1.length ∧ ¬ idV (vlA X (xAf X x)) = 0 ∧ S.2 98 t = 4 ∧ S.2 102 t = idV (vlA X (xAf X x))))) ∨ (¬ ((gAt X (xAf X x)).2.2.1 < (gAt X (xAf X x)).2.2.2 ∧ isDg (sgV X (gAt X (xAf X x)).2.2.1)) ∧ t = wyE T X x (gAt X (xAf X x)).2.2.1 (gAt X (xAf X x)).2.2.2)) → wX11_target_51 x t S' K) : wX11_target x S K := by
  have l := hC.len
  obtain ⟨⟨-, -, -, -, e90, -⟩, -, -, -, -, -, a0, -⟩ := cn_e hC x0 x1
  obtain ⟨-, -, -, -, k1, k2, k3⟩ := cn_a hC a0 a1
  have vl := vlA_len hC a0 a1
  have hvl : vlA X (xAf X x) = sbT (sgV X) (gAt X (xAf X x)).2.2.1 (gAt X (xAf X x)).2.2.2 := rfl
  obtain ⟨A, hA⟩ : ∃ A, A = (gAt X (xAf X x)).2.2.1 := ⟨_, rfl⟩
  obtain ⟨B, hB⟩ : ∃ B, B = (gAt X (xAf X x)).2.2.2 := ⟨_, rfl⟩
  rw [← hA, ← hB] at hK vl hvl k2
  rw [← hA] at k1
  rw [← hB] at k3
  unfold wX11_target
  refine fun _ => ⟨x0, by omega, fun _ => ?_⟩
  rw [e90]
  refine n_pcV hC a0 a1 (fun S4 s1 s2 s3 => ?_)
  have pf : PcF S S4 := ⟨s1, s2⟩
  have hC4 := hC.nf pf.nf
  have h30 : (vlA X (xAf X x)).length ≤ 3000 := by omega
  have f98 : S4.2 98 = S.2 98 := s1 98 (by decide)
  have f102 : S4.2 102 = S.2 102 := s1 102 (by decide)
  refine n_pAt s3 hvl k2 h30 (by decide) ?_
  rw [show A + 0 = A by omega]
  have hb : iv (-1) 126 (if A < B then sgV X A else -1) := by
    by_cases w : A < B
    · rw [if_pos w]
      exact hC.sgb
    · rw [if_neg w]
      exact ⟨by decide, by decide⟩
  refine ⟨⟨by omega, by omega⟩, n_isDg (fun r hr => ?_)⟩
  rcases hr with ⟨rfl, hd⟩ | ⟨rfl, hd⟩
  · have hAB : A < B := by
      by_cases w : A < B
      · exact w
      · rw [if_neg w] at hd
        have h2 : (48 : Int) ≤ -1 := hd.1
        omega
    rw [if_pos hAB] at hd
    refine ⟨⟨by decide, by decide⟩, fun w => absurd w (by decide), fun _ => n_withId hC4 s3 h30 (fun t ht => ?_)⟩
    rw [f98, f102] at ht
    exact hK t S4 pf (Or.inl ⟨hAB, hd, ht⟩)
  · have hnd : ¬ (A < B ∧ isDg (sgV X A)) := fun w => hd (by rw [if_pos w.1]; exact w.2)
    refine ⟨⟨by decide, by decide⟩, fun _ => ⟨fun w => ?_, fun w => ?_⟩, fun w => absurd rfl w⟩
    · have h47 : ¬ (A < B ∧ sgV X A = 47) := fun y => w (by rw [if_pos y.1]; exact y.2)
      refine n_way hC4 s3 hvl k1 k2 k3 x0 x1 (hK _ S4 pf (Or.inr ⟨hnd, ?_⟩))
      unfold wyE
      rw [if_neg h47]
    · have w := Classical.not_not.mp w
      have hAB : A < B := by
        by_cases y : A < B
        · exact y
        · rw [if_neg y] at w
          omega
      rw [if_pos hAB] at w
      have st := n_steps (y := -1) (a := 1) (K := fun r15 S16 => wX11_target_51 x r15 S16 K) hC4 s3 hvl k1 k2 k3 (by decide) (by omega) (by decide) (by omega) (hK _ S4 pf (Or.inr ⟨hnd, by
        unfold wyE
        rw [if_pos ⟨hAB, w⟩]⟩))
      have em : mNg (-1) = -2 := by decide
      rw [em] at st
      exact st
/-- the second round's state -/
def PL (T : Int → Int) (n : Int) (X : Xs) (e : Env) (fb : Int → Int) (M : Mm) (S : St) : Prop := CNm T n X S ∧ mE S e ∧ (∀ c, okC e c → S.2 61 c = fb c) ∧ mH S e M.1 ∧ EH e M.1 ∧ (∀ y : Int, 0 ≤ y → y < X.1.length → mRw T X e fb M S y) ∧ TI e M X.1.length ∧ IDU X.1.length M
theorem mRw.role (h : mRw T X e fb M S y) : (S.2 98 y = 4 ↔ M.2 0 y = 1) ∧ (S.2 98 y = 5 ↔ M.2 0 y = 4) := by
  obtain ⟨-, h1, h2, h3, h4, h5, h6⟩ := h
  rcases (show M.2 0 y = 1 ∨ M.2 0 y = 2 ∨ M.2 0 y = 3 ∨ M.2 0 y = 4 by omega) with w | w | w | w
  · have := (h1 w).1
    omega
  · have := (h2 w).1
    omega
  · have := (h3 w).1
    omega
  · have := (h4 w).1
    omega
theorem n_leads (hP : PL T n X e fb M S) (hV : EV e) (hX : XE e) (x0 : 0 ≤ x) (x1 : x < X.1.length) (hr : M.2 0 x = 4) (hK : ∀ r S', NF S S' → ((r = 0 ∧ ldE e T X M x = none) ∨ (r = 1 ∧ ∃ M', ldE e T X M x = some M' ∧ PL T n X e fb M' S')) → K r S') : wX11_leads x S K := by
  have hP0 := hP
  obtain ⟨hC, hE, hf, g, hH, hRw, hI, hU⟩ := hP
  have l := hC.len
  have h6 := hV.2.1
  have h30 := hH.1
  obtain ⟨-, -, -, -, r4, -, -⟩ := hRw x x0 x1
  obtain ⟨m98, m100, m101, hfr, hcl⟩ := r4 hr
  obtain ⟨o0, o1, hfF, h4⟩ := (hI x x0 x1).2.2.1 hr
  have f4 := okF4 hV hfF
  obtain ⟨⟨-, e86, e87, -, -, -⟩, s1, s2, s3, -, -, a0, a2, a3⟩ := cn_e hC x0 x1
  have a1 : xAf X x < X.2.1.length := by
    have := hfr.1
    omega
  have nm : sbT T ((gE X x).1 + 1) ((gE X x).1 + 1 + ((gE X x).2.1 - ((gE X x).1 + 1))) = nmE T X x := by
    unfold nmE
    rw [show (gE X x).1 + 1 + ((gE X x).2.1 - ((gE X x).1 + 1)) = (gE X x).2.1 by omega]
  have lde : ldE e T X M x = (if tgE T X M x < 0 ∨ x ≤ tgE T X M x ∨ ¬ M.2 0 (tgE T X M x) = 1 then none else if M.2 3 x = -1 then some (zV M.1 (M.2 1 x) (M.2 2 x) (M.2 1 (tgE T X M x)), M.2) else if eL e (M.1.2.1 (M.2 1 (tgE T X M x))) = nmE T X x then some (zC M.1 (M.2 1 x) (M.2 2 x) (M.2 3 x) (M.2 1 (tgE T X M x)), M.2) else none) := by
    unfold ldE
    rw [if_neg (fun w => w hfr)]
  rw [lde] at hK
  unfold wX11_leads
  refine fun _ => n_tgt hC x0 x1 a1 (fun t S2 pf ht => ?_)
  have hC2 := hC.nf pf.nf
  have hE2 := hE.nf hV pf.nf
  have hf2 : ∀ c, okC e c → S2.2 61 c = fb c := fun c hc => by
    rw [pf.1 61 (by decide)]
    exact hf c hc
  have g2 : mH S2 e M.1 := g.tb (fun a b1 b2 => pf.1 a (by omega))
  have f98 : S2.2 98 = S.2 98 := pf.1 98 (by decide)
  have f99 : S2.2 99 = S.2 99 := pf.1 99 (by decide)
  have f100 : S2.2 100 x = 4 * (60 + M.2 1 x) + M.2 2 x := by rw [pf.1 100 (by decide)]; exact m100
  have f101 : S2.2 101 x = mNg (M.2 3 x) := by rw [pf.1 101 (by decide)]; exact m101
  -- what t is
  have key : (t = -2 ∧ tgE T X M x < 0) ∨ (0 ≤ t ∧ t < X.1.length ∧ tgE T X M x = t) := by
    unfold tgE
    rcases ht with ⟨c1, c2, c3⟩ | ⟨c1, c2⟩
    · rw [if_pos ⟨c1, c2⟩]
      obtain ⟨v, hv⟩ : ∃ v, v = idV (vlA X (xAf X x)) := ⟨_, rfl⟩
      rw [← hv] at c3 ⊢
      unfold wId
      rcases c3 with ⟨c3, c4⟩ | ⟨c3, c4, c5, c6, c7⟩
      · refine Or.inl ⟨c3, ?_⟩
        by_cases w : v = 0
        · rw [if_pos w]
          decide
        · rw [if_neg w]
          rcases fnd_or (P := fun k => decide (M.2 4 k = v)) X.1.length 0 with ⟨w1, -⟩ | ⟨w1, w2, w3, -⟩
          · omega
          · exfalso
            rw [decide_eq_true_eq] at w3
            obtain ⟨k, hk⟩ : ∃ k, k = fnd (fun k => decide (M.2 4 k = v)) X.1.length 0 := ⟨_, rfl⟩
            rw [← hk] at w1 w2 w3
            have rw1 := hRw k w1 (by omega)
            have id1 := hU.2 k (by rw [w3]; exact w)
            exact (c4.resolve_left w) k w1 (by omega) ⟨rw1.role.1.mpr id1.1, rw1.1.trans w3⟩
      · refine Or.inr ⟨c3, c4, ?_⟩
        rw [if_neg c5]
        have rw1 := hRw t c3 c4
        have e1 : M.2 4 t = v := rw1.1.symm.trans c7
        exact (fun w => by
          have := fnd_one (N := (X.1.length : Int)) (i := t) (P := fun k => decide (M.2 4 k = v)) (fun i j i0 i1 j0 j1 hi hj => by
            rw [decide_eq_true_eq] at hi hj
            exact hU.1 i j (hi.trans hj.symm) (by rw [hi]; exact c5)) c3 c4 (decide_eq_true e1)
          rw [show ((X.1.length : Int)).toNat = X.1.length by omega] at this
          exact this) trivial
    · rw [if_neg c1]
      obtain ⟨n1, n2, n3⟩ := wyE_n1 (a := (gAt X (xAf X x)).2.2.1) (b := (gAt X (xAf X x)).2.2.2) hC x0 x1
      rw [← c2] at n1 n2 n3 ⊢
      rcases n1 with n1 | n1
      · exact Or.inl ⟨n1, by omega⟩
      · exact Or.inr ⟨n1, n3, rfl⟩
  have bad : (tgE T X M x < 0 ∨ x ≤ tgE T X M x ∨ ¬ M.2 0 (tgE T X M x) = 1) → K 0 S2 := fun w => by
    rw [if_pos w] at hK
    exact hK 0 S2 pf.nf (Or.inl ⟨rfl, rfl⟩)
  unfold wX11_target_51
  rcases key with ⟨k1, k2⟩ | ⟨k1, k2, k3⟩
  · rw [k1]
    exact ⟨⟨by decide, by decide⟩, fun _ => ⟨⟨by decide, by decide⟩, fun w => absurd rfl w, fun _ => bad (Or.inl k2)⟩, fun w => absurd rfl w⟩
  · rw [k3] at hK bad
    rw [f98]
    refine ⟨⟨by omega, by omega⟩, fun w => absurd w (by omega), fun _ => ⟨⟨by omega, by omega⟩, fun w => ⟨⟨by decide, by decide⟩, fun y => absurd rfl y, fun _ => bad (Or.inr (Or.inl w))⟩, fun w => ⟨k1, by omega, fun _ => ⟨fun w2 => ⟨⟨by decide, by decide⟩, fun y => absurd rfl y, fun _ => bad (Or.inr (Or.inr (fun y => w2 ((hRw t k1 k2).role.1.mpr y))))⟩, fun w2 => ?_⟩⟩⟩⟩
    have rt : M.2 0 t = 1 := (hRw t k1 k2).role.1.mp (Classical.not_not.mp w2)
    rw [if_neg (fun y => by rcases y with y | y | y; omega; omega; exact y rt)] at hK
    have t99 : S2.2 99 t = M.2 1 t := by
      rw [f99]
      exact ((hRw t k1 k2).2.1 rt).2
    obtain ⟨t0, t1⟩ := (hI t k1 k2).1 rt
    have hc := hH.2.1 _ t0 t1
    have c0 := hc.1
    have c1 := hc.2
    have rows : ∀ S3 : St, (∀ a, 98 ≤ a → a ≤ 102 → S3.2 a = S2.2 a) → ∀ y : Int, 0 ≤ y → y < X.1.length → mRw T X e fb M S3 y := fun S3 h3 y y0 y1 => by
      have := hRw y y0 y1
      unfold mRw at this ⊢
      rw [h3 98 (by decide) (by decide), h3 99 (by decide) (by decide), h3 100 (by decide) (by decide), h3 101 (by decide) (by decide), h3 102 (by decide) (by decide), pf.1 98 (by decide), pf.1 99 (by decide), pf.1 100 (by decide), pf.1 101 (by decide), pf.1 102 (by decide)]
      exact this
    refine ⟨⟨by omega, by omega⟩, fun _ => ⟨x0, by omega, fun _ x7 e7 => ?_⟩, fun y => absurd (show ¬ t = -2 by omega) y⟩
    rw [f100] at e7
    rw [e7]
    -- the field or the cell is set
    have t73 : (¬ M.2 3 x = -1 → eL e (M.1.2.1 (M.2 1 t)) = nmE T X x) → wX11_leads_73 x t (4 * (60 + M.2 1 x) + M.2 2 x) S2 K := fun hn => by
      unfold wX11_leads_73 wX11_leads_105
      rw [f101, t99]
      refine ⟨⟨by omega, by omega⟩, fun y => absurd y (by omega), fun _ => ⟨x0, by omega, fun _ => ⟨fun y => ?_, fun y => ?_⟩⟩⟩
      · have np : ¬ M.2 3 x = -1 := fun z => y (by unfold mNg; rw [if_pos z])
        have em : mNg (M.2 3 x) = M.2 3 x := if_neg np
        rw [em]
        obtain ⟨k3', v0, v1⟩ := h4.resolve_left (fun z => np z.1)
        have v8 := ((hH.2.2 _ _ o0 o1 hfF).2.2.2 k3').1
        rw [if_neg np, if_pos (hn np)] at hK
        refine ⟨⟨by omega, by omega⟩, fun z => absurd z (by omega), fun _ => ⟨x0, by omega, fun _ => ⟨k1, by omega, fun _ => ⟨by omega, by omega, ⟨by omega, by omega⟩, fun S8 e8 => ?_⟩⟩⟩⟩
        have nf8 : NF S S8 := by
          rw [e8]
          exact pf.nf.tr (NF.p70 (by omega))
        refine hK 1 S8 nf8 (Or.inr ⟨rfl, _, rfl, hC.nf nf8, hE.nf hV nf8, fun c hc => by rw [nf8.2.1 61 (by decide) (by decide)]; exact hf c hc, by rw [e8]; exact mH_C g2 hV hH.ew hfF v0 (by omega), EH_C hH k3' (Or.inr ⟨t0, t1⟩), rows S8 (fun a b1 b2 => by rw [e8, (pA_ne a (by omega)).2]), hI, hU⟩)
      · have np : M.2 3 x = -1 := by
          have y := Classical.not_not.mp y
          unfold mNg at y
          by_cases z : M.2 3 x = -1
          · exact z
          · rw [if_neg z] at y
            rcases h4 with w4 | ⟨-, w4, -⟩
            · exact w4.1
            · omega
        have k2' : eD e (M.1.2.1 (M.2 1 x)) (M.2 2 x) = 2 := by
          rcases h4 with w4 | ⟨-, w4, -⟩
          · exact w4.2
          · omega
        rw [if_pos np] at hK
        refine ⟨k1, by omega, fun _ => ⟨by omega, by omega, ⟨by omega, by omega⟩, fun S9 e9 => ?_⟩⟩
        have nf9 : NF S S9 := by
          rw [e9]
          exact pf.nf.tr (NF.p69 (by omega))
        have hI' : TI e (zV M.1 (M.2 1 x) (M.2 2 x) (M.2 1 t), M.2) X.1.length := by
          have q : ldE e T X M x = some (zV M.1 (M.2 1 x) (M.2 2 x) (M.2 1 t), M.2) := by
            rw [lde, k3, if_neg (fun y => by rcases y with y | y | y; omega; omega; exact y rt), if_pos np]
          exact (ldE_ok hI x0 x1 hr q).2
        refine hK 1 S9 nf9 (Or.inr ⟨rfl, _, rfl, hC.nf nf9, hE.nf hV nf9, fun c hc => by rw [nf9.2.1 61 (by decide) (by decide)]; exact hf c hc, by rw [e9]; exact mH_V g2 hV hfF (Or.inr k2'), EH_V hH ⟨o0, o1⟩ (Or.inr ⟨k2', t0, t1⟩), rows S9 (fun a b1 b2 => by rw [e9, (pA_ne a (by omega)).2]), hI', hU⟩)
    refine ⟨fun y => absurd y (by omega), fun _ => ⟨x0, by omega, fun _ => ?_⟩⟩
    rw [f101]
    refine ⟨fun y => t73 (fun z => ?_), fun y => ⟨x0, by omega, fun _ => ⟨x0, by omega, fun _ => ?_⟩⟩⟩
    · exfalso
      unfold mNg at y
      rw [if_neg z] at y
      rcases h4 with w4 | ⟨-, w4, -⟩
      · exact z w4.1
      · omega
    · have np : ¬ M.2 3 x = -1 := fun z => y (by unfold mNg; rw [if_pos z])
      have g86 : S2.2 86 x = (gE X x).1 + 1 := by rw [pf.1 86 (by decide)]; exact e86
      have g87 : S2.2 87 x = (gE X x).2.1 - ((gE X x).1 + 1) := by rw [pf.1 87 (by decide)]; exact e87
      rw [g86, g87]
      refine n_clN hC2 hE2 hV hX hf2 (by omega) (by omega) (by omega) ?_
      rw [nm, t99]
      have ncl := hcl np
      obtain ⟨d1, d2, d3⟩ := (clN_ok (fb := fb) hV (L := nmE T X x)).resolve_left ncl
      have d10 := d1.1
      have d11 := d1.2
      have em : mNg (clN e fb (nmE T X x)) = clN e fb (nmE T X x) := if_neg ncl
      have e68 := g2.2.1 _ t0 t1
      rw [em, e68]
      refine ⟨k1, by omega, fun _ => ⟨by omega, by omega, fun _ => ⟨⟨by omega, by omega⟩, fun z => t73 (fun _ => by rw [← z]; exact d2), fun z => ?_⟩⟩⟩
      rw [if_neg np, if_neg (fun y2 => z (hX.2.1 _ _ d1 hc (d2.trans y2.symm)))] at hK
      exact hK 0 S2 pf.nf (Or.inl ⟨rfl, rfl⟩)
end NX

