/-! READING: the model: what was read takes the place of what had been read -/
section YK
variable {S S' : St} {K : Int → St → Prop} {e : Env} {T : Int → Int} {n : Int} {X : Xs} {fb : Int → Int} {h : Hs}
theorem n_cp188 (hN : iv 0 30 (S.2 67 1)) (hK : ∀ S', S'.1 = S.1 → (∀ a, ¬ a = 70 → S'.2 a = S.2 a) → (∀ i, S'.2 70 i = if 2400 ≤ i ∧ i < 2400 + 80 * S.2 67 1 then S.2 70 (i + 2400) else S.2 70 i) → K (S.2 67 1) S') : wX11_read_188 0 S K := by
  have n0 := hN.1
  have n1 := hN.2
  refine ⟨fun l2 S' => 0 ≤ l2 ∧ l2 ≤ 80 * S.2 67 1 ∧ S'.1 = S.1 ∧ (∀ a, ¬ a = 70 → S'.2 a = S.2 a) ∧ ∀ i, S'.2 70 i = if 2400 ≤ i ∧ i < 2400 + l2 then S.2 70 (i + 2400) else S.2 70 i, fun l2 _ => (80 * S.2 67 1 - l2).toNat, ⟨by decide, by omega, rfl, fun _ _ => rfl, fun i => (if_neg (by omega)).symm⟩, ?_⟩
  rintro l2 S' ⟨h0, h1, q1, q2, q3⟩
  have e67 : S'.2 67 1 = S.2 67 1 := by rw [q2 67 (by decide)]
  unfold wX11_read_188'
  rw [e67]
  refine ⟨by decide, by decide, fun _ => ⟨⟨by omega, by omega⟩, ⟨by omega, by omega⟩, fun w => ⟨by decide, by decide, fun _ => hK S' q1 q2 (fun i => ?_)⟩, fun w => ⟨by omega, by omega, fun _ => ⟨by omega, by omega, fun S11 e11 => ⟨⟨by omega, by omega, by rw [e11]; exact q1, fun a ha => by rw [e11, (pA_ne a ha).2]; exact q2 a ha, fun i => ?_⟩, ?_⟩⟩⟩⟩⟩
  · rw [q3 i, show l2 = 80 * S.2 67 1 by omega]
  · have s : S'.2 70 (4800 + l2) = S.2 70 (4800 + l2) := by rw [q3, if_neg (by omega)]
    rw [e11, pA_if]
    by_cases c : i = 2400 + l2
    · rw [if_pos c, if_pos (by omega), s, c, show 2400 + l2 + 2400 = 4800 + l2 by omega]
    · rw [if_neg c, q3]
      by_cases c2 : 2400 ≤ i ∧ i < 2400 + l2
      · rw [if_pos c2, if_pos (by omega)]
      · rw [if_neg c2, if_neg (by omega)]
  · show (80 * S.2 67 1 - (l2 + 1)).toNat < (80 * S.2 67 1 - l2).toNat
    omega
theorem n_cp149 (hN : iv 0 30 (S.2 67 1)) (hK : ∀ S', S'.1 = S.1 → (∀ a, ¬ a = 69 → S'.2 a = S.2 a) → (∀ i, S'.2 69 i = if 120 ≤ i ∧ i < 120 + 4 * S.2 67 1 then S.2 69 (i + 120) else S.2 69 i) → wX11_read_188 0 S' K) : wX11_read_149 0 S K := by
  have n0 := hN.1
  have n1 := hN.2
  refine ⟨fun l2 S' => 0 ≤ l2 ∧ l2 ≤ 4 * S.2 67 1 ∧ S'.1 = S.1 ∧ (∀ a, ¬ a = 69 → S'.2 a = S.2 a) ∧ ∀ i, S'.2 69 i = if 120 ≤ i ∧ i < 120 + l2 then S.2 69 (i + 120) else S.2 69 i, fun l2 _ => (4 * S.2 67 1 - l2).toNat, ⟨by decide, by omega, rfl, fun _ _ => rfl, fun i => (if_neg (by omega)).symm⟩, ?_⟩
  rintro l2 S' ⟨h0, h1, q1, q2, q3⟩
  have e67 : S'.2 67 1 = S.2 67 1 := by rw [q2 67 (by decide)]
  unfold wX11_read_149'
  rw [e67]
  refine ⟨by decide, by decide, fun _ => ⟨⟨by omega, by omega⟩, ⟨by omega, by omega⟩, fun w => hK S' q1 q2 (fun i => ?_), fun w => ⟨by omega, by omega, fun _ => ⟨by omega, by omega, fun S9 e9 => ⟨⟨by omega, by omega, by rw [e9]; exact q1, fun a ha => by rw [e9, (pA_ne a ha).2]; exact q2 a ha, fun i => ?_⟩, ?_⟩⟩⟩⟩⟩
  · rw [q3 i, show l2 = 4 * S.2 67 1 by omega]
  · have s : S'.2 69 (240 + l2) = S.2 69 (240 + l2) := by rw [q3, if_neg (by omega)]
    rw [e9, pA_if]
    by_cases c : i = 120 + l2
    · rw [if_pos c, if_pos (by omega), s, c, show 120 + l2 + 120 = 240 + l2 by omega]
    · rw [if_neg c, q3]
      by_cases c2 : 120 ≤ i ∧ i < 120 + l2
      · rw [if_pos c2, if_pos (by omega)]
      · rw [if_neg c2, if_neg (by omega)]
  · show (4 * S.2 67 1 - (l2 + 1)).toNat < (4 * S.2 67 1 - l2).toNat
    omega
theorem n_cp113 (hN : iv 0 30 (S.2 67 1)) (hK : ∀ S', S'.1 = S.1 → (∀ a, ¬ a = 68 → S'.2 a = S.2 a) → (∀ i, S'.2 68 i = if 30 ≤ i ∧ i < 30 + S.2 67 1 then S.2 68 (i + 30) else S.2 68 i) → wX11_read_149 0 S' K) : wX11_read_113 0 S K := by
  have n0 := hN.1
  have n1 := hN.2
  refine ⟨fun l2 S' => 0 ≤ l2 ∧ l2 ≤ S.2 67 1 ∧ S'.1 = S.1 ∧ (∀ a, ¬ a = 68 → S'.2 a = S.2 a) ∧ ∀ i, S'.2 68 i = if 30 ≤ i ∧ i < 30 + l2 then S.2 68 (i + 30) else S.2 68 i, fun l2 _ => (S.2 67 1 - l2).toNat, ⟨by decide, by omega, rfl, fun _ _ => rfl, fun i => (if_neg (by omega)).symm⟩, ?_⟩
  rintro l2 S' ⟨h0, h1, q1, q2, q3⟩
  have e67 : S'.2 67 1 = S.2 67 1 := by rw [q2 67 (by decide)]
  unfold wX11_read_113'
  rw [e67]
  refine ⟨by decide, by decide, fun _ => ⟨⟨by omega, by omega⟩, fun w => hK S' q1 q2 (fun i => ?_), fun w => ⟨by omega, by omega, fun _ => ⟨by omega, by omega, fun S8 e8 => ⟨⟨by omega, by omega, by rw [e8]; exact q1, fun a ha => by rw [e8, (pA_ne a ha).2]; exact q2 a ha, fun i => ?_⟩, ?_⟩⟩⟩⟩⟩
  · rw [q3 i, show l2 = S.2 67 1 by omega]
  · have s : S'.2 68 (60 + l2) = S.2 68 (60 + l2) := by rw [q3, if_neg (by omega)]
    rw [e8, pA_if]
    by_cases c : i = 30 + l2
    · rw [if_pos c, if_pos (by omega), s, c, show 30 + l2 + 30 = 60 + l2 by omega]
    · rw [if_neg c, q3]
      by_cases c2 : 30 ≤ i ∧ i < 30 + l2
      · rw [if_pos c2, if_pos (by omega)]
      · rw [if_neg c2, if_neg (by omega)]
  · show (S.2 67 1 - (l2 + 1)).toNat < (S.2 67 1 - l2).toNat
    omega
/-- what reading leaves as it is -/
def RFm (S S' : St) : Prop := S'.1 54 0 = 0 ∧ S'.1 54 2 = S.1 54 2 ∧ S'.1 54 19 = S.1 54 19 ∧ S'.1 54 20 = S.1 54 20 ∧ (∀ a, (55 ≤ a ∧ a ≤ 66) ∨ (71 ≤ a ∧ a ≤ 83) → S'.2 a = S.2 a) ∧ S'.2 67 0 = S.2 67 0 ∧ (∀ i, i < 30 → S'.2 68 i = S.2 68 i) ∧ (∀ i, i < 120 → S'.2 69 i = S.2 69 i) ∧ ∀ i, i < 2400 → S'.2 70 i = S.2 70 i
/-- what reading gives -/
def RdM (e : Env) (T : Int → Int) (fb : Int → Int) (S S' : St) : Prop := (∃ X M', pX T = some X ∧ mng e T X fb = some M' ∧ mH1 S' e M'.1 ∧ EH e M'.1 ∧ 0 < M'.1.1 ∧ S'.1 54 18 = 1) ∨ ((∀ X, pX T = some X → mng e T X fb = none) ∧ S'.1 54 18 = S.1 54 18 ∧ S'.2 67 1 = S.2 67 1 ∧ (∀ i, i < 60 → S'.2 68 i = S.2 68 i) ∧ (∀ i, i < 240 → S'.2 69 i = S.2 69 i) ∧ ∀ i, i < 4800 → S'.2 70 i = S.2 70 i)
theorem mH_1 {S10 : St} (g : mH S10 e h) (hV : EV e) (hW : EW e h) (e67 : S'.2 67 1 = S10.2 67 2) (e68 : ∀ o, 0 ≤ o → o < h.1 → S'.2 68 (30 + o) = S10.2 68 (60 + o)) (e69 : ∀ j, 0 ≤ j → j < 4 * h.1 → S'.2 69 (120 + j) = S10.2 69 (240 + j)) (e70 : ∀ j, 0 ≤ j → j < 80 * h.1 → S'.2 70 (2400 + j) = S10.2 70 (4800 + j)) : mH1 S' e h := by
  refine ⟨e67.trans g.1, fun o o0 o1 => (e68 o o0 o1).trans (g.2.1 o o0 o1), fun o f o0 o1 hf => ?_, fun o f i o0 o1 hf hd i0 i1 => ?_⟩
  · have f4 := okF4 hV hf
    have w := g.2.2.1 o f o0 o1 hf
    have u := e69 (4 * o + f) (by omega) (by omega)
    rw [show 4 * (30 + o) + f = 120 + (4 * o + f) by omega, u, show 240 + (4 * o + f) = 4 * (60 + o) + f by omega]
    exact w
  · have f4 := okF4 hV hf
    have c20 := hW.c20 o0 o1 hf hd
    have w := g.2.2.2 o f i o0 o1 hf hd i0 i1
    have u := e70 (20 * (4 * o + f) + i) (by omega) (by omega)
    rw [show 20 * (4 * (30 + o) + f) + i = 2400 + (20 * (4 * o + f) + i) by omega, u, show 4800 + (20 * (4 * o + f) + i) = 20 * (4 * (60 + o) + f) + i by omega]
    exact w
/-- the model reads -/
theorem n_read (hX : TX T n) (hm : mTx S T n) (hs : TSn T n) (hE : mE S e) (hV : EV e) (hXE : XE e) (hf : ∀ c, okC e c → S.2 61 c = fb c) (hnb : ∀ s, pX T = some s → nBE T s.1) (hc : ¬ eC e = 0) (hK : ∀ r S', RFm S S' → RdM e T fb S S' → K r S') : wX11_read S K := by
  have hn := hX.1
  have hn0 := hn.1
  have hn1 := hn.2
  have e2 := hE.2.2.2.2.1
  unfold wX11_read
  rw [e2, hm.1]
  refine fun _ => ⟨fun _ _ S4 e4 => ?_, fun w => absurd hc w⟩
  have q41 : S4.1 54 41 = n := by rw [e4, pI_v]
  have qI : ∀ a j, ¬ (a = 54 ∧ j = 41) → S4.1 a j = S.1 a j := fun a j q => by rw [e4]; exact pI_j q
  have qA : S4.2 = S.2 := by rw [e4]; rfl
  refine ⟨fun l1 S' => 0 ≤ l1 ∧ l1 ≤ n ∧ S'.1 = S4.1 ∧ (∀ a, ¬ a = 84 → S'.2 a = S.2 a) ∧ ∀ p, 0 ≤ p → p < l1 → S'.2 84 p = T p, fun l1 _ => (n - l1).toNat, ⟨by decide, hn0, rfl, fun _ _ => by rw [qA], fun p p0 p1 => absurd p1 (by omega)⟩, ?_⟩
  rintro l1 S' ⟨h0, h1, q1, q2, q3⟩
  have q41' : S'.1 54 41 = n := by rw [q1]; exact q41
  unfold wX11_read_21'
  rw [q41']
  refine fun _ => ⟨⟨by omega, by omega⟩, fun w S5 e5 => ?_, fun w => ⟨by omega, by omega, fun _ => ⟨by omega, by omega, fun S23 e23 => ⟨⟨by omega, by omega, by rw [e23]; exact q1, fun a ha => by rw [e23, (pA_ne a ha).2]; exact q2 a ha, fun p p0 p1 => ?_⟩, ?_⟩⟩⟩⟩
  · -- the text is there: it is parsed
    have e50 : S5.1 54 0 = 0 := by rw [e5, pI_v]
    have eI : ∀ j, ¬ j = 0 → ¬ j = 41 → S5.1 54 j = S.1 54 j := fun j j0 j1 => by
      rw [e5, pI_j (fun z => j0 z.2), q1]
      exact qI 54 j (fun z => j1 z.2)
    have eA : ∀ a, ¬ a = 84 → S5.2 a = S.2 a := fun a ha => by
      rw [e5]
      exact q2 a ha
    have hD : dTx S5 T n := by
      refine ⟨by rw [e5, pI_j (fun z => absurd z.2 (by decide))]; exact q41', fun p p0 p1 => ?_⟩
      rw [e5]
      exact q3 p p0 (by omega)
    refine n_parse hX hD (fun S6 p6 hO => ?_)
    obtain ⟨p61, p62⟩ := p6
    have fI : ∀ j, ¬ j = 0 → ¬ j = 41 → j ≠ 43 → j ≠ 51 → j ≠ 56 → j ≠ 59 → j ≠ 60 → S6.1 54 j = S.1 54 j := fun j j0 j1 j2 j3 j4 j5 j6 => (p61 j j2 j3 j4 j5 j6).trans (eI j j0 j1)
    have fA : ∀ a, ¬ a = 84 → a < 85 ∨ 97 < a → S6.2 a = S.2 a := fun a a0 a1 => (p62 a a1).trans (eA a a0)
    have f0 : S6.1 54 0 = 0 := (p61 0 (by decide) (by decide) (by decide) (by decide) (by decide)).trans e50
    have rf6 : RFm S S6 := ⟨f0, fI 2 (by decide) (by decide) (by decide) (by decide) (by decide) (by decide) (by decide), fI 19 (by decide) (by decide) (by decide) (by decide) (by decide) (by decide) (by decide), fI 20 (by decide) (by decide) (by decide) (by decide) (by decide) (by decide) (by decide), fun a ha => fA a (by omega) (by omega), by rw [fA 67 (by decide) (by decide)], fun i _ => by rw [fA 68 (by decide) (by decide)], fun i _ => by rw [fA 69 (by decide) (by decide)], fun i _ => by rw [fA 70 (by decide) (by decide)]⟩
    have f18 : S6.1 54 18 = S.1 54 18 := fI 18 (by decide) (by decide) (by decide) (by decide) (by decide) (by decide) (by decide)
    rcases hO with ⟨X, x1, x2, x3, x4, x5, x6, x7⟩ | ⟨x1, x2, x3⟩
    rotate_left
    · refine fun _ => ⟨fun y => absurd y x2, fun _ => hK _ S6 rf6 (Or.inr ⟨fun X w => ?_, f18, by rw [fA 67 (by decide) (by decide)], fun i _ => by rw [fA 68 (by decide) (by decide)], fun i _ => by rw [fA 69 (by decide) (by decide)], fun i _ => by rw [fA 70 (by decide) (by decide)]⟩)⟩
      rw [x1] at w
      cases w
    refine fun _ => ⟨fun _ => ?_, fun y => absurd x7 y⟩
    obtain ⟨pq, sv⟩ := pX_ok hX hs x6 x1
    have hC : CNm T n X S6 := ⟨⟨hX, hD.pf ⟨p61, p62⟩, hs⟩, ⟨x2, x3⟩, x4, x5, x6, hnb X x1, sv, pq⟩
    have hE6 : mE S6 e := hE.mv rf6.2.1 (fA 67 (by decide) (by decide)) (fA 68 (by decide) (by decide)) (fA 69 (by decide) (by decide)) (fA 70 (by decide) (by decide)) (fA 56 (by decide) (by decide)) (fA 57 (by decide) (by decide)) (fA 58 (by decide) (by decide)) (fA 59 (by decide) (by decide)) (fA 60 (by decide) (by decide))
    refine n_mean (fb := fb) hC hE6 hV hXE (fun c hc => by rw [fA 61 (by decide) (by decide)]; exact hf c hc) (fun r S10 nf hO => ?_)
    obtain ⟨g1, g2, g3, g4, g5, g6⟩ := nf
    rcases hO with ⟨rfl, M', m1, m2, m3⟩ | ⟨r0, r1, m1⟩
    rotate_left
    · refine ⟨⟨by omega, by omega⟩, fun y => absurd y (by omega), fun _ => ⟨r0, by omega, fun _ => hK _ S10 ?_ (Or.inr ⟨fun X' w => ?_, ?_, ?_, fun i hi => ?_, fun i hi => ?_, fun i hi => ?_⟩)⟩⟩
      · obtain ⟨t1, t2, t3, t4, t5, t6, t7, t8, t9⟩ := rf6
        refine ⟨(g1 54 0 (by decide)).trans t1, (g1 54 2 (by decide)).trans t2, (g1 54 19 (by decide)).trans t3, (g1 54 20 (by decide)).trans t4, fun a ha => (g2 a (by omega) (by omega)).trans (t5 a ha), (g3 0 (by decide)).trans t6, fun i hi => (g4 i (by omega)).trans (t7 i hi), fun i hi => (g5 i (by omega)).trans (t8 i hi), fun i hi => (g6 i (by omega)).trans (t9 i hi)⟩
      · rw [x1] at w
        cases w
        exact m1
      · exact (g1 54 18 (by decide)).trans f18
      · rw [g3 1 (by decide), fA 67 (by decide) (by decide)]
      · rw [g4 i hi, fA 68 (by decide) (by decide)]
      · rw [g5 i hi, fA 69 (by decide) (by decide)]
      · rw [g6 i hi, fA 70 (by decide) (by decide)]
    have hN := m3.1
    have hN0 := hN.1
    have hN1 := hN.2
    have e672 := m2.1
    refine ⟨⟨by decide, by decide⟩, fun _ => ⟨by decide, by decide, fun _ => ⟨by decide, by decide, fun S16 e16 S17 e17 => ?_⟩⟩, fun y => absurd rfl y⟩
    have b1 : ∀ a j, ¬ (a = 54 ∧ j = 18) → S17.1 a j = S10.1 a j := fun a j q => by
      rw [e17, pI_j q, e16]
      rfl
    have b18 : S17.1 54 18 = 1 := by rw [e17, pI_v]
    have b2 : ∀ a, ¬ a = 67 → S17.2 a = S10.2 a := fun a ha => by
      rw [e17]
      show S16.2 a = _
      rw [e16, (pA_ne a ha).2]
    have b67 : ∀ j, S17.2 67 j = if j = 1 then S10.2 67 2 else S10.2 67 j := fun j => by
      rw [e17]
      show S16.2 67 j = _
      rw [e16, pA_if]
    have b671 : S17.2 67 1 = M'.1.1 := by
      rw [b67, if_pos rfl]
      exact e672
    refine n_cp113 (by rw [b671]; exact hN) (fun Sa a1 a2 a3 => n_cp149 (by rw [a2 67 (by decide), b671]; exact hN) (fun Sb c1 c2 c3 => n_cp188 (by rw [c2 67 (by decide), a2 67 (by decide), b671]; exact hN) (fun Sc d1 d2 d3 => ?_)))
    rw [b671] at a3
    rw [a2 67 (by decide), b671] at c3
    rw [c2 67 (by decide), a2 67 (by decide), b671] at d3
    have u1 : ∀ a j, Sc.1 a j = S17.1 a j := fun a j => by rw [d1, c1, a1]
    have u68 : ∀ i, Sc.2 68 i = if 30 ≤ i ∧ i < 30 + M'.1.1 then S10.2 68 (i + 30) else S10.2 68 i := fun i => by
      rw [d2 68 (by decide), c2 68 (by decide), a3, b2 68 (by decide)]
    have u69 : ∀ i, Sc.2 69 i = if 120 ≤ i ∧ i < 120 + 4 * M'.1.1 then S10.2 69 (i + 120) else S10.2 69 i := fun i => by
      rw [d2 69 (by decide), c3, a2 69 (by decide), b2 69 (by decide)]
    have u70 : ∀ i, Sc.2 70 i = if 2400 ≤ i ∧ i < 2400 + 80 * M'.1.1 then S10.2 70 (i + 2400) else S10.2 70 i := fun i => by
      rw [d3, c2 70 (by decide), a2 70 (by decide), b2 70 (by decide)]
    have u67 : ∀ j, Sc.2 67 j = if j = 1 then S10.2 67 2 else S10.2 67 j := fun j => by
      rw [d2 67 (by decide), c2 67 (by decide), a2 67 (by decide)]
      exact b67 j
    have uA : ∀ a, ¬ a = 67 → ¬ a = 68 → ¬ a = 69 → ¬ a = 70 → Sc.2 a = S10.2 a := fun a z1 z2 z3 z4 => by
      rw [d2 a z4, c2 a z3, a2 a z2, b2 a z1]
    obtain ⟨t1, t2, t3, t4, t5, t6, t7, t8, t9⟩ := rf6
    have hp0 : xPr X 0 < 0 := by
      have := (x6.2.2.1 0 x2).2.2.2.2.1
      exact this
    refine hK _ Sc ⟨?_, ?_, ?_, ?_, fun a ha => ?_, ?_, fun i hi => ?_, fun i hi => ?_, fun i hi => ?_⟩ (Or.inl ⟨X, M', x1, m1, mH_1 m2 hV m3.ew ?_ (fun o o0 o1 => ?_) (fun j j0 j1 => ?_) (fun j j0 j1 => ?_), m3, mng_pos hp0 x2 m1, ?_⟩)
    · rw [u1, b1 54 0 (by decide), g1 54 0 (by decide)]
      exact t1
    · rw [u1, b1 54 2 (by decide), g1 54 2 (by decide)]
      exact t2
    · rw [u1, b1 54 19 (by decide), g1 54 19 (by decide)]
      exact t3
    · rw [u1, b1 54 20 (by decide), g1 54 20 (by decide)]
      exact t4
    · rw [uA a (by omega) (by omega) (by omega) (by omega), g2 a (by omega) (by omega)]
      exact t5 a ha
    · rw [u67, if_neg (by decide), g3 0 (by decide)]
      exact t6
    · rw [u68, if_neg (by omega), g4 i (by omega)]
      exact t7 i hi
    · rw [u69, if_neg (by omega), g5 i (by omega)]
      exact t8 i hi
    · rw [u70, if_neg (by omega), g6 i (by omega)]
      exact t9 i hi
    · rw [u67, if_pos rfl]
    · rw [u68, if_pos (by omega), show 30 + o + 30 = 60 + o by omega]
    · rw [u69, if_pos (by omega), show 120 + j + 120 = 240 + j by omega]
    · rw [u70, if_pos (by omega), show 2400 + j + 2400 = 4800 + j by omega]
    · rw [u1]
      exact b18
  · rw [e23, pA_if]
    by_cases c : p = l1
    · rw [if_pos c, c, q2 55 (by decide)]
      exact hm.2 l1 h0 (by omega)
    · rw [if_neg c]
      exact q3 p p0 (by omega)
  · show (n - (l1 + 1)).toNat < (n - l1).toNat
    omega
end YK

