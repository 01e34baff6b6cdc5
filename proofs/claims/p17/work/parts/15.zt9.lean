/-! READING XML: the model reads a text -/
def pF (T : Int → Int) (x : Option (Xs × Int)) : Option Xs := match x with
  | none => none
  | some z => if T (rBl T z.2) = -1 then some z.1 else none
def PJ (T : Int → Int) (n : Int) (S0 : St) (l1 l2 l3 l4 : Int) (S' : St) : Prop := PF S0 S' ∧ ((l4 = 1 ∧ l2 = -2 ∧ l3 = 0 ∧ S'.1 54 59 = -2 ∧ mX S' ([], [], []) ∧ l1 = rBl T 0 ∧ T l1 = 60 ∧ 0 ≤ l1 ∧ l1 ≤ n) ∨ (l4 = 1 ∧ S'.1 54 59 = -2 ∧ ∃ (E : List Xe) (A : List Xa) (V : List (Int × Int)) (k f : Nat), l2 = k ∧ k < E.length ∧ E.length ≤ 200 ∧ mX S' (E, A, V) ∧ mO S' T E ∧ WX n (E, A, V) l1 ∧ 0 ≤ l1 ∧ l1 ≤ n ∧ -l1 ≤ l3 ∧ l3 ≤ 40 ∧ n + 1 - l1 ≤ f ∧ pX T = pF T (prs T f (E, A, V) l1 k l3)) ∨ (l4 = 0 ∧ S'.1 54 59 = -2 ∧ ∃ s : Xs, 0 < s.1.length ∧ s.1.length ≤ 200 ∧ mX S' s ∧ mO S' T s.1 ∧ WX n s l1 ∧ 0 ≤ l1 ∧ l1 ≤ n ∧ pX T = if T (rBl T l1) = -1 then some s else none) ∨ ((l4 = 0 ∨ l4 = 1) ∧ pX T = none ∧ ¬ S'.1 54 59 = -2 ∧ iv (-2) 4000 (S'.1 54 59) ∧ iv 0 3030 l1))
def mJ (n l1 l4 : Int) (S' : St) : Nat := if S'.1 54 59 = -2 then (if l4 = 0 then 1 else (n + 3 - l1).toNat + 2) else 0
theorem mX.fvx {S S' : St} {E : List Xe} {A : List Xa} {V V' : List (Int × Int)} (h : mX S (E, A, V)) (f : Fvx S S') (hv : mV S' V') : mX S' (E, A, V') := by
  obtain ⟨h1, h2, -⟩ := h
  refine ⟨?_, ?_, hv⟩
  · show mXe S' E
    have h1 : mXe S E := h1
    unfold mXe at h1 ⊢
    rw [f.1 43 (by decide) (by decide), f.2 85 (by decide) (by decide), f.2 86 (by decide) (by decide), f.2 87 (by decide) (by decide), f.2 88 (by decide) (by decide), f.2 90 (by decide) (by decide), f.2 91 (by decide) (by decide)]
    exact h1
  · show mXa S' A
    have h2 : mXa S A := h2
    unfold mXa at h2 ⊢
    rw [f.1 51 (by decide) (by decide), f.2 92 (by decide) (by decide), f.2 93 (by decide) (by decide), f.2 94 (by decide) (by decide), f.2 95 (by decide) (by decide)]
    exact h2
theorem mO.fvx {S S' : St} {T : Int → Int} {E : List Xe} (h : mO S T E) (f : Fvx S S') : mO S' T E := by
  unfold mO at h ⊢
  rw [f.2 89 (by decide) (by decide)]
  exact h
theorem WX.app {n p q : Int} {E : List Xe} {A : List Xa} {V : List (Int × Int)} (h : WX n (E, A, V) p) (l : List (Int × Int)) (hp : p ≤ q) (hl : (V.length : Int) + l.length ≤ q) : WX n (E, A, V ++ l) q := by
  obtain ⟨h1, h2, h3, h4⟩ := h
  refine ⟨by show ((V ++ l).length : Int) ≤ q; rw [List.length_append]; omega, Int.le_trans h2 hp, h3, fun k hk => ?_⟩
  have := h4 k hk
  have : 0 ≤ (A.getD k a4).1 ∧ (A.getD k a4).1 < (A.getD k a4).2.1 ∧ (A.getD k a4).2.1 ≤ n ∧ 0 ≤ (A.getD k a4).2.2.1 ∧ (A.getD k a4).2.2.1 ≤ (A.getD k a4).2.2.2 ∧ (A.getD k a4).2.2.2 ≤ V.length := this
  show 0 ≤ (A.getD k a4).1 ∧ (A.getD k a4).1 < (A.getD k a4).2.1 ∧ (A.getD k a4).2.1 ≤ n ∧ 0 ≤ (A.getD k a4).2.2.1 ∧ (A.getD k a4).2.2.1 ≤ (A.getD k a4).2.2.2 ∧ (A.getD k a4).2.2.2 ≤ ((V ++ l).length : Int)
  rw [List.length_append]
  exact ⟨this.1, this.2.1, this.2.2.1, this.2.2.2.1, this.2.2.2.2.1, by omega⟩
section XF
variable {S S0 : St} {K : Int → St → Prop} {T : Int → Int} {n p u o : Int} {V : List (Int × Int)} {A : List Xa} {L E : List Xe} {e : Xe}
theorem prs_eq {f : Nat} {s : Xs} {d : Int} : prs T (f + 1) s p o d = if T p = -1 then none else if ¬ T p = 60 then (match dec T p with | none => none | some r => prs T f (s.1, s.2.1, s.2.2 ++ [(r.1, o)]) r.2 o d) else if T (p + 1) = 47 then (match etg T p (s.1.getD o.toNat e6) with | none => none | some q => if (s.1.getD o.toNat e6).2.2.1 < 0 then some (s, q) else prs T f s q (s.1.getD o.toNat e6).2.2.1 (d - 1)) else if cm T (p + 1) [33, 45, 45] then (match cme T 3001 (p + 4) with | none => none | some q => prs T f s q o d) else if cm T (p + 1) [33, 91, 67, 68, 65, 84, 65, 91] then (match cda T 3001 (p + 9) [] with | none => none | some r => prs T f (s.1, s.2.1, s.2.2 ++ r.1.map (fun u => (u, o))) r.2 o d) else if 200 ≤ s.1.length ∨ 40 ≤ d then none else (match stg T s p o with | none => none | some r => if r.2.2 then prs T f r.1 r.2.1 (s.1.length : Int) (d + 1) else prs T f r.1 r.2.1 o d) := rfl
theorem cm_hd {x : Int} {l : List Int} (h : ¬ T p = x) : cm T p (x :: l) = false := by
  unfold cm
  rw [decide_eq_false h]
  rfl
theorem n_225 {par a2 l3 : Int} {B : Int → Int → Int → Int → St → Prop} (hX : TX T n) (hD : dTx S T n) (hM : mX S (E, A, V)) (hO : mO S T E) (hw : WX n (E, A, V) p) (hb : S.1 54 59 = -2) (hl : E.length < 200) (hd : ¬ l3 = 40) (g3 : rng l3) (p0 : 0 ≤ p) (p1 : p < n) (ha : (par = -1 ∧ a2 = -2) ∨ (0 ≤ par ∧ a2 = par)) (hpar : par < E.length) (hB : ∀ r S2, BtO T n p S S2 E.length (stg T (E, A, V) p par) r → ∀ z2 z3 z4, ((S2.1 54 60 = 0 → z2 = a2 ∧ z3 = l3 ∧ z4 = (if a2 = -2 then 0 else 1)) ∧ (¬ S2.1 54 60 = 0 → z3 = l3 + 1 ∧ z2 = S2.1 54 43 - 1 ∧ z4 = (if z2 = -2 then 0 else 1))) → B r z2 z3 z4 S2) : wX11_parse_225 p a2 l3 1 0 S K B := by
  have hn := hX.1
  unfold wX11_parse_225
  refine ⟨⟨by decide, by decide⟩, fun _ S3 e3 => ⟨⟨by omega, by omega⟩, ⟨by omega, by omega⟩, g3, ?_⟩, fun z => absurd rfl z⟩
  have hP : PF S S3 := by
    rw [e3]
    exact ⟨fun j _ _ _ _ q => if_neg (fun z => q z.2), fun _ _ => rfl⟩
  refine n_bt hX (hD.pf hP) (hM.mv (by rw [e3]; rfl) (by rw [e3]; rfl) (by rw [e3]; rfl) (by rw [e3]; rfl)) (by rw [e3]; exact hO) hw (by rw [e3]; exact hb) hl hd p0 p1 ha hpar (fun r S8 h _ => ?_)
  have h' : BtO T n p S S8 E.length (stg T (E, A, V) p par) r := ⟨hP.tr h.1, h.2⟩
  refine ⟨fun z => fun _ => ⟨fun _ => ⟨⟨by omega, by omega⟩, fun y => ?_, fun y => ?_⟩, fun w => absurd z w⟩, fun z => fun _ => ⟨fun w => absurd w z, fun _ h43 => ⟨⟨by omega, by omega⟩, fun y => ?_, fun y => ?_⟩⟩⟩
  · exact hB r S8 h' a2 l3 0 ⟨fun _ => ⟨rfl, rfl, (if_pos y).symm⟩, fun w => absurd z w⟩
  · exact hB r S8 h' a2 l3 1 ⟨fun _ => ⟨rfl, rfl, (if_neg y).symm⟩, fun w => absurd z w⟩
  · exact hB r S8 h' _ (l3 + 1) 0 ⟨fun w => absurd w z, fun _ => ⟨rfl, rfl, (if_pos y).symm⟩⟩
  · exact hB r S8 h' _ (l3 + 1) 1 ⟨fun w => absurd w z, fun _ => ⟨rfl, rfl, (if_neg y).symm⟩⟩
theorem n_51 (hX : TX T n) (hD0 : dTx S0 T n) (hK : ∀ S', PF S0 S' → ((∃ s, pX T = some s ∧ 0 < s.1.length ∧ s.1.length ≤ 200 ∧ mX S' s ∧ mO S' T s.1 ∧ WX n s n ∧ S'.1 54 59 = -2) ∨ (pX T = none ∧ ¬ S'.1 54 59 = -2 ∧ iv (-2) 4000 (S'.1 54 59))) → K 0 S') {l1 l2 l3 l4 : Int} (h0 : PJ T n S0 l1 l2 l3 l4 S) : wX11_parse_51 l1 l2 l3 l4 S K := by
  have hn := hX.1
  refine ⟨PJ T n S0, fun l1 _ _ l4 S' => mJ n l1 l4 S', h0, ?_⟩
  clear h0
  rintro l1 l2 l3 l4 S' ⟨hP, hc⟩
  have hD := hD0.pf hP
  unfold wX11_parse_51'
  -- a fault
  have toD : ∀ (S2 : St) (a1 a2 a3 a4 : Int), PF S' S2 → pX T = none → ¬ S2.1 54 59 = -2 → iv (-2) 4000 (S2.1 54 59) → iv 0 3030 a1 → (a4 = 0 ∨ a4 = 1) → S'.1 54 59 = -2 → PJ T n S0 a1 a2 a3 a4 S2 ∧ mJ n a1 a4 S2 < mJ n l1 l4 S' := fun S2 a1 a2 a3 a4 q1 q2 q3 q4 q5 q6 q7 => by
    refine ⟨⟨hP.tr q1, Or.inr (Or.inr (Or.inr ⟨q6, q2, q3, q4, q5⟩))⟩, ?_⟩
    unfold mJ
    rw [if_neg q3, if_pos q7]
    split <;> omega
  have dn : ∀ (S2 : St) (a1 : Int), S2.1 54 59 = -2 → S'.1 54 59 = -2 → l4 = 1 → l1 < a1 → l1 ≤ n → mJ n a1 1 S2 < mJ n l1 l4 S' := fun S2 a1 q1 q2 q3 q4 q5 => by
    unfold mJ
    rw [if_pos q1, if_pos q2, if_neg (by decide), if_neg (by omega)]
    omega
  have dn0 : ∀ (S2 : St) (a1 : Int), S2.1 54 59 = -2 → S'.1 54 59 = -2 → l4 = 1 → mJ n a1 0 S2 < mJ n l1 l4 S' := fun S2 a1 q1 q2 q3 => by
    unfold mJ
    rw [if_pos q1, if_pos q2, if_pos rfl, if_neg (by omega)]
    omega
  rcases hc with ⟨rfl, rfl, rfl, b, m, e1, t60, l0, ln⟩ | ⟨rfl, b, E, A, V, k, f, rfl, hk, hE, m, mo, w, l0, ln, d0, d1, f1, hp⟩ | ⟨rfl, b, s, s0, s200, m, mo, w, l0, ln, hp⟩ | ⟨h4, hp, b, b2, b3⟩
  · -- the root
    have l1n : l1 < n := hX.in (by omega)
    have bt1 := tx_rng hX (show 0 ≤ l1 + 1 by omega)
    have hp : pX T = match stg T ([], [], []) l1 (-1) with | none => none | some r => if r.2.2 then (match prs T 3001 r.1 r.2.1 0 1 with | none => none | some z => if T (rBl T z.2) = -1 then some z.1 else none) else if T (rBl T r.2.1) = -1 then some r.1 else none := by
      unfold pX
      rw [← e1, if_pos t60]
      rfl
    have h225 : wX11_parse_225 l1 (-2) 0 1 0 S' K (fun ml1 ml2 ml3 ml4 T1 => PJ T n S0 ml1 ml2 ml3 ml4 T1 ∧ mJ n ml1 ml4 T1 < mJ n l1 1 S') := by
      refine n_225 (E := []) (A := []) (V := []) (par := -1) hX hD m (fun k hk => absurd hk (Nat.not_lt_zero _)) ⟨by show ((0 : Nat) : Int) ≤ l1; omega, by show 5 * ((0 : Nat) : Int) ≤ l1; omega, fun k hk => absurd hk (Nat.not_lt_zero _), fun k hk => absurd hk (Nat.not_lt_zero _)⟩ b (by decide) (by decide) ⟨by decide, by decide⟩ l0 l1n (Or.inl ⟨rfl, rfl⟩) (by decide) (fun r S2 h z2 z3 z4 hz => ?_)
      obtain ⟨hP2, h⟩ := h
      rcases h with ⟨s', c, hs, m', mo', w', hlen, pr, rn, b', h60⟩ | ⟨hs, b', b2, b3⟩
      · rw [hs] at hp
        have hlen : s'.1.length = 1 := hlen
        cases c with
        | true =>
          have h60 : S2.1 54 60 = 1 := h60
          obtain ⟨y1, y2, y3⟩ := hz.2 (by omega)
          have m43 : S2.1 54 43 = s'.1.length := m'.1.1
          rw [if_neg (by omega)] at y3
          have y2' : z2 = ((0 : Nat) : Int) := by omega
          refine ⟨⟨hP.tr hP2, Or.inr (Or.inl ⟨y3, b', s'.1, s'.2.1, s'.2.2, 0, 3001, y2', by omega, by omega, m', mo', w', by omega, rn, by omega, by omega, by omega, ?_⟩)⟩, by rw [y3]; exact dn S2 r b' b rfl pr ln⟩
          rw [y1]
          exact hp
        | false =>
          have h60 : S2.1 54 60 = 0 := h60
          obtain ⟨y1, y2, y3⟩ := hz.1 h60
          rw [if_pos rfl] at y3
          refine ⟨⟨hP.tr hP2, Or.inr (Or.inr (Or.inl ⟨y3, b', s', by omega, by omega, m', mo', w', by omega, rn, hp⟩))⟩, by rw [y3]; exact dn0 S2 r b' b rfl⟩
      · rw [hs] at hp
        refine toD S2 r z2 z3 z4 hP2 hp b' b2 b3 ?_ b
        by_cases c : S2.1 54 60 = 0
        · have := (hz.1 c).2.2
          rw [this]
          split <;> omega
        · have := (hz.2 c).2.2
          rw [this]
          split <;> omega
    have h200 : wX11_parse_200 l1 (-2) 0 1 (T (l1 + 1)) 0 S' K (fun ml1 ml2 ml3 ml4 T1 => PJ T n S0 ml1 ml2 ml3 ml4 T1 ∧ mJ n ml1 ml4 T1 < mJ n l1 1 S') := by
      exact ⟨⟨by omega, by omega⟩, fun _ => h225, fun _ => ⟨⟨by decide, by decide⟩, fun _ => h225, fun z => absurd rfl z⟩⟩
    have m43 : S'.1 54 43 = 0 := m.1.1
    refine ⟨⟨by decide, by decide⟩, fun z => absurd z (by decide), fun _ _ => ⟨fun z => absurd b z, fun _ => ⟨⟨by omega, by omega⟩, n_doc hX hD l0 ⟨⟨by omega, by omega⟩, n_doc hX hD (by omega) ⟨⟨by decide, by decide⟩, fun z => absurd z (by decide), fun _ _ => ⟨fun _ => ?_, fun z => absurd (by rw [m43]; decide) z⟩⟩⟩⟩⟩⟩
    rw [t60]
    exact ⟨⟨by decide, by decide⟩, fun _ => ⟨fun _ => ⟨fun _ => ⟨⟨by omega, by omega⟩, fun _ => h200, fun _ => ⟨⟨by decide, by decide⟩, fun _ => h200, fun z => absurd rfl z⟩⟩, fun z => absurd rfl z⟩, fun z => absurd (by decide) z⟩, fun z => absurd (by decide) z⟩
  · -- within the root
    obtain ⟨f', rfl⟩ : ∃ f', f = f' + 1 := ⟨f - 1, by omega⟩
    rw [prs_eq] at hp
    have m43 : S'.1 54 43 = E.length := m.1.1
    have bt := tx_rng hX l0
    have bt1 := tx_rng hX (show 0 ≤ l1 + 1 by omega)
    have vl : (V.length : Int) ≤ l1 := w.1
    have ko : iv (-2) 199 (k : Int) := ⟨by omega, by omega⟩
    have go : ∀ (S2 : St) (a1 : Int) (V' : List (Int × Int)), PF S' S2 → mX S2 (E, A, V') → mO S2 T E → WX n (E, A, V') a1 → l1 < a1 → a1 ≤ n → S2.1 54 59 = -2 → pX T = pF T (prs T f' (E, A, V') a1 k l3) → PJ T n S0 a1 (k : Int) l3 1 S2 ∧ mJ n a1 1 S2 < mJ n l1 1 S' := fun S2 a1 V' q1 q2 q3 q4 q5 q6 q7 q8 => ⟨⟨hP.tr q1, Or.inr (Or.inl ⟨rfl, q7, E, A, V', k, f', rfl, hk, hE, q2, q3, q4, by omega, q6, by omega, d1, by omega, q8⟩)⟩, dn S2 a1 q7 b rfl q5 ln⟩
    have step : ∀ fl : Int, (fl = 1 ∧ (l3 = 40 ∨ E.length = 200)) ∨ (fl = 0 ∧ ¬ l3 = 40 ∧ ¬ E.length = 200) → wX11_parse_102 l1 (k : Int) l3 1 (T l1) (T (l1 + 1)) fl S' K (fun ml1 ml2 ml3 ml4 T1 => PJ T n S0 ml1 ml2 ml3 ml4 T1 ∧ mJ n ml1 ml4 T1 < mJ n l1 1 S') := fun fl hfl => by
      unfold wX11_parse_102
      refine ⟨⟨by omega, by omega⟩, fun h0 => ⟨fun h38 => ⟨fun h60 => ⟨⟨by omega, by omega⟩, fun h47 => ?_, fun h47 => ⟨⟨by omega, by omega⟩, fun z => absurd z (by omega), fun _ => ⟨⟨by omega, by omega⟩, ?_⟩⟩⟩, fun h60 => ⟨⟨by omega, by omega⟩, ?_⟩⟩, fun h38 => ⟨⟨by omega, by omega⟩, ⟨by omega, by omega⟩, ?_⟩⟩, fun h0 => ⟨⟨by omega, by omega⟩, n_fail (by rw [b]; exact ⟨by decide, by decide⟩) ⟨by omega, by omega⟩ (fun S2 g1 g2 g3 g4 g5 => toD S2 l1 _ _ 1 g1.pf ?_ g4 g5 ⟨by omega, by omega⟩ (Or.inr rfl) b)⟩⟩
      · -- a tag that begins, a comment, CDATA
        have l1n : l1 < n := hX.in (by omega)
        rw [if_neg (by omega), if_neg (fun z => z h60), if_neg h47] at hp
        have h225 : (cm T (l1 + 1) [33, 45, 45] = false) → (cm T (l1 + 1) [33, 91, 67, 68, 65, 84, 65, 91] = false) → wX11_parse_225 l1 (k : Int) l3 1 fl S' K (fun ml1 ml2 ml3 ml4 T1 => PJ T n S0 ml1 ml2 ml3 ml4 T1 ∧ mJ n ml1 ml4 T1 < mJ n l1 1 S') := fun c1 c2 => by
          rw [if_neg (by rw [c1]; decide), if_neg (by rw [c2]; decide)] at hp
          rcases hfl with ⟨rfl, hf⟩ | ⟨rfl, hf1, hf2⟩
          · rw [if_pos (by show 200 ≤ E.length ∨ 40 ≤ l3; omega)] at hp
            refine ⟨⟨by decide, by decide⟩, fun z => absurd z (by decide), fun _ => ⟨⟨by omega, by omega⟩, n_fail (by rw [b]; exact ⟨by decide, by decide⟩) ⟨by omega, by omega⟩ (fun S2 g1 g2 g3 g4 g5 => toD S2 l1 _ _ 1 g1.pf hp g4 g5 ⟨by omega, by omega⟩ (Or.inr rfl) b)⟩⟩
          · rw [if_neg (by show ¬ (200 ≤ E.length ∨ 40 ≤ l3); omega)] at hp
            refine n_225 (par := (k : Int)) hX hD m mo w b (by omega) hf1 ⟨by omega, by omega⟩ l0 l1n (Or.inr ⟨by omega, rfl⟩) (by omega) (fun r S2 h z2 z3 z4 hz => ?_)
            obtain ⟨hP2, h⟩ := h
            rcases h with ⟨s', c, hs, m', mo', w', hlen, pr, rn, b', h60'⟩ | ⟨hs, b', b2, b3⟩
            · rw [hs] at hp
              cases c with
              | true =>
                have h60' : S2.1 54 60 = 1 := h60'
                obtain ⟨y1, y2, y3⟩ := hz.2 (by omega)
                have m43' : S2.1 54 43 = s'.1.length := m'.1.1
                rw [if_neg (by omega)] at y3
                have y2' : z2 = ((E.length : Nat) : Int) := by omega
                refine ⟨⟨hP.tr hP2, Or.inr (Or.inl ⟨y3, b', s'.1, s'.2.1, s'.2.2, E.length, f', y2', by omega, by omega, m', mo', w', by omega, rn, by omega, by omega, by omega, ?_⟩)⟩, by rw [y3]; exact dn S2 r b' b rfl pr ln⟩
                rw [y1]
                exact hp
              | false =>
                have h60' : S2.1 54 60 = 0 := h60'
                obtain ⟨y1, y2, y3⟩ := hz.1 h60'
                rw [if_neg (by omega)] at y3
                have m43' : S2.1 54 43 = s'.1.length := m'.1.1
                refine ⟨⟨hP.tr hP2, Or.inr (Or.inl ⟨y3, b', s'.1, s'.2.1, s'.2.2, k, f', y1, by omega, by omega, m', mo', w', by omega, rn, by omega, by omega, by omega, ?_⟩)⟩, by rw [y3]; exact dn S2 r b' b rfl pr ln⟩
                rw [y2]
                exact hp
            · rw [hs] at hp
              refine toD S2 r z2 z3 z4 hP2 hp b' b2 b3 ?_ b
              by_cases c : S2.1 54 60 = 0
              · have := (hz.1 c).2.2
                rw [this]
                split <;> omega
              · have := (hz.2 c).2.2
                rw [this]
                split <;> omega
        refine ⟨⟨by omega, by omega⟩, fun h33 => h225 (cm_hd h33) (cm_hd h33), fun h33 => ⟨⟨by omega, by omega⟩, fun z => absurd z (by omega), fun _ => ⟨⟨by omega, by omega⟩, ⟨by omega, by omega⟩, ?_⟩⟩⟩
        have h33 := Classical.not_not.mp h33
        refine n_sec hX hD m.2.2 b ko (by omega) vl l0 l1n (fun r S2 g1 g2 => ?_)
        have hps : pX T = match sec T l1 with | none => none | some r => pF T (prs T f' (E, A, V ++ r.1.map (fun u => (u, (k : Int)))) r.2 k l3) := by
          rw [hp]
          unfold sec
          cases c1 : cm T (l1 + 1) [33, 45, 45] with
          | true =>
            rw [if_pos (show (true = true) from rfl), if_pos (show (true = true) from rfl)]
            cases cme T 3001 (l1 + 4) with
            | none => rfl
            | some q =>
              show pF T (prs T f' (E, A, V) q k l3) = pF T (prs T f' (E, A, V ++ [].map (fun u => (u, (k : Int)))) q k l3)
              rw [List.map_nil, List.append_nil]
          | false =>
            rw [if_neg (show ¬ (false = true) by decide), if_neg (show ¬ (false = true) by decide)]
            cases c2 : cm T (l1 + 1) [33, 91, 67, 68, 65, 84, 65, 91] with
            | true =>
              rw [if_pos (show (true = true) from rfl), if_pos (show (true = true) from rfl)]
              cases cda T 3001 (l1 + 9) [] with
              | none => rfl
              | some q => rfl
            | false =>
              rw [if_neg (show ¬ (false = true) by decide), if_neg (show ¬ (false = true) by decide)]
              show pF T (if 200 ≤ E.length ∨ 40 ≤ l3 then none else (match stg T (E, A, V) l1 k with | none => none | some r => if r.2.2 then prs T f' r.1 r.2.1 (E.length : Int) (l3 + 1) else prs T f' r.1 r.2.1 k l3)) = none
              have hs : stg T (E, A, V) l1 k = none := by
                unfold stg
                rw [if_neg (by omega)]
              rw [hs]
              split <;> rfl
        rcases g2 with ⟨l, y1, y2, y3, y4, y5⟩ | ⟨y1, y2, y3, y4⟩
        · rw [y1] at hps
          exact go S2 r _ g1.pf (m.fvx g1 y2) (mo.fvx g1) (w.app _ (by omega) (by rw [List.length_map]; omega)) (by omega) y5 y3 hps
        · rw [y1] at hps
          exact toD S2 r _ _ 1 g1.pf hps y2 y3 y4 (Or.inr rfl) b
      · -- an end tag
        have h47 := Classical.not_not.mp h47
        have l1n : l1 + 1 < n := hX.in (by omega)
        rw [if_neg (by omega), if_neg (fun z => z h60), if_pos h47, show ((k : Int)).toNat = k from Int.toNat_natCast _] at hp
        have wk := w.2.2.1 k hk
        have wk4 : -1 ≤ (E.getD k e6).2.2.1 ∧ (E.getD k e6).2.2.1 < (k : Int) := ⟨wk.2.2.2.1, wk.2.2.2.2.1⟩
        have mk : S'.2 88 (k : Int) = (if (E.getD k e6).2.2.1 < 0 then -2 else (E.getD k e6).2.2.1) := (m.1.2 k hk).2.2.2.1
        refine n_et hX hD m w b hk hE l0 l1n (fun r S2 g1 g2 g3 g4 => ⟨by omega, by omega, fun _ x14 e14 => ?_⟩)
        rw [g2, mk] at e14
        rcases g4 with ⟨y1, y2, y3, y4⟩ | ⟨y1, y2, y3, y4⟩
        · have hp : pX T = pF T (match etg T l1 (E.getD k e6) with | none => none | some q => if (E.getD k e6).2.2.1 < 0 then some ((E, A, V), q) else prs T f' (E, A, V) q (E.getD k e6).2.2.1 (l3 - 1)) := hp
          rw [y1] at hp
          have hp : pX T = pF T (if (E.getD k e6).2.2.1 < 0 then some ((E, A, V), r) else prs T f' (E, A, V) r (E.getD k e6).2.2.1 (l3 - 1)) := hp
          have m' := m.fvx g1 (m.2.2.mv g3 (by rw [g2]) (by rw [g2]))
          have mo' := mo.fvx g1
          by_cases c : (E.getD k e6).2.2.1 < 0
          · rw [if_pos c] at e14 hp
            refine ⟨fun _ => ⟨⟨hP.tr g1.pf, Or.inr (Or.inr (Or.inl ⟨rfl, y2, (E, A, V), by show 0 < E.length; omega, hE, m', mo', w.le (by omega), by omega, y4, hp⟩))⟩, dn0 S2 r y2 b rfl⟩, fun z => absurd e14 z⟩
          · rw [if_neg c] at e14 hp
            refine ⟨fun z => absurd z (by omega), fun _ => ⟨⟨hP.tr g1.pf, Or.inr (Or.inl ⟨rfl, y2, E, A, V, (E.getD k e6).2.2.1.toNat, f', by omega, by omega, hE, m', mo', w.le (by omega), by omega, y4, by omega, by omega, by omega, ?_⟩)⟩, dn S2 r y2 b rfl y3 ln⟩⟩
            rw [show (((E.getD k e6).2.2.1.toNat : Nat) : Int) = (E.getD k e6).2.2.1 by omega, show l3 + -1 = l3 - 1 by omega]
            exact hp
        · have hp : pX T = none := by
            rw [hp]
            show pF T (match etg T l1 (E.getD k e6) with | none => none | some q => if (E.getD k e6).2.2.1 < 0 then some ((E, A, V), q) else prs T f' (E, A, V) q (E.getD k e6).2.2.1 (l3 - 1)) = none
            rw [y1]
            rfl
          exact ⟨fun _ => toD S2 r _ _ 0 g1.pf hp y2 y3 y4 (Or.inl rfl) b, fun _ => toD S2 r _ _ 1 g1.pf hp y2 y3 y4 (Or.inr rfl) b⟩
      · -- a sign
        have l1n : l1 < n := hX.in (by omega)
        rw [if_neg (by omega), if_pos h60, show dec T l1 = some (T l1, l1 + 1) from if_neg h38] at hp
        exact n_keep (V := V) m.2.2 (by omega) ko (fun S2 g1 g2 g3 => go S2 (l1 + 1) _ g1.pf (m.fvx g1 g2) (mo.fvx g1) (w.app _ (by omega) (by show (V.length : Int) + ((1 : Nat) : Int) ≤ l1 + 1; omega)) (by omega) (by omega) (g3.trans b) hp)
      · -- a reference
        have h38 := Classical.not_not.mp h38
        have l1n : l1 < n := hX.in (by omega)
        rw [if_neg (by omega), if_pos (by omega), show dec T l1 = ent T l1 from if_pos h38] at hp
        refine n_ref (V := V) hX hD m.2.2 (by omega) ko b l0 l1n (fun q S2 h => ?_)
        obtain ⟨g1, h⟩ := h
        rcases h with ⟨u, y1, y2, y3⟩ | ⟨y1, y2, y3, y4, y5⟩
        · have eb := ent_b hX l0 y1
          rw [y1] at hp
          exact go S2 q _ g1.pf (m.fvx g1 y2) (mo.fvx g1) (w.app _ (by omega) (by show (V.length : Int) + ((1 : Nat) : Int) ≤ q; omega)) (by omega) (by omega) y3 hp
        · rw [y1] at hp
          exact toD S2 q _ _ 1 g1.pf hp y3 y4 ⟨by omega, by omega⟩ (Or.inr rfl) b
      · rw [hp, if_pos (by omega)]
        rfl
    refine ⟨⟨by decide, by decide⟩, fun z => absurd z (by decide), fun _ _ => ⟨fun z => absurd b z, fun _ => ⟨⟨by omega, by omega⟩, n_doc hX hD l0 ⟨⟨by omega, by omega⟩, n_doc hX hD (by omega) ⟨⟨by omega, by omega⟩, fun z => step 1 (Or.inl ⟨rfl, Or.inl z⟩), fun z _ => ⟨fun z2 => step 0 (Or.inr ⟨rfl, z, fun y => z2 (by rw [m43, y]; rfl)⟩), fun z2 => step 1 (Or.inl ⟨rfl, Or.inr (by omega)⟩)⟩⟩⟩⟩⟩⟩
  · -- behind the root
    have hB := rBl_b (p := l1) hX ln
    refine ⟨⟨by decide, by decide⟩, fun _ _ => ⟨fun _ => ⟨⟨by omega, by omega⟩, n_blanks hX hD l0 (by omega) (fun _ => ⟨⟨by omega, by omega⟩, fun z => ?_, fun z => ?_⟩)⟩, fun z => absurd b z⟩, fun z => absurd rfl z⟩
    · rw [hD.1] at z
      rw [if_pos (hX.2.2 _ z)] at hp
      exact hK S' hP (Or.inl ⟨s, hp, s0, s200, m, mo, w.le ln, b⟩)
    · rw [hD.1] at z
      have := hX.2.1 (rBl T l1) (by omega) (by omega)
      rw [if_neg (by omega)] at hp
      exact n_fail (by rw [b]; exact ⟨by decide, by decide⟩) ⟨by omega, by omega⟩ (fun S2 g1 g2 g3 g4 g5 => hK S2 (hP.tr g1.pf) (Or.inr ⟨hp, g4, g5⟩))
  · have out : wX11_parse_300 l1 S' K := fun _ => ⟨fun z => absurd z b, fun _ => hK S' hP (Or.inr ⟨hp, b, b2⟩)⟩
    exact ⟨⟨by omega, by omega⟩, fun _ => out, fun _ _ => ⟨fun _ => out, fun z => absurd b z⟩⟩
theorem n_parse (hX : TX T n) (hD : dTx S T n) (hK : ∀ S', PF S S' → ((∃ s, pX T = some s ∧ 0 < s.1.length ∧ s.1.length ≤ 200 ∧ mX S' s ∧ mO S' T s.1 ∧ WX n s n ∧ S'.1 54 59 = -2) ∨ (pX T = none ∧ ¬ S'.1 54 59 = -2 ∧ iv (-2) 4000 (S'.1 54 59))) → K 0 S') : wX11_parse S K := by
  have hn := hX.1
  unfold wX11_parse
  intro S1 e1 S2 e2 S3 e3 S4 e4
  have hP : PF S S4 := by
    rw [e4, e3, e2, e1]
    refine ⟨fun j q1 q2 q3 q4 q5 => ?_, fun _ _ => rfl⟩
    show (if 54 = 54 ∧ j = 59 then (-2 : Int) else if 54 = 54 ∧ j = 56 then 0 else if 54 = 54 ∧ j = 51 then 0 else if 54 = 54 ∧ j = 43 then 0 else S.1 54 j) = _
    rw [if_neg (fun z => q4 z.2), if_neg (fun z => q3 z.2), if_neg (fun z => q2 z.2), if_neg (fun z => q1 z.2)]
  have hD4 := hD.pf hP
  have h59 : S4.1 54 59 = -2 := by rw [e4]; rfl
  have hm : mX S4 ([], [], []) := by
    refine ⟨⟨?_, fun k hk => absurd hk (Nat.not_lt_zero _)⟩, ⟨?_, fun k hk => absurd hk (Nat.not_lt_zero _)⟩, ⟨?_, fun k hk => absurd hk (Nat.not_lt_zero _)⟩⟩
    · rw [e4, e3, e2, e1]
      rfl
    · rw [e4, e3, e2]
      rfl
    · rw [e4, e3]
      rfl
  have hB := rBl_b (p := 0) hX (by omega)
  have bt := tx_rng hX (show 0 ≤ rBl T 0 by omega)
  refine n_blanks hX hD4 (Int.le_refl _) (by decide) ⟨⟨by omega, by omega⟩, n_doc hX hD4 (by omega) ⟨⟨by omega, by omega⟩, fun z => ?_, fun z => ?_⟩⟩
  · exact n_51 hX hD (fun S' q h => hK S' q h) ⟨hP, Or.inl ⟨rfl, rfl, rfl, h59, hm, rfl, z, by omega, hB.2⟩⟩
  · refine n_fail (by rw [h59]; exact ⟨by decide, by decide⟩) ⟨by omega, by omega⟩ (fun S5 g1 g2 g3 g4 g5 => hK S5 (hP.tr g1.pf) (Or.inr ⟨?_, g4, g5⟩))
    unfold pX
    rw [if_neg z]
end XF

