/-! THE WRITER: ways -/
def noc (p : Pth) : Nat := (p.filter (fun s => decide (s.1 < 30))).length
def ppp (e : Env) (s : Ws) (w f : Int) : Pth := if w < 0 then [] else if eD e (eK e w) f = 3 ∧ ¬ eM e (eK e w) f = 1 then lst e w f (s.2.2.1 w) else s.2.2.1 w
def Par (e : Env) (s : Ws) (w f i o : Int) : Prop := Owr e w f i o ∧ (0 ≤ w → 0 < s.2.1 w) ∧ s.2.2.1 o = ppp e s w f ++ [(o, nmo e w f o, rko e w f i)] ∧ noc (s.2.2.1 o) ≤ 20
/-- a step of a way is told by the writer's rows -/
def VS (e : Env) (S : St) (t : Int × Int × Int) : Prop := (okO e t.1 ∧ Owr e (S.2 212 t.1) (S.2 213 t.1) (S.2 214 t.1) t.1 ∧ t.2.1 = nmo e (S.2 212 t.1) (S.2 213 t.1) t.1 ∧ t.2.2 = rko e (S.2 212 t.1) (S.2 213 t.1) (S.2 214 t.1)) ∨ (∃ w f, okO e w ∧ okF e (eK e w) f ∧ t = (30 + w * 4 + f, nmF e w f, 1))
/-- the writer's cells hold the state of a writing -/
def WrR (S : St) (e : Env) (s : Ws) : Prop := oC S 22 s.1 ∧ S.1 210 3 = eO e ∧ S.1 210 12 = s.2.2.2.2 ∧ S.1 210 11 = s.2.2.2.1 ∧ (0 ≤ s.2.2.2.1 ∧ s.2.2.2.1 ≤ s.1.length) ∧ (∀ o, okO e o → S.2 211 o = s.2.1 o ∧ 0 ≤ s.2.1 o ∧ s.2.1 o ≤ s.2.2.2.1) ∧ (¬ eO e = 3 → ∀ o, okO e o → 0 < s.2.1 o → Par e s (S.2 212 o) (S.2 213 o) (S.2 214 o) o ∧ ∀ t ∈ s.2.2.1 o, VS e S t ∧ (t.1 < 30 → 0 < s.2.1 t.1))
/-- all but the Signs 22 and the rows of ways is the same -/
def Ow (S S' : St) : Prop := ∀ a, a ≠ 22 → a ≠ 215 → a ≠ 216 → S'.1 a = S.1 a ∧ S'.2 a = S.2 a
theorem Ow.rf {S : St} : Ow S S := fun _ _ _ _ => ⟨rfl, rfl⟩
theorem Ow.tr {S S1 S2 : St} (h : Ow S S1) (k : Ow S1 S2) : Ow S S2 := fun a h1 h2 h3 => ⟨(k a h1 h2 h3).1.trans (h a h1 h2 h3).1, (k a h1 h2 h3).2.trans (h a h1 h2 h3).2⟩
theorem Of.ow {S S' : St} (h : Of S S') : Ow S S' := fun a h1 _ _ => h a h1
theorem cE.ow {S S' : St} {e : Env} (h : cE S e) (k : Ow S S') : cE S' e := h.mv (congrFun (k 42 (by decide) (by decide) (by decide)).1 3) (congrFun (k 24 (by decide) (by decide) (by decide)).1 8) (k 43 (by decide) (by decide) (by decide)).2 (k 44 (by decide) (by decide) (by decide)).2 (k 45 (by decide) (by decide) (by decide)).2 (k 25 (by decide) (by decide) (by decide)).2 (k 26 (by decide) (by decide) (by decide)).2 (k 27 (by decide) (by decide) (by decide)).2 (k 28 (by decide) (by decide) (by decide)).2 (k 29 (by decide) (by decide) (by decide)).2 (k 30 (by decide) (by decide) (by decide)).2
theorem VS.ow {S S' : St} {e : Env} {t : Int × Int × Int} (h : VS e S t) (k : Ow S S') : VS e S' t := by
  unfold VS at h ⊢
  rw [(k 212 (by decide) (by decide) (by decide)).2, (k 213 (by decide) (by decide) (by decide)).2, (k 214 (by decide) (by decide) (by decide)).2]
  exact h
section WY
variable {S : St} {K : Int → St → Prop} {e : Env} {A : List Int} {o f c i k w : Int}
theorem r_hasN (hE : cE S e) (ho : eN e ≤ o) (hK : K 0 S) : wX1_has o S K := by
  have h1 := hE.1
  unfold wX1_has
  intro _
  exact ⟨fun _ => hK, fun _ _ => ⟨fun _ => hK, fun h => absurd ho (by omega)⟩⟩
theorem cnF_succ {n j : Int} (h : j < n) : cnF e o f c (n - j).toNat j = (if eK e (eP e o f j) = c then 1 else 0) + cnF e o f c (n - (j + 1)).toNat (j + 1) := by
  rw [show (n - j).toNat = (n - (j + 1)).toNat + 1 by omega]
  rfl
theorem cnF_end {n j : Int} (h : n ≤ j) : cnF e o f c (n - j).toNat j = 0 := by
  rw [show (n - j).toNat = 0 by omega]
  rfl
theorem r_rank (hE : cE S e) (hV : EV e) (ho : okO e o) (h : Owr e (S.2 212 o) (S.2 213 o) (S.2 214 o) o) (hK : K (if 0 ≤ S.2 212 o ∧ eD e (eK e (S.2 212 o)) (S.2 213 o) = 3 then rnk e (S.2 212 o) (S.2 213 o) (S.2 214 o) else 0) S) : wX8_rankAmongItems o S K := by
  have hb := okO_b hV ho
  unfold wX8_rankAmongItems
  intro _
  refine ⟨by omega, by omega, fun g1 x hx => ?_⟩
  subst hx
  rcases h with ⟨h1, h2⟩ | ⟨h1, h2, h3⟩
  · rw [if_neg (by omega)] at hK
    rw [h1]
    exact r_cls0 (by decide) ⟨by omega, by omega, fun _ => ⟨⟨by decide, by decide⟩, r_shapen (by decide) ⟨⟨by decide, by decide⟩, fun h => absurd h (by decide), fun _ => hK⟩⟩⟩
  · have hwb := okO_b hV h1
    have hfb := okF_b hV h2
    have hd := (hV.2.2.2.2.1 _ _ h2).1
    refine r_cls hE hV h1 ⟨by omega, by omega, fun g2 => ⟨⟨by omega, by omega⟩, r_shape hE hV h2 ⟨⟨by omega, by omega⟩, fun h4 => ?_, fun h4 => ?_⟩⟩⟩
    · have hd3 : eD e (eK e (S.2 212 o)) (S.2 213 o) = 3 := by omega
      obtain ⟨-, p1, p2, p3⟩ := h3.resolve_left (by omega)
      have hv := (hV.2.2.2.2.2 _ _ h1 h2).2.2.2 hd3
      rw [if_pos ⟨h1.1, hd3⟩] at hK
      unfold rnk at hK
      unfold wX8_rankAmongItems_39
      rw [p3] at hK
      refine ⟨fun l1 l2 l3 l4 T => l1 = o ∧ l2 = S.2 212 o ∧ 0 ≤ l4 ∧ l4 ≤ S.2 214 o + 1 ∧ 0 ≤ l3 ∧ l3 ≤ l4 ∧ T = S ∧ l3 + cnF e (S.2 212 o) (S.2 213 o) (eK e o) (S.2 214 o + 1 - l4).toNat l4 = cnF e (S.2 212 o) (S.2 213 o) (eK e o) (S.2 214 o + 1).toNat 0, fun l1 l2 l3 l4 T => (S.2 214 o + 1 - l4).toNat, ⟨rfl, rfl, by decide, by omega, by decide, by decide, rfl, by simp⟩, fun l1 l2 l3 l4 T hI => ?_⟩
      obtain ⟨rfl, rfl, i1, i2, i3, i4, rfl, i5⟩ := hI
      unfold wX8_rankAmongItems_39' wX8_rankAmongItems_87
      refine ⟨by omega, by omega, fun g3 => ⟨⟨by omega, by omega⟩, fun h5 => ?_, fun h5 => ⟨by omega, by omega, fun g4 => ⟨⟨by omega, by omega⟩, ?_⟩⟩⟩⟩
      · rw [cnF_end (by omega)] at i5
        rw [← i5, Int.add_zero] at hK
        exact hK
      · have hp := hv.2 l4 i1 (by omega)
        have hpb := okO_b hV hp
        have hpc := okC_b hV (hV.2.2.1 _ hp)
        have hoc := okC_b hV (hV.2.2.1 _ ho)
        rw [cnF_succ (by omega)] at i5
        refine r_cell hE hV h1 h2 (Or.inr hd3) i1 (by omega) ⟨⟨by omega, by omega⟩, r_cls hE hV hp ⟨⟨by omega, by omega⟩, r_cls hE hV ho ⟨⟨by omega, by omega⟩, ⟨by omega, by omega⟩, fun h6 => ?_, fun h6 => ?_⟩⟩⟩
        · rw [if_neg h6, Int.zero_add] at i5
          exact ⟨⟨rfl, rfl, by omega, by omega, by omega, by omega, rfl, i5⟩, by dsimp only; omega⟩
        · rw [if_pos (Classical.not_not.mp h6)] at i5
          exact ⟨⟨rfl, rfl, by omega, by omega, by omega, by omega, rfl, by omega⟩, by dsimp only; omega⟩
    · rw [if_neg (by omega)] at hK
      exact hK
theorem o_step {t : Int × Int × Int} (hE : cE S e) (hV : EV e) (hO : oC S 22 A) (ht : VS e S t) (hK : ∀ S', Of S S' → oC S' 22 (A ++ stp e t) → K 0 S') : wX8_step t.1 S K := by
  have hN := hV.1
  unfold wX8_step
  intro _
  rcases ht with ⟨h1, h2, h3, h4⟩ | ⟨w, f, h1, h2, rfl⟩
  · have hb := okO_b hV h1
    have hn := nmo_ok hV h1 h2
    have hnb := okN_b hV hn
    refine r_has1 hE h1 ⟨⟨by decide, by decide⟩, fun _ => ⟨by omega, by omega, fun g1 => ⟨by omega, by omega, fun g2 => ?_⟩⟩, fun h => absurd (show ¬ (1 : Int) = 0 by decide) h⟩
    refine r_nameOf hE hV h1 h2 ⟨⟨by omega, by omega⟩, o_spellTo hE hO hn hnb (fun S1 f1 o1 => ?_)⟩
    have e212 := (f1 212 (by decide)).2
    have e213 := (f1 213 (by decide)).2
    have e214 := (f1 214 (by decide)).2
    refine r_rank (hE.of f1) hV h1 (by rw [e212, e213, e214]; exact h2) ?_
    rw [e212, e213, e214]
    unfold stp at hK
    rw [h3, h4] at hK
    unfold rko at hK
    have pr : ∀ r : Int, rng r → (∀ S', Of S S' → oC S' 22 (A ++ (eL e (nmo e (S.2 212 t.1) (S.2 213 t.1) t.1) ++ (if 1 < r then [91] ++ num r ++ [93] else []))) → K 0 S') → (rng r ∧ (r ≤ 1 → K 0 S1) ∧ (¬ r ≤ 1 → wX5_put 22 91 S1 (fun _ S18 => wX8_number r S18 (fun _ S20 => wX5_put 22 93 S20 (fun _ S22 => K 0 S22))))) := fun r hr hk => by
      refine ⟨hr, fun h => ?_, fun h => ?_⟩
      · rw [if_neg (by omega), List.append_nil] at hk
        exact hk S1 f1 o1
      · rw [if_pos (by omega)] at hk
        refine t_put o1 ⟨by decide, by decide⟩ (fun r2 S2 f2 o2 => o_number hr o2 (fun S3 f3 o3 => t_put o3 ⟨by decide, by decide⟩ (fun r4 S4 f4 o4 => hk S4 (((f1.tr f2).tr f3).tr f4) ?_)))
        simp only [List.append_assoc] at o4 ⊢
        exact o4
    by_cases q : 0 ≤ S.2 212 t.1 ∧ eD e (eK e (S.2 212 t.1)) (S.2 213 t.1) = 3
    · rw [if_pos q] at hK ⊢
      refine pr _ ?_ hK
      have hw := h2.resolve_left (fun r => by have := r.1; omega)
      have hi := hw.2.2.resolve_left (fun r => by have := r.symm.trans q.2; omega)
      have hv := ((hV.2.2.2.2.2 _ _ hw.1 hw.2.1).2.2.2 q.2).1
      unfold rnk
      have bd : ∀ (n : Nat) (o f c j : Int), 0 ≤ cnF e o f c n j ∧ cnF e o f c n j ≤ n := fun n => by
        induction n with
        | zero => intro o f c j; exact ⟨Int.le_refl _, Int.le_refl _⟩
        | succ n ih =>
          intro o f c j
          have := ih o f c (j + 1)
          unfold cnF
          split <;> omega
      have := bd (S.2 214 t.1 + 1).toNat (S.2 212 t.1) (S.2 213 t.1) (eK e (eP e (S.2 212 t.1) (S.2 213 t.1) (S.2 214 t.1))) 0
      omega
    · rw [if_neg q] at hK ⊢
      refine pr 0 ⟨by decide, by decide⟩ (fun S' g1 g2 => hK S' g1 ?_)
      rw [if_neg (by decide)] at g2
      exact g2
  · have hb := okO_b hV h1
    have hfb := okF_b hV h2
    have hn := nmF_ok h2
    have hnb := okN_b hV hn
    unfold stp at hK
    rw [if_neg (show ¬ (1 : Int) < 1 by decide), List.append_nil] at hK
    refine r_hasN hE (show eN e ≤ 30 + w * 4 + f by omega) ⟨⟨by decide, by decide⟩, fun h => absurd rfl h, fun _ => ?_⟩
    dsimp only
    have d1 : (if 0 < 30 + w * 4 + f - 30 then 30 + w * 4 + f - 30 else 0) = w * 4 + f := by
      by_cases q : 0 < 30 + w * 4 + f - 30
      · rw [if_pos q]
        omega
      · rw [if_neg q]
        omega
    have d2 : Int.tdiv (w * 4 + f) 4 = w := by
      rw [Int.tdiv_eq_ediv_of_nonneg (by omega)]
      omega
    rw [d1, d2]
    refine ⟨⟨by omega, by omega⟩, ⟨by omega, by omega⟩, ⟨by omega, by omega⟩, r_cls hE hV h1 ⟨⟨by omega, by omega⟩, ⟨by omega, by omega⟩, r_fname ?_⟩⟩
    rw [show w * 4 + f - w * 4 = f by omega]
    unfold nmF at hn hnb hK
    exact ⟨⟨by omega, by omega⟩, o_spellTo hE hO hn hnb hK⟩
/-- a row holds the keys of a way, the last one first -/
def rw216 (S : St) (p : Pth) : Prop := ∀ j : Nat, j < p.length → S.2 216 ((p.length : Int) - 1 - j) = (p.getD j (0, 0, 0)).1
theorem rw216_cons {S : St} {p : Pth} {t : Int × Int × Int} {x : Int} (h : rw216 S p) (hx : x = t.1) : rw216 (pA S 216 (p.length : Int) x) (t :: p) := by
  intro j hj
  subst hx
  show (if 216 = 216 ∧ ((t :: p).length : Int) - 1 - j = (p.length : Int) then t.1 else S.2 216 (((t :: p).length : Int) - 1 - j)) = _
  rw [show ((t :: p).length : Int) = (p.length : Int) + 1 by simp]
  cases j with
  | zero =>
    rw [if_pos ⟨rfl, by omega⟩]
    rfl
  | succ j =>
    have hj2 : j < p.length := by simpa using hj
    rw [if_neg (by omega), show ((p.length : Int) + 1 - 1 - (j + 1 : Nat) : Int) = (p.length : Int) - 1 - j by omega]
    exact h j hj2
theorem o_anc216 {s : Ws} {dn : Pth} (hE : cE S e) (hV : EV e) (hm : ¬ eO e = 3) (hR : WrR S e s) (hw : w = -2 ∨ (okO e w ∧ 0 < s.2.1 w)) (hd : dn.length ≤ 2) (hr : rw216 S dn) (hK : ∀ S', (∀ a, a ≠ 216 → S'.1 a = S.1 a ∧ S'.2 a = S.2 a) → rw216 S' ((if w < 0 then [] else s.2.2.1 w) ++ dn) → ((if w < 0 then [] else s.2.2.1 w) ++ dn).length ≤ 42 → K (((if w < 0 then [] else s.2.2.1 w) ++ dn).length : Nat) S') : wX8_ancestry (dn.length : Nat) w S K := by
  unfold wX8_ancestry
  intro _ _
  unfold wX8_ancestry_9
  have hP := hR.2.2.2.2.2.2 hm
  refine ⟨fun l4 l5 l6 T => 0 ≤ l6 ∧ (∀ a, a ≠ 216 → T.1 a = S.1 a ∧ T.2 a = S.2 a) ∧ (l5 = -2 ∨ (okO e l5 ∧ 0 < s.2.1 l5)) ∧ ∃ d2 : Pth, (if l5 < 0 then [] else s.2.2.1 l5) ++ d2 = (if w < 0 then [] else s.2.2.1 w) ++ dn ∧ l4 = (d2.length : Int) ∧ (d2.length : Int) ≤ 2 + 2 * l6 ∧ rw216 T d2 ∧ l6 + noc (if l5 < 0 then [] else s.2.2.1 l5) ≤ 20, fun l4 l5 l6 T => (30 - l6).toNat, ⟨by decide, fun a _ => ⟨rfl, rfl⟩, hw, dn, rfl, rfl, by omega, hr, ?_⟩, fun l4 l5 l6 T hI => ?_⟩
  · rcases hw with rfl | ⟨h1, h2⟩
    · rw [if_pos (by decide)]
      decide
    · rw [if_neg (by have := h1.1; omega)]
      have := (hP w h1 h2).1.2.2.2
      omega
  obtain ⟨i1, fT, h5, d2, i2, rfl, i3, i4, i5⟩ := hI
  have oT : Ow S T := fun a _ _ _ => fT a (by omega)
  have hET := hE.ow oT
  have e212 := (fT 212 (by decide)).2
  have e213 := (fT 213 (by decide)).2
  have e214 := (fT 214 (by decide)).2
  unfold wX8_ancestry_9' wX8_ancestry_100
  have fin : l5 = -2 → K (d2.length : Nat) T := fun q => by
    subst q
    rw [if_pos (by decide), List.nil_append] at i2
    subst i2
    exact hK T fT i4 (by omega)
  refine ⟨⟨by omega, by omega⟩, fun h => absurd i5 (by omega), fun h => ?_⟩
  rcases h5 with rfl | ⟨h6, h7⟩
  · exact ⟨⟨by decide, by decide⟩, r_has0 (by decide) ⟨⟨by decide, by decide⟩, fun _ => fin rfl, fun h => absurd rfl h⟩⟩
  · have hb := okO_b hV h6
    obtain ⟨⟨p1, p2, p3, p4⟩, p5⟩ := hP l5 h6 h7
    rw [if_neg (show ¬ l5 < 0 by omega)] at i2 i5
    obtain ⟨t, ht⟩ : ∃ t : Int × Int × Int, t = (l5, nmo e (S.2 212 l5) (S.2 213 l5) l5, rko e (S.2 212 l5) (S.2 213 l5) (S.2 214 l5)) := ⟨_, rfl⟩
    rw [← ht] at p3
    have ht1 : t.1 = l5 := by rw [ht]
    refine ⟨⟨by omega, by omega⟩, r_has1 hET h6 ⟨⟨by decide, by decide⟩, fun h => absurd h (by decide), fun _ => ⟨⟨by omega, by omega⟩, fun h => absurd h (by omega), fun _ => ⟨by omega, by omega, ⟨by omega, by omega⟩, fun S11 hS11 => ?_⟩⟩⟩⟩
    have f11 : ∀ a, a ≠ 216 → S11.1 a = S.1 a ∧ S11.2 a = S.2 a := fun a ha => by
      rw [hS11]
      exact ⟨(pA_ne a ha).1.trans (fT a ha).1, (pA_ne a ha).2.trans (fT a ha).2⟩
    have hE11 := hE.ow (S' := S11) (fun a _ _ _ => f11 a (by omega))
    have r11 : rw216 S11 (t :: d2) := by
      rw [hS11]
      exact rw216_cons i4 ht1.symm
    rw [show S11.2 212 = S.2 212 from (f11 212 (by decide)).2]
    refine ⟨by omega, by omega, fun g12 x hx => ?_⟩
    subst hx
    have noc1 : noc (ppp e s (S.2 212 l5) (S.2 213 l5)) + 1 = noc (s.2.2.1 l5) := by
      rw [p3]
      unfold noc
      rw [List.filter_append, List.length_append]
      have : decide (t.1 < 30) = true := decide_eq_true (by omega)
      simp [this]
    rcases p1 with ⟨q1, q2⟩ | ⟨q1, q2, q3⟩
    · -- the root
      have hpp : ppp e s (S.2 212 l5) (S.2 213 l5) = [] := by
        unfold ppp
        rw [if_pos (by omega)]
      rw [hpp] at p3 noc1
      rw [q1]
      refine r_cls0 (by decide) ⟨by omega, by omega, fun g13 => ⟨⟨by decide, by decide⟩, r_expln (by decide) ⟨⟨by decide, by decide⟩, fun _ => ?_, fun h => absurd rfl h⟩⟩⟩
      refine ⟨⟨by omega, f11, Or.inl rfl, t :: d2, ?_, by simp, by simp; omega, r11, ?_⟩, by dsimp only; omega⟩
      · rw [← i2, p3, if_pos (by decide)]
        simp
      · rw [if_pos (by decide)]
        have : noc [] = 0 := rfl
        omega
    · have qb := okO_b hV q1
      have qfb := okF_b hV q2
      have hw0 : ¬ S.2 212 l5 < 0 := by omega
      refine r_cls hE11 hV q1 ⟨by omega, by omega, fun g13 => ?_⟩
      rw [show S11.2 213 = S.2 213 from (f11 213 (by decide)).2]
      have qcb := okC_b hV q2.1
      refine ⟨⟨by omega, by omega⟩, r_expl hE11 hV q2 ?_⟩
      unfold ppp at p3 noc1
      rw [if_neg hw0] at p3 noc1
      by_cases qq : eD e (eK e (S.2 212 l5)) (S.2 213 l5) = 3 ∧ ¬ eM e (eK e (S.2 212 l5)) (S.2 213 l5) = 1
      · rw [if_pos qq] at p3 noc1 ⊢
        refine ⟨⟨by decide, by decide⟩, fun h => absurd h (by decide), fun _ => ⟨by omega, by omega, fun g14 => ?_⟩⟩
        rw [show S11.2 213 = S.2 213 from (f11 213 (by decide)).2]
        unfold wX8_listElement
        intro _ _
        refine ⟨by omega, by omega, ⟨by omega, by omega⟩, fun S32 hS32 => ?_⟩
        have f32 : ∀ a, a ≠ 216 → S32.1 a = S.1 a ∧ S32.2 a = S.2 a := fun a ha => by
          rw [hS32]
          exact ⟨(pA_ne a ha).1.trans (f11 a ha).1, (pA_ne a ha).2.trans (f11 a ha).2⟩
        unfold lst at p3 noc1
        refine ⟨⟨by omega, f32, Or.inr ⟨q1, p2 q1.1⟩, (30 + S.2 212 l5 * 4 + S.2 213 l5, nmF e (S.2 212 l5) (S.2 213 l5), 1) :: t :: d2, ?_, by simp, by simp; omega, ?_, ?_⟩, by dsimp only; omega⟩
        · rw [← i2, p3, if_neg hw0]
          simp
        · rw [hS32]
          have := rw216_cons (x := 30 + S.2 212 l5 * 4 + S.2 213 l5) (t := (30 + S.2 212 l5 * 4 + S.2 213 l5, nmF e (S.2 212 l5) (S.2 213 l5), 1)) r11 rfl
          rw [show ((t :: d2).length : Int) = (d2.length : Int) + 1 by simp] at this
          exact this
        · rw [if_neg hw0]
          have : noc (s.2.2.1 (S.2 212 l5)) ≤ noc (s.2.2.1 (S.2 212 l5) ++ [(30 + S.2 212 l5 * 4 + S.2 213 l5, nmF e (S.2 212 l5) (S.2 213 l5), 1)]) := by
            unfold noc
            rw [List.filter_append, List.length_append]
            omega
          omega
      · rw [if_neg qq] at p3 noc1 ⊢
        refine ⟨⟨by decide, by decide⟩, fun _ => ⟨⟨by omega, f11, Or.inr ⟨q1, p2 q1.1⟩, t :: d2, ?_, by simp, by simp; omega, r11, ?_⟩, by dsimp only; omega⟩, fun h => absurd rfl h⟩
        · rw [← i2, p3, if_neg hw0]
          simp
        · rw [if_neg hw0]
          omega
/-- a row holds the keys of a way, the last one first -/
def rw215 (S : St) (p : Pth) : Prop := ∀ j : Nat, j < p.length → S.2 215 ((p.length : Int) - 1 - j) = (p.getD j (0, 0, 0)).1
theorem rw215_cons {S : St} {p : Pth} {t : Int × Int × Int} {x : Int} (h : rw215 S p) (hx : x = t.1) : rw215 (pA S 215 (p.length : Int) x) (t :: p) := by
  intro j hj
  subst hx
  show (if 215 = 215 ∧ ((t :: p).length : Int) - 1 - j = (p.length : Int) then t.1 else S.2 215 (((t :: p).length : Int) - 1 - j)) = _
  rw [show ((t :: p).length : Int) = (p.length : Int) + 1 by simp]
  cases j with
  | zero =>
    rw [if_pos ⟨rfl, by omega⟩]
    rfl
  | succ j =>
    have hj2 : j < p.length := by simpa using hj
    rw [if_neg (by omega), show ((p.length : Int) + 1 - 1 - (j + 1 : Nat) : Int) = (p.length : Int) - 1 - j by omega]
    exact h j hj2
theorem o_anc215 {s : Ws} {dn : Pth} (hE : cE S e) (hV : EV e) (hm : ¬ eO e = 3) (hR : WrR S e s) (hw : w = -2 ∨ (okO e w ∧ 0 < s.2.1 w)) (hd : dn.length ≤ 2) (hr : rw215 S dn) (hK : ∀ S', (∀ a, a ≠ 215 → S'.1 a = S.1 a ∧ S'.2 a = S.2 a) → rw215 S' ((if w < 0 then [] else s.2.2.1 w) ++ dn) → ((if w < 0 then [] else s.2.2.1 w) ++ dn).length ≤ 42 → K (((if w < 0 then [] else s.2.2.1 w) ++ dn).length : Nat) S') : wX8_ancestry_b (dn.length : Nat) w S K := by
  unfold wX8_ancestry_b
  intro _ _
  unfold wX8_ancestry_b_9
  have hP := hR.2.2.2.2.2.2 hm
  refine ⟨fun l4 l5 l6 T => 0 ≤ l6 ∧ (∀ a, a ≠ 215 → T.1 a = S.1 a ∧ T.2 a = S.2 a) ∧ (l5 = -2 ∨ (okO e l5 ∧ 0 < s.2.1 l5)) ∧ ∃ d2 : Pth, (if l5 < 0 then [] else s.2.2.1 l5) ++ d2 = (if w < 0 then [] else s.2.2.1 w) ++ dn ∧ l4 = (d2.length : Int) ∧ (d2.length : Int) ≤ 2 + 2 * l6 ∧ rw215 T d2 ∧ l6 + noc (if l5 < 0 then [] else s.2.2.1 l5) ≤ 20, fun l4 l5 l6 T => (30 - l6).toNat, ⟨by decide, fun a _ => ⟨rfl, rfl⟩, hw, dn, rfl, rfl, by omega, hr, ?_⟩, fun l4 l5 l6 T hI => ?_⟩
  · rcases hw with rfl | ⟨h1, h2⟩
    · rw [if_pos (by decide)]
      decide
    · rw [if_neg (by have := h1.1; omega)]
      have := (hP w h1 h2).1.2.2.2
      omega
  obtain ⟨i1, fT, h5, d2, i2, rfl, i3, i4, i5⟩ := hI
  have oT : Ow S T := fun a _ _ _ => fT a (by omega)
  have hET := hE.ow oT
  have e212 := (fT 212 (by decide)).2
  have e213 := (fT 213 (by decide)).2
  have e214 := (fT 214 (by decide)).2
  unfold wX8_ancestry_b_9' wX8_ancestry_b_100
  have fin : l5 = -2 → K (d2.length : Nat) T := fun q => by
    subst q
    rw [if_pos (by decide), List.nil_append] at i2
    subst i2
    exact hK T fT i4 (by omega)
  refine ⟨⟨by omega, by omega⟩, fun h => absurd i5 (by omega), fun h => ?_⟩
  rcases h5 with rfl | ⟨h6, h7⟩
  · exact ⟨⟨by decide, by decide⟩, r_has0 (by decide) ⟨⟨by decide, by decide⟩, fun _ => fin rfl, fun h => absurd rfl h⟩⟩
  · have hb := okO_b hV h6
    obtain ⟨⟨p1, p2, p3, p4⟩, p5⟩ := hP l5 h6 h7
    rw [if_neg (show ¬ l5 < 0 by omega)] at i2 i5
    obtain ⟨t, ht⟩ : ∃ t : Int × Int × Int, t = (l5, nmo e (S.2 212 l5) (S.2 213 l5) l5, rko e (S.2 212 l5) (S.2 213 l5) (S.2 214 l5)) := ⟨_, rfl⟩
    rw [← ht] at p3
    have ht1 : t.1 = l5 := by rw [ht]
    refine ⟨⟨by omega, by omega⟩, r_has1 hET h6 ⟨⟨by decide, by decide⟩, fun h => absurd h (by decide), fun _ => ⟨⟨by omega, by omega⟩, fun h => absurd h (by omega), fun _ => ⟨by omega, by omega, ⟨by omega, by omega⟩, fun S11 hS11 => ?_⟩⟩⟩⟩
    have f11 : ∀ a, a ≠ 215 → S11.1 a = S.1 a ∧ S11.2 a = S.2 a := fun a ha => by
      rw [hS11]
      exact ⟨(pA_ne a ha).1.trans (fT a ha).1, (pA_ne a ha).2.trans (fT a ha).2⟩
    have hE11 := hE.ow (S' := S11) (fun a _ _ _ => f11 a (by omega))
    have r11 : rw215 S11 (t :: d2) := by
      rw [hS11]
      exact rw215_cons i4 ht1.symm
    rw [show S11.2 212 = S.2 212 from (f11 212 (by decide)).2]
    refine ⟨by omega, by omega, fun g12 x hx => ?_⟩
    subst hx
    have noc1 : noc (ppp e s (S.2 212 l5) (S.2 213 l5)) + 1 = noc (s.2.2.1 l5) := by
      rw [p3]
      unfold noc
      rw [List.filter_append, List.length_append]
      have : decide (t.1 < 30) = true := decide_eq_true (by omega)
      simp [this]
    rcases p1 with ⟨q1, q2⟩ | ⟨q1, q2, q3⟩
    · -- the root
      have hpp : ppp e s (S.2 212 l5) (S.2 213 l5) = [] := by
        unfold ppp
        rw [if_pos (by omega)]
      rw [hpp] at p3 noc1
      rw [q1]
      refine r_cls0 (by decide) ⟨by omega, by omega, fun g13 => ⟨⟨by decide, by decide⟩, r_expln (by decide) ⟨⟨by decide, by decide⟩, fun _ => ?_, fun h => absurd rfl h⟩⟩⟩
      refine ⟨⟨by omega, f11, Or.inl rfl, t :: d2, ?_, by simp, by simp; omega, r11, ?_⟩, by dsimp only; omega⟩
      · rw [← i2, p3, if_pos (by decide)]
        simp
      · rw [if_pos (by decide)]
        have : noc [] = 0 := rfl
        omega
    · have qb := okO_b hV q1
      have qfb := okF_b hV q2
      have hw0 : ¬ S.2 212 l5 < 0 := by omega
      refine r_cls hE11 hV q1 ⟨by omega, by omega, fun g13 => ?_⟩
      rw [show S11.2 213 = S.2 213 from (f11 213 (by decide)).2]
      have qcb := okC_b hV q2.1
      refine ⟨⟨by omega, by omega⟩, r_expl hE11 hV q2 ?_⟩
      unfold ppp at p3 noc1
      rw [if_neg hw0] at p3 noc1
      by_cases qq : eD e (eK e (S.2 212 l5)) (S.2 213 l5) = 3 ∧ ¬ eM e (eK e (S.2 212 l5)) (S.2 213 l5) = 1
      · rw [if_pos qq] at p3 noc1 ⊢
        refine ⟨⟨by decide, by decide⟩, fun h => absurd h (by decide), fun _ => ⟨by omega, by omega, fun g14 => ?_⟩⟩
        rw [show S11.2 213 = S.2 213 from (f11 213 (by decide)).2]
        unfold wX8_listElement
        intro _ _
        refine ⟨by omega, by omega, ⟨by omega, by omega⟩, fun S32 hS32 => ?_⟩
        have f32 : ∀ a, a ≠ 215 → S32.1 a = S.1 a ∧ S32.2 a = S.2 a := fun a ha => by
          rw [hS32]
          exact ⟨(pA_ne a ha).1.trans (f11 a ha).1, (pA_ne a ha).2.trans (f11 a ha).2⟩
        unfold lst at p3 noc1
        refine ⟨⟨by omega, f32, Or.inr ⟨q1, p2 q1.1⟩, (30 + S.2 212 l5 * 4 + S.2 213 l5, nmF e (S.2 212 l5) (S.2 213 l5), 1) :: t :: d2, ?_, by simp, by simp; omega, ?_, ?_⟩, by dsimp only; omega⟩
        · rw [← i2, p3, if_neg hw0]
          simp
        · rw [hS32]
          have := rw215_cons (x := 30 + S.2 212 l5 * 4 + S.2 213 l5) (t := (30 + S.2 212 l5 * 4 + S.2 213 l5, nmF e (S.2 212 l5) (S.2 213 l5), 1)) r11 rfl
          rw [show ((t :: d2).length : Int) = (d2.length : Int) + 1 by simp] at this
          exact this
        · rw [if_neg hw0]
          have : noc (s.2.2.1 (S.2 212 l5)) ≤ noc (s.2.2.1 (S.2 212 l5) ++ [(30 + S.2 212 l5 * 4 + S.2 213 l5, nmF e (S.2 212 l5) (S.2 213 l5), 1)]) := by
            unfold noc
            rw [List.filter_append, List.length_append]
            omega
          omega
      · rw [if_neg qq] at p3 noc1 ⊢
        refine ⟨⟨by decide, by decide⟩, fun _ => ⟨⟨by omega, f11, Or.inr ⟨q1, p2 q1.1⟩, t :: d2, ?_, by simp, by simp; omega, r11, ?_⟩, by dsimp only; omega⟩, fun h => absurd rfl h⟩
        · rw [← i2, p3, if_neg hw0]
          simp
        · rw [if_neg hw0]
          omega
end WY

