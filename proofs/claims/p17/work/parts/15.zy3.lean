/-! WHETHER TWO GRAPHS ARE THE SAME: the class -/
/-- the class's heap that was read (cells 46 to 49) -/
def cH6 (S : St) (e : Env) (h : Hs) : Prop := S.1 46 3 = h.1 ∧ (∀ o, 0 ≤ o → o < h.1 → S.2 47 o = h.2.1 o) ∧ (∀ o f, 0 ≤ o → o < h.1 → okF e (h.2.1 o) f → S.2 48 (o * 4 + f) = h.2.2.1 o f) ∧ ∀ o f i, 0 ≤ o → o < h.1 → okF e (h.2.1 o) f → (eD e (h.2.1 o) f = 1 ∨ eD e (h.2.1 o) f = 3) → 0 ≤ i → i < h.2.2.1 o f → S.2 49 ((o * 4 + f) * 20 + i) = h.2.2.2 o f i
def LQ (S : St) (Q : Pq) : Prop := S.1 250 6 = Q.length ∧ (∀ k : Nat, k < Q.length → S.2 253 k = (Q.getD k (0, 0)).1) ∧ (∀ a, 0 ≤ a → a < 30 → (∃ b, (a, b) ∈ Q ∧ S.2 251 a = b) ∨ ((∀ b, ¬ (a, b) ∈ Q) ∧ S.2 251 a = -2)) ∧ ∀ b, 0 ≤ b → b < 30 → (∃ a, (a, b) ∈ Q ∧ S.2 252 b = a) ∨ ((∀ a, ¬ (a, b) ∈ Q) ∧ S.2 252 b = -2)
/-- only Likeness' own cells change -/
def LF (S S' : St) : Prop := (∀ a, ¬ a = 250 → S'.1 a = S.1 a) ∧ ∀ a, a < 251 ∨ 253 < a → S'.2 a = S.2 a
theorem LF.rf {S : St} : LF S S := ⟨fun _ _ => rfl, fun _ _ => rfl⟩
theorem LF.tr {S S1 S2 : St} (h : LF S S1) (g : LF S1 S2) : LF S S2 := ⟨fun a q => (g.1 a q).trans (h.1 a q), fun a q => (g.2 a q).trans (h.2 a q)⟩
section YD
variable {S S' : St} {K : Int → St → Prop} {e : Env} {h : Hs} {Q Q' : Pq} {a b f i o : Int}
theorem cE.lf (hE : cE S e) (g : LF S S') : cE S' e := hE.mv (by rw [g.1 42 (by decide)]) (by rw [g.1 24 (by decide)]) (g.2 43 (by decide)) (g.2 44 (by decide)) (g.2 45 (by decide)) (g.2 25 (by decide)) (g.2 26 (by decide)) (g.2 27 (by decide)) (g.2 28 (by decide)) (g.2 29 (by decide)) (g.2 30 (by decide))
theorem cH6.lf (hE : cH6 S e h) (g : LF S S') : cH6 S' e h := by
  unfold cH6 at hE ⊢
  rw [g.1 46 (by decide), g.2 47 (by decide), g.2 48 (by decide), g.2 49 (by decide)]
  exact hE
theorem d_has (g : cH6 S e h) (hK : ∀ r, (r = 1 ∧ 0 ≤ o ∧ o < h.1) ∨ (r = 0 ∧ ¬ (0 ≤ o ∧ o < h.1)) → K r S) : wX1_has_c o S K := by
  unfold wX1_has_c
  intro _
  rw [g.1]
  exact ⟨fun z => hK 0 (Or.inr ⟨rfl, by omega⟩), fun z _ => ⟨fun z2 => hK 0 (Or.inr ⟨rfl, by omega⟩), fun z2 => hK 1 (Or.inl ⟨rfl, by omega, by omega⟩)⟩⟩
theorem d_cls (g : cH6 S e h) (hH : EH e h) (ho : 0 ≤ o ∧ o < h.1) (hK : K (h.2.1 o) S) : wX1_classOf_c o S K := by
  have h30 := hH.1
  unfold wX1_classOf_c
  refine fun _ => d_has g (fun r hr => ?_)
  rcases hr with ⟨rfl, -⟩ | ⟨-, z⟩
  · refine ⟨⟨by decide, by decide⟩, fun z => absurd z (by decide), fun _ => ⟨ho.1, by omega, fun _ => ?_⟩⟩
    rw [g.2.1 o ho.1 ho.2]
    exact hK
  · exact absurd ho z
theorem d_head (g : cH6 S e h) (hV : EV e) (hH : EH e h) (ho : 0 ≤ o ∧ o < h.1) (hf : okF e (h.2.1 o) f) (hK : K (h.2.2.1 o f) S) : wX1_head_c o f S K := by
  have h30 := hH.1
  have f4 := okF4 hV hf
  unfold wX1_head_c wX1_hasField_c
  intro _ _ _ _
  rw [g.1]
  refine ⟨fun z => absurd z (by omega), fun _ _ => ⟨fun z => absurd z (by omega), fun _ => ⟨fun z => absurd z (by omega), fun _ => ⟨fun z => absurd z (by omega), fun _ => ⟨⟨by decide, by decide⟩, fun z => absurd z (by decide), fun _ => ⟨by omega, by omega, fun _ => ?_⟩⟩⟩⟩⟩⟩
  rw [g.2.2.1 o f ho.1 ho.2 hf]
  exact hK
theorem d_cell (g : cH6 S e h) (hV : EV e) (hH : EH e h) (ho : 0 ≤ o ∧ o < h.1) (hf : okF e (h.2.1 o) f) (hd : eD e (h.2.1 o) f = 1 ∨ eD e (h.2.1 o) f = 3) (i0 : 0 ≤ i) (i1 : i < h.2.2.1 o f) (hK : K (h.2.2.2 o f i) S) : wX1_cell_b o f i S K := by
  have h30 := hH.1
  have f4 := okF4 hV hf
  have h20 := hH.ew.c20 ho.1 ho.2 hf hd
  have e48 := g.2.2.1 o f ho.1 ho.2 hf
  unfold wX1_cell_b wX1_hasCell_c
  intro _ _ _ _ _ _
  rw [g.1, e48]
  refine ⟨fun z => absurd z (by omega), fun _ _ => ⟨fun z => absurd z (by omega), fun _ => ⟨fun z => absurd z (by omega), fun _ => ⟨fun z => absurd z (by omega), fun _ => ⟨fun z => absurd z (by omega), fun _ => ⟨fun z => absurd z (by omega), fun _ => ⟨by omega, by omega, fun _ => ⟨fun z => absurd z (by omega), fun _ => ⟨⟨by decide, by decide⟩, fun z => absurd z (by decide), fun _ => ⟨by omega, by omega, fun _ => ?_⟩⟩⟩⟩⟩⟩⟩⟩⟩⟩
  rw [g.2.2.2 o f i ho.1 ho.2 hf hd i0 i1]
  exact hK
/-- what pairing leaves -/
def LO (S : St) (res : Option Pq) (r : Int) (S' : St) : Prop := LF S S' ∧ ((r = 0 ∧ res = none) ∨ (r = 1 ∧ ∃ Q', res = some Q' ∧ LQ S' Q'))
theorem k_pairs (hE : cE S e) (hV : EV e) (g : cH6 S e h) (hH : EH e h) (hL : LQ S Q) (hQ : QI e h Q) (ha : tgV (eN e) a) (hb : tgV h.1 b) (hK : ∀ r S', LO S (prX true e h Q a b) r S' → K r S') : wX2_pairs a b S K := by
  have h30 := hH.1
  have n30 := hV.1
  have ql := hQ.len n30.2
  obtain ⟨l1, l2, l3, l4⟩ := hL
  unfold prX at hK
  -- one of them is none
  have t22 : (a = -2 ∨ b = -2) → wX2_pairs_22 a b S K := fun w => by
    rw [if_pos w] at hK
    unfold wX2_pairs_22
    have ra : rng a := by
      rcases ha with y | y
      · rw [y]
        exact ⟨by decide, by decide⟩
      · exact ⟨by omega, by omega⟩
    have rb : rng b := by
      rcases hb with y | y
      · rw [y]
        exact ⟨by decide, by decide⟩
      · exact ⟨by omega, by omega⟩
    refine ⟨ra, c_hasO hE (fun r hr => ⟨rb, d_has g (fun r2 hr2 => ?_)⟩)⟩
    have e1 : (r = 1 ∧ ¬ a = -2) ∨ (r = 0 ∧ a = -2) := by
      rcases hr with ⟨y1, y2⟩ | ⟨y1, y2⟩
      · have := y2.1
        exact Or.inl ⟨y1, by omega⟩
      · exact Or.inr ⟨y1, ha.resolve_right (fun z => y2 z)⟩
    have e2 : (r2 = 1 ∧ ¬ b = -2) ∨ (r2 = 0 ∧ b = -2) := by
      rcases hr2 with ⟨y1, y2⟩ | ⟨y1, y2⟩
      · exact Or.inl ⟨y1, by omega⟩
      · exact Or.inr ⟨y1, hb.resolve_right (fun z => y2 z)⟩
    refine ⟨by omega, by omega, fun y => ?_, fun y => ?_⟩
    · rw [if_neg (by omega)] at hK
      exact hK 0 S ⟨LF.rf, Or.inl ⟨rfl, rfl⟩⟩
    · rw [if_pos (by omega)] at hK
      exact hK 1 S ⟨LF.rf, Or.inr ⟨rfl, Q, rfl, l1, l2, l3, l4⟩⟩
  unfold wX2_pairs
  refine fun _ _ => c_hasO hE (fun r hr => ?_)
  rcases hr with ⟨rfl, hr⟩ | ⟨rfl, hr⟩
  rotate_left
  · exact ⟨⟨by decide, by decide⟩, fun _ => t22 (Or.inl (ha.resolve_right (fun z => hr z))), fun w => absurd rfl w⟩
  have a0 := hr.1
  have a1 := hr.2
  refine ⟨⟨by decide, by decide⟩, fun w => absurd w (by decide), fun _ => d_has g (fun r2 hr2 => ?_)⟩
  rcases hr2 with ⟨rfl, b0, b1⟩ | ⟨rfl, hr2⟩
  rotate_left
  · exact ⟨⟨by decide, by decide⟩, fun w => absurd rfl w, fun _ => t22 (Or.inr (hb.resolve_right (fun z => hr2 z)))⟩
  rw [if_neg (fun w => by omega)] at hK
  have pa := l3 a a0 (by omega)
  have pb := l4 b b0 (by omega)
  -- paired already
  have t69 : (¬ S.2 251 a = -2 ∨ ¬ S.2 252 b = -2) → wX2_pairs_69 a b S K := fun w => by
    have hany : Q.any (fun q => decide (q.1 = a ∨ q.2 = b)) = true := by
      rcases w with w | w
      · obtain ⟨b', y1, -⟩ := pa.resolve_right (fun z => w z.2)
        exact List.any_eq_true.mpr ⟨_, y1, decide_eq_true (Or.inl rfl)⟩
      · obtain ⟨a', y1, -⟩ := pb.resolve_right (fun z => w z.2)
        exact List.any_eq_true.mpr ⟨_, y1, decide_eq_true (Or.inr rfl)⟩
    rw [if_pos hany] at hK
    unfold wX2_pairs_69
    refine ⟨a0, by omega, fun _ => ⟨⟨by omega, by omega⟩, fun y => ?_, fun y => ?_⟩⟩
    · rw [if_neg (fun z => ?_)] at hK
      · exact hK 0 S ⟨LF.rf, Or.inl ⟨rfl, rfl⟩⟩
      · rcases pa with ⟨b', y1, y2⟩ | ⟨y1, -⟩
        · obtain ⟨i, hi, ei⟩ := mem_getD (d := ((0, 0) : Int × Int)) y1
          obtain ⟨j, hj, ej⟩ := mem_getD (d := ((0, 0) : Int × Int)) z
          have := hQ.2 i j hi hj (Or.inl (by rw [ei, ej]))
          rw [this, ej] at ei
          injection ei with e3 e4
          exact y (y2.trans e4.symm)
        · exact y1 b z
    · have y := Classical.not_not.mp y
      have hin : (a, b) ∈ Q := by
        rcases pa with ⟨b', y1, y2⟩ | ⟨-, y2⟩
        · rw [← y, y2]
          exact y1
        · omega
      rw [if_pos hin] at hK
      exact hK 1 S ⟨LF.rf, Or.inr ⟨rfl, Q, rfl, l1, l2, l3, l4⟩⟩
  refine ⟨⟨by decide, by decide⟩, fun _ => ⟨a0, by omega, fun _ => ⟨fun w => t69 (Or.inl w), fun w => ⟨b0, by omega, fun _ => ⟨fun w2 => ?_, fun w2 => t69 (Or.inr w2)⟩⟩⟩⟩, fun w => absurd (by decide) w⟩
  have na : ∀ b, ¬ (a, b) ∈ Q := by
    rcases pa with ⟨b', y1, y2⟩ | y
    · have := (hQ.1 _ y1).2.1
      have w := Classical.not_not.mp w
      have this : 0 ≤ b' := this
      omega
    · exact y.1
  have nb : ∀ a, ¬ (a, b) ∈ Q := by
    rcases pb with ⟨a', y1, y2⟩ | y
    · have := (hQ.1 _ y1).1.1
      have this : 0 ≤ a' := this
      omega
    · exact y.1
  have hany : ¬ Q.any (fun q => decide (q.1 = a ∨ q.2 = b)) = true := fun y => by
    obtain ⟨q, hq, y⟩ := List.any_eq_true.mp y
    rw [decide_eq_true_eq] at y
    rcases y with y | y
    · exact na q.2 (by rw [← y]; exact hq)
    · exact nb q.1 (by rw [← y]; exact hq)
  rw [if_neg hany] at hK
  have hc := hV.2.2.1 a hr
  have hc2 := hH.2.1 b b0 b1
  have h6 := hV.2.1
  refine r_cls hE hV hr (d_cls g hH ⟨b0, b1⟩ ⟨⟨by have := hc.1; omega, by have := hc.2; omega⟩, ⟨by have := hc2.1; omega, by have := hc2.2; omega⟩, fun y => ?_, fun y _ => ?_⟩)
  · rw [if_pos ⟨rfl, y⟩] at hK
    exact hK 0 S ⟨LF.rf, Or.inl ⟨rfl, rfl⟩⟩
  · have y := Classical.not_not.mp y
    rw [if_neg (fun z => z.2 y)] at hK
    have qn := (hQ.new hr ⟨b0, b1⟩ hany).len n30.2
    rw [len1] at qn
    rw [l1]
    refine ⟨fun _ => ⟨a0, by omega, ⟨by omega, by omega⟩, fun S25 e25 => ⟨b0, by omega, ⟨by omega, by omega⟩, fun S28 e28 _ => ?_⟩⟩, fun z => absurd (by omega) z⟩
    have q28 : S28.1 = S.1 := by rw [e28, e25]; rfl
    rw [q28, l1]
    refine ⟨by omega, by omega, ⟨by omega, by omega⟩, fun S32 e32 _ => ?_⟩
    have q32 : S32.1 = S.1 := by rw [e32]; exact q28
    rw [q32, l1]
    refine ⟨⟨by omega, by omega⟩, fun S35 e35 => hK 1 S35 ⟨⟨fun c q => ?_, fun c q => ?_⟩, Or.inr ⟨rfl, _, rfl, ?_, fun k hk => ?_, fun a' c0 c1 => ?_, fun b' c0 c1 => ?_⟩⟩⟩
    · rw [e35]
      exact (funext fun j => pI_j (fun z => q z.1)).trans (by rw [q32])
    · rw [e35]
      show S32.2 c = _
      rw [e32, (pA_ne c (by omega)).2, e28, (pA_ne c (by omega)).2, e25, (pA_ne c (by omega)).2]
    · rw [e35, pI_v, len1]
      omega
    · rw [len1] at hk
      rw [e35]
      show S32.2 253 k = _
      rw [e32, pA_if]
      by_cases c : k = Q.length
      · rw [if_pos (by omega), gD_r c]
      · rw [if_neg (by omega), gD_l (by omega), e28, (pA_ne 253 (by decide)).2, e25, (pA_ne 253 (by decide)).2]
        exact l2 k (by omega)
    · have e251 : S35.2 251 a' = if a' = a then b else S.2 251 a' := by
        rw [e35]
        show S32.2 251 a' = _
        rw [e32, (pA_ne 251 (by decide)).2, e28, (pA_ne 251 (by decide)).2, e25, pA_if]
      rw [e251]
      by_cases c : a' = a
      · rw [if_pos c]
        exact Or.inl ⟨b, by rw [c]; exact List.mem_append_right _ (List.mem_cons_self ..), rfl⟩
      · rw [if_neg c]
        rcases l3 a' c0 c1 with ⟨b', y1, y2⟩ | ⟨y1, y2⟩
        · exact Or.inl ⟨b', List.mem_append_left _ y1, y2⟩
        · refine Or.inr ⟨fun b' z => ?_, y2⟩
          rcases List.mem_append.mp z with z | z
          · exact y1 b' z
          · rcases List.mem_cons.mp z with z | z
            · injection z with z1 z2
              exact c z1
            · cases z
    · have e252 : S35.2 252 b' = if b' = b then a else S.2 252 b' := by
        rw [e35]
        show S32.2 252 b' = _
        rw [e32, (pA_ne 252 (by decide)).2, e28, pA_if, e25, (pA_ne 252 (by decide)).2]
      rw [e252]
      by_cases c : b' = b
      · rw [if_pos c]
        exact Or.inl ⟨a, by rw [c]; exact List.mem_append_right _ (List.mem_cons_self ..), rfl⟩
      · rw [if_neg c]
        rcases l4 b' c0 c1 with ⟨a', y1, y2⟩ | ⟨y1, y2⟩
        · exact Or.inl ⟨a', List.mem_append_left _ y1, y2⟩
        · refine Or.inr ⟨fun a' z => ?_, y2⟩
          rcases List.mem_append.mp z with z | z
          · exact y1 a' z
          · rcases List.mem_cons.mp z with z | z
            · injection z with z1 z2
              exact c z2
            · cases z
end YD

