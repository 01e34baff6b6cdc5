/-! WHETHER TWO GRAPHS ARE THE SAME: when classes are compared is no matter -/
def CEq (e : Env) (h : Hs) (Q : Pq) : Prop := ∀ q ∈ Q, eK e q.1 = h.2.1 q.2
def Bdq (e : Env) (h : Hs) (Q : Pq) : Prop := ∃ q ∈ Q, ¬ eK e q.1 = h.2.1 q.2
/-- the two ways: alike, or the one has stopped and the other has stopped or has a bad pair -/
def Rlx (e : Env) (h : Hs) (Q : Pq) (x y : Option Pq) : Prop := (∃ Q', x = some Q' ∧ y = some Q' ∧ CEq e h Q' ∧ QI e h Q' ∧ ∃ R, Q' = Q ++ R) ∨ (x = none ∧ (y = none ∨ ∃ Q', y = some Q' ∧ Bdq e h Q' ∧ QI e h Q' ∧ ∃ R, Q' = Q ++ R))
/-- what the values of both heaps may be -/
def VLq (e : Env) (h : Hs) : Prop := ∀ a b f, 0 ≤ a → a < eN e → 0 ≤ b → b < h.1 → okF e (eK e a) f → eK e a = h.2.1 b → (eD e (eK e a) f = 2 → tgV (eN e) (eV e a f) ∧ tgV h.1 (h.2.2.1 b f)) ∧ (eD e (eK e a) f = 3 → eV e a f = h.2.2.1 b f → ∀ i, 0 ≤ i → i < eV e a f → tgV (eN e) (eP e a f i) ∧ tgV h.1 (h.2.2.2 b f i))
section YB
variable {e : Env} {h : Hs} {Q Q' Q1 : Pq} {a b f i : Int} {ck : Bool}
theorem Bdq.app (hb : Bdq e h Q) {R : Pq} : Bdq e h (Q ++ R) := by
  obtain ⟨q, hq, h1⟩ := hb
  exact ⟨q, List.mem_append_left _ hq, h1⟩
theorem prX_rl (hC : CEq e h Q) (hQ : QI e h Q) (ha : tgV (eN e) a) (hb : tgV h.1 b) : Rlx e h Q (prX true e h Q a b) (prX false e h Q a b) := by
  have ok : ∀ Q', prX false e h Q a b = some Q' → QI e h Q' ∧ ∃ R, Q' = Q ++ R := fun Q' q => prX_ok hQ ha hb q
  unfold prX at ok ⊢
  by_cases c1 : a = -2 ∨ b = -2
  · rw [if_pos c1] at ok
    rw [if_pos c1, if_pos c1]
    by_cases c2 : a = b
    · rw [if_pos c2]
      exact Or.inl ⟨Q, rfl, rfl, hC, hQ, [], by rw [List.append_nil]⟩
    · rw [if_neg c2]
      exact Or.inr ⟨rfl, Or.inl rfl⟩
  · rw [if_neg c1] at ok
    rw [if_neg c1, if_neg c1]
    by_cases c2 : Q.any (fun q => decide (q.1 = a ∨ q.2 = b)) = true
    · rw [if_pos c2] at ok
      rw [if_pos c2, if_pos c2]
      by_cases c3 : (a, b) ∈ Q
      · rw [if_pos c3]
        exact Or.inl ⟨Q, rfl, rfl, hC, hQ, [], by rw [List.append_nil]⟩
      · rw [if_neg c3]
        exact Or.inr ⟨rfl, Or.inl rfl⟩
    · rw [if_neg c2, if_neg (fun w => absurd w.1 (by decide))] at ok
      rw [if_neg c2, if_neg c2]
      obtain ⟨k1, k2⟩ := ok _ rfl
      by_cases c3 : eK e a = h.2.1 b
      · rw [if_neg (fun w => w.2 c3), if_neg (fun w => absurd w.1 (by decide))]
        refine Or.inl ⟨_, rfl, rfl, fun q hq => ?_, k1, k2⟩
        rcases List.mem_append.mp hq with hq | hq
        · exact hC q hq
        · rcases List.mem_cons.mp hq with rfl | hq
          · exact c3
          · cases hq
      · rw [if_pos ⟨rfl, c3⟩, if_neg (fun w => absurd w.1 (by decide))]
        exact Or.inr ⟨rfl, Or.inr ⟨_, rfl, ⟨(a, b), List.mem_append_right _ (List.mem_cons_self ..), c3⟩, k1, k2⟩⟩
theorem ceX_ok (hv : ∀ i, 0 ≤ i → i < eV e a f → tgV (eN e) (eP e a f i) ∧ tgV h.1 (h.2.2.2 b f i)) : ∀ (k : Nat) (i : Int) (Q : Pq), 0 ≤ i → i + k ≤ eV e a f → QI e h Q → ceX ck e h a b f k i Q = some Q' → QI e h Q' ∧ ∃ R, Q' = Q ++ R
  | 0, i, Q, _, _, hQ, q => by
    injection q with q
    rw [← q]
    exact ⟨hQ, [], by rw [List.append_nil]⟩
  | k + 1, i, Q, i0, i1, hQ, q => by
    unfold ceX at q
    cases hp : prX ck e h Q (eP e a f i) (h.2.2.2 b f i) with
    | none =>
      rw [hp] at q
      cases q
    | some Q1 =>
      rw [hp] at q
      obtain ⟨v1, v2⟩ := hv i i0 (by omega)
      obtain ⟨k1, R1, k2⟩ := prX_ok hQ v1 v2 hp
      obtain ⟨j1, R2, j2⟩ := ceX_ok hv k (i + 1) Q1 (by omega) (by omega) k1 q
      exact ⟨j1, R1 ++ R2, by rw [j2, k2, List.append_assoc]⟩
theorem ceX_rl (hv : ∀ i, 0 ≤ i → i < eV e a f → tgV (eN e) (eP e a f i) ∧ tgV h.1 (h.2.2.2 b f i)) : ∀ (k : Nat) (i : Int) (Q : Pq), 0 ≤ i → i + k ≤ eV e a f → CEq e h Q → QI e h Q → Rlx e h Q (ceX true e h a b f k i Q) (ceX false e h a b f k i Q)
  | 0, i, Q, _, _, hC, hQ => Or.inl ⟨Q, rfl, rfl, hC, hQ, [], by rw [List.append_nil]⟩
  | k + 1, i, Q, i0, i1, hC, hQ => by
    obtain ⟨v1, v2⟩ := hv i i0 (by omega)
    unfold ceX
    rcases prX_rl hC hQ v1 v2 with ⟨Q1, p1, p2, p3, p4, R1, p5⟩ | ⟨p1, p2⟩
    · rw [p1, p2]
      rcases ceX_rl hv k (i + 1) Q1 (by omega) (by omega) p3 p4 with ⟨Q2, q1, q2, q3, q4, R2, q5⟩ | ⟨q1, q2⟩
      · exact Or.inl ⟨Q2, q1, q2, q3, q4, R1 ++ R2, by rw [q5, p5, List.append_assoc]⟩
      · refine Or.inr ⟨q1, q2.imp_right (fun ⟨Q2, q3, q4, q5, R2, q6⟩ => ⟨Q2, q3, q4, q5, R1 ++ R2, by rw [q6, p5, List.append_assoc]⟩)⟩
    · rw [p1]
      refine Or.inr ⟨rfl, ?_⟩
      rcases p2 with p2 | ⟨Q1, p2, p3, p4, R1, p5⟩
      · rw [p2]
        exact Or.inl rfl
      · rw [p2]
        cases hc : ceX false e h a b f k (i + 1) Q1 with
        | none =>
          left
          exact hc
        | some Q2 =>
          obtain ⟨j1, R2, j2⟩ := ceX_ok hv k (i + 1) Q1 (by omega) (by omega) p4 hc
          exact Or.inr ⟨Q2, hc, by rw [j2]; exact p3.app, j1, R1 ++ R2, by rw [j2, p5, List.append_assoc]⟩
theorem flX_ok (hv2 : eD e (eK e a) f = 2 → tgV (eN e) (eV e a f) ∧ tgV h.1 (h.2.2.1 b f)) (hv3 : eD e (eK e a) f = 3 → eV e a f = h.2.2.1 b f → ∀ i, 0 ≤ i → i < eV e a f → tgV (eN e) (eP e a f i) ∧ tgV h.1 (h.2.2.2 b f i)) (h0 : eD e (eK e a) f = 3 → 0 ≤ eV e a f) (hQ : QI e h Q) (q : flX ck e h a b f Q = some Q') : QI e h Q' ∧ ∃ R, Q' = Q ++ R := by
  unfold flX at q
  by_cases c1 : eD e (eK e a) f = 2
  · rw [if_pos c1] at q
    exact prX_ok hQ (hv2 c1).1 (hv2 c1).2 q
  · rw [if_neg c1] at q
    by_cases c2 : ¬ eV e a f = h.2.2.1 b f
    · rw [if_pos c2] at q
      cases q
    · rw [if_neg c2] at q
      have c2 := Classical.not_not.mp c2
      by_cases c3 : eD e (eK e a) f = 1
      · rw [if_pos c3] at q
        by_cases c4 : txX e h a b f (eV e a f).toNat 0 = true
        · rw [if_pos c4] at q
          injection q with q
          rw [← q]
          exact ⟨hQ, [], by rw [List.append_nil]⟩
        · rw [if_neg c4] at q
          cases q
      · rw [if_neg c3] at q
        by_cases c4 : eD e (eK e a) f = 3
        · rw [if_pos c4] at q
          have := h0 c4
          exact ceX_ok (hv3 c4 c2) _ 0 Q (by decide) (by omega) hQ q
        · rw [if_neg c4] at q
          injection q with q
          rw [← q]
          exact ⟨hQ, [], by rw [List.append_nil]⟩
theorem flX_rl (hv2 : eD e (eK e a) f = 2 → tgV (eN e) (eV e a f) ∧ tgV h.1 (h.2.2.1 b f)) (hv3 : eD e (eK e a) f = 3 → eV e a f = h.2.2.1 b f → ∀ i, 0 ≤ i → i < eV e a f → tgV (eN e) (eP e a f i) ∧ tgV h.1 (h.2.2.2 b f i)) (h0 : eD e (eK e a) f = 3 → 0 ≤ eV e a f) (hC : CEq e h Q) (hQ : QI e h Q) : Rlx e h Q (flX true e h a b f Q) (flX false e h a b f Q) := by
  unfold flX
  by_cases c1 : eD e (eK e a) f = 2
  · rw [if_pos c1, if_pos c1]
    exact prX_rl hC hQ (hv2 c1).1 (hv2 c1).2
  · rw [if_neg c1, if_neg c1]
    by_cases c2 : ¬ eV e a f = h.2.2.1 b f
    · rw [if_pos c2, if_pos c2]
      exact Or.inr ⟨rfl, Or.inl rfl⟩
    · rw [if_neg c2, if_neg c2]
      have c2 := Classical.not_not.mp c2
      by_cases c3 : eD e (eK e a) f = 1
      · rw [if_pos c3, if_pos c3]
        by_cases c4 : txX e h a b f (eV e a f).toNat 0 = true
        · rw [if_pos c4]
          exact Or.inl ⟨Q, rfl, rfl, hC, hQ, [], by rw [List.append_nil]⟩
        · rw [if_neg c4]
          exact Or.inr ⟨rfl, Or.inl rfl⟩
      · rw [if_neg c3, if_neg c3]
        by_cases c4 : eD e (eK e a) f = 3
        · rw [if_pos c4, if_pos c4]
          have := h0 c4
          exact ceX_rl (hv3 c4 c2) _ 0 Q (by decide) (by omega) hC hQ
        · rw [if_neg c4, if_neg c4]
          exact Or.inl ⟨Q, rfl, rfl, hC, hQ, [], by rw [List.append_nil]⟩
end YB

