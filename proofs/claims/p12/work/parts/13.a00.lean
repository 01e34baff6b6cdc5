/-! WHAT A CALL LEAVES ALONE: only the fields fs and the arrays xs of the model may have changed -/
def Ch (fs xs : List Nat) (S S' : St) : Prop := (∀ j, j ∉ fs → S'.1 54 j = S.1 54 j) ∧ ∀ a, a ∉ xs → S'.2 a = S.2 a
theorem Ch.rf {S : St} : Ch [] [] S S := ⟨fun _ _ => rfl, fun _ _ => rfl⟩
theorem Ch.re {fs xs : List Nat} {S : St} : Ch fs xs S S := ⟨fun _ _ => rfl, fun _ _ => rfl⟩
theorem Ch.tr {f g x y : List Nat} {S S1 S2 : St} (h : Ch f x S S1) (k : Ch g y S1 S2) : Ch (f ++ g) (x ++ y) S S2 :=
  ⟨fun j hj => (k.1 j fun q => hj (List.mem_append_right _ q)).trans (h.1 j fun q => hj (List.mem_append_left _ q)), fun a ha => (k.2 a fun q => ha (List.mem_append_right _ q)).trans (h.2 a fun q => ha (List.mem_append_left _ q))⟩
theorem Ch.wk {f g x y : List Nat} {S S1 : St} (h : Ch f x S S1) (hf : ∀ j ∈ f, j ∈ g) (hx : ∀ j ∈ x, j ∈ y) : Ch g y S S1 := ⟨fun j hj => h.1 j fun q => hj (hf j q), fun a ha => h.2 a fun q => ha (hx a q)⟩
theorem Ch_I {S S2 : St} {j : Nat} {v : Int} (h : S2 = pI S 54 j v) : Ch [j] [] S S2 := by
  subst h
  refine ⟨fun k hk => ?_, fun _ _ => rfl⟩
  show (if 54 = 54 ∧ k = j then v else S.1 54 k) = _
  rw [if_neg fun q => hk (by rw [q.2]; exact List.mem_singleton_self j)]
theorem Ch_A {S S2 : St} {c : Nat} {i v : Int} (h : S2 = pA S c i v) : Ch [] [c] S S2 := by
  subst h
  refine ⟨fun _ _ => rfl, fun a ha => ?_⟩
  funext k
  show (if a = c ∧ k = i then v else S.2 a k) = _
  rw [if_neg fun q => ha (by rw [q.1]; exact List.mem_singleton_self c)]
theorem pI_at {S S2 : St} {j : Nat} {v : Int} (h : S2 = pI S 54 j v) : S2.1 54 j = v := by
  subst h
  show (if 54 = 54 ∧ j = j then v else S.1 54 j) = v
  rw [if_pos ⟨rfl, rfl⟩]
theorem pA_at {S S2 : St} {c : Nat} {i v : Int} (h : S2 = pA S c i v) : ∀ x, (x = i ∧ S2.2 c x = v) ∨ (¬ x = i ∧ S2.2 c x = S.2 c x) := by
  subst h
  intro x
  show (x = i ∧ (if c = c ∧ x = i then v else S.2 c x) = v) ∨ (¬ x = i ∧ (if c = c ∧ x = i then v else S.2 c x) = S.2 c x)
  by_cases q : x = i
  · rw [if_pos ⟨rfl, q⟩]
    exact Or.inl ⟨q, rfl⟩
  · rw [if_neg fun r => q r.2]
    exact Or.inr ⟨q, rfl⟩
/-! the heaps are typed: what a field holds goes with its kind -/
def tyV (c kd v : Int) : Prop := (¬ kd = 1 ∨ iv 0 20 v) ∧ (¬ kd = 2 ∨ v = -2 ∨ (0 ≤ v ∧ v < c)) ∧ (¬ kd = 3 ∨ iv 0 8 v)
def OK0 (S : St) : Prop := ∀ x y : Int, x < 0 ∨ S.2 67 0 ≤ x ∨ y < 0 ∨ 3 < y ∨ tyV (S.2 67 0) (S.2 59 (4 * S.2 68 x + y)) (S.2 69 (4 * x + y))
def OL0 (S : St) : Prop := ∀ x y z : Int, x < 0 ∨ S.2 67 0 ≤ x ∨ y < 0 ∨ 3 < y ∨ ¬ S.2 59 (4 * S.2 68 x + y) = 3 ∨ z < 0 ∨ S.2 69 (4 * x + y) ≤ z ∨ (0 ≤ S.2 70 (20 * (4 * x + y) + z) ∧ S.2 70 (20 * (4 * x + y) + z) < S.2 67 0)
def OC0 (S : St) : Prop := ∀ x : Int, x < 0 ∨ S.2 67 0 ≤ x ∨ S.2 68 x < S.1 54 2
def OK1 (S : St) : Prop := ∀ x y : Int, x < 0 ∨ S.2 67 1 ≤ x ∨ y < 0 ∨ 3 < y ∨ tyV (S.2 67 1) (S.2 59 (4 * S.2 68 (30 + x) + y)) (S.2 69 (4 * (30 + x) + y))

set_option maxRecDepth 100000 in
set_option maxHeartbeats 4000000 in
theorem tX11_isObject {a1 a2 : Int} {S : St} {K : Int → St → Prop} (p1 : iv 0 2 a1) (hK : ∀ (r : Int), ((0 ≤ a2 ∧ a2 < (S.2 67) a1 ∧ a2 ≤ 29 ∧ r = 1) ∨ ((a2 < 0 ∨ (S.2 67) a1 ≤ a2) ∧ r = 0)) → K r S) : wX11_isObject a1 a2 S K := by
  unfold wX11_isObject
  intro g1 g2
  refine ⟨fun h1 => ?_, fun h1 => ?_⟩
  · exact hK (0) (by omega)
  · refine ⟨by omega, by omega, ?_⟩
    intro q1
    refine ⟨fun h11 => ?_, fun h11 => ?_⟩
    · exact hK (0) (by omega)
    · exact hK (1) (by omega)

set_option maxRecDepth 100000 in
set_option maxHeartbeats 4000000 in
theorem tX11_in {a1 a2 a3 : Int} {S : St} {K : Int → St → Prop}  (hK : ∀ (r : Int), ((a2 ≤ a1 ∧ a1 ≤ a3 ∧ r = 1) ∨ ((a1 < a2 ∨ a3 < a1) ∧ r = 0)) → K r S) : wX11_in a1 a2 a3 S K := by
  unfold wX11_in
  intro g1 g2 g3
  refine ⟨fun h2 => ?_, fun h2 => ?_⟩
  · exact hK (0) (by omega)
  · refine ⟨fun h7 => ?_, fun h7 => ?_⟩
    · exact hK (0) (by omega)
    · exact hK (1) (by omega)

set_option maxRecDepth 100000 in
set_option maxHeartbeats 4000000 in
theorem tX11_kindAt {a1 a2 a3 : Int} {S : St} {K : Int → St → Prop}  (hK : ∀ (r : Int), ((r = -1) ∨ (iv 0 1 a1 ∧ 0 ≤ a2 ∧ a2 < (S.2 67) a1 ∧ 0 ≤ a3 ∧ a3 ≤ 3 ∧ iv 0 3 r ∧ r = (S.2 59) (4 * (S.2 68) (30 * a1 + a2) + a3))) → K r S) : wX11_kindAt a1 a2 a3 S K := by
  unfold wX11_kindAt
  intro g1 g2 g3
  refine tX11_in  (fun r3 n3_0 => ?_)
  refine ⟨by omega, ?_⟩
  refine ⟨fun h6 => ?_, fun h6 => ?_⟩
  · exact hK ((-1)) (by omega)
  · refine tX11_isObject (by omega) (fun r12 n12_0 => ?_)
    refine ⟨by omega, ?_⟩
    refine ⟨fun h15 => ?_, fun h15 => ?_⟩
    · refine ⟨by omega, by omega, ?_⟩
      intro q1
      intro x31 hx31
      subst hx31
      refine ⟨by omega, by omega, ?_⟩
      intro q2
      refine ⟨by omega, ?_⟩
      refine tX11_in  (fun r44 n44_0 => ?_)
      refine ⟨by omega, ?_⟩
      refine ⟨fun h47 => ?_, fun h47 => ?_⟩
      · exact hK ((-1)) (by omega)
      · refine ⟨by omega, by omega, ?_⟩
        intro q3
        exact hK (S.2 59 (((4 * (S.2 68 (((30 * a1) + a2)))) + a3))) (by omega)
    · exact hK ((-1)) (by omega)

set_option maxRecDepth 100000 in
set_option maxHeartbeats 4000000 in
theorem tX11_isLetter {a1 : Int} {S : St} {K : Int → St → Prop}  (hK : ∀ (r : Int), ((((97 ≤ a1 ∧ a1 ≤ 122) ∨ (65 ≤ a1 ∧ a1 ≤ 90)) ∧ r = 1) ∨ (¬ ((97 ≤ a1 ∧ a1 ≤ 122) ∨ (65 ≤ a1 ∧ a1 ≤ 90)) ∧ r = 0)) → K r S) : wX11_isLetter a1 S K := by
  unfold wX11_isLetter
  intro g1
  refine ⟨fun h3 => ?_, fun h3 => ?_⟩
  · unfold wX11_isLetter_12
    refine ⟨by omega, ?_⟩
    refine ⟨fun h15 => ?_, fun h15 => ?_⟩
    · exact hK (0) (by omega)
    · refine ⟨fun h21 => ?_, fun h21 => ?_⟩
      · exact hK (0) (by omega)
      · exact hK (1) (by omega)
  · refine ⟨fun h9 => ?_, fun h9 => ?_⟩
    · exact hK (1) (by omega)
    · unfold wX11_isLetter_12
      refine ⟨by omega, ?_⟩
      refine ⟨fun h15 => ?_, fun h15 => ?_⟩
      · exact hK (0) (by omega)
      · refine ⟨fun h21 => ?_, fun h21 => ?_⟩
        · exact hK (0) (by omega)
        · exact hK (1) (by omega)

set_option maxRecDepth 100000 in
set_option maxHeartbeats 4000000 in
theorem tX11_beginsName {a1 : Int} {S : St} {K : Int → St → Prop}  (hK : ∀ (r : Int), (((((97 ≤ a1 ∧ a1 ≤ 122) ∨ (65 ≤ a1 ∧ a1 ≤ 90)) ∨ a1 = 95) ∧ r = 1) ∨ (¬ (((97 ≤ a1 ∧ a1 ≤ 122) ∨ (65 ≤ a1 ∧ a1 ≤ 90)) ∨ a1 = 95) ∧ r = 0)) → K r S) : wX11_beginsName a1 S K := by
  unfold wX11_beginsName
  intro g1
  refine tX11_isLetter  (fun r1 n1_0 => ?_)
  refine ⟨by omega, ?_⟩
  refine ⟨fun h4 => ?_, fun h4 => ?_⟩
  · exact hK (1) (by omega)
  · refine ⟨fun h10 => ?_, fun h10 => ?_⟩
    · exact hK (0) (by omega)
    · exact hK (1) (by omega)

set_option maxRecDepth 100000 in
set_option maxHeartbeats 4000000 in
theorem tX11_isDigit {a1 : Int} {S : St} {K : Int → St → Prop}  (hK : ∀ (r : Int), ((48 ≤ a1 ∧ a1 ≤ 57 ∧ r = 1) ∨ ((a1 < 48 ∨ 57 < a1) ∧ r = 0)) → K r S) : wX11_isDigit a1 S K := by
  unfold wX11_isDigit
  intro g1
  refine ⟨fun h3 => ?_, fun h3 => ?_⟩
  · exact hK (0) (by omega)
  · refine ⟨fun h9 => ?_, fun h9 => ?_⟩
    · exact hK (0) (by omega)
    · exact hK (1) (by omega)

set_option maxRecDepth 100000 in
set_option maxHeartbeats 4000000 in
theorem tX11_inName {a1 : Int} {S : St} {K : Int → St → Prop}  (hK : ∀ (r : Int), (((((97 ≤ a1 ∧ a1 ≤ 122) ∨ (65 ≤ a1 ∧ a1 ≤ 90)) ∨ a1 = 95 ∨ (48 ≤ a1 ∧ a1 ≤ 57) ∨ a1 = 45 ∨ a1 = 46) ∧ r = 1) ∨ (¬ (((97 ≤ a1 ∧ a1 ≤ 122) ∨ (65 ≤ a1 ∧ a1 ≤ 90)) ∨ a1 = 95 ∨ (48 ≤ a1 ∧ a1 ≤ 57) ∨ a1 = 45 ∨ a1 = 46) ∧ r = 0)) → K r S) : wX11_inName a1 S K := by
  unfold wX11_inName
  intro g1
  refine tX11_beginsName  (fun r1 n1_0 => ?_)
  refine ⟨by omega, ?_⟩
  refine ⟨fun h4 => ?_, fun h4 => ?_⟩
  · exact hK (1) (by omega)
  · refine tX11_isDigit  (fun r8 n8_0 => ?_)
    refine ⟨by omega, ?_⟩
    refine ⟨fun h11 => ?_, fun h11 => ?_⟩
    · exact hK (1) (by omega)
    · refine ⟨fun h17 => ?_, fun h17 => ?_⟩
      · exact hK (1) (by omega)
      · refine ⟨fun h23 => ?_, fun h23 => ?_⟩
        · exact hK (0) (by omega)
        · exact hK (1) (by omega)

set_option maxRecDepth 100000 in
set_option maxHeartbeats 4000000 in
theorem tX11_entity {a1 : Int} {S : St} {K : Int → St → Prop}  (hK : ∀ (r : Int), (0 ≤ r ∧ r ≤ 127) → K r S) : wX11_entity a1 S K := by
  unfold wX11_entity
  intro g1
  refine ⟨fun h1 => ?_, fun h1 => ?_⟩
  · refine ⟨fun h11 => ?_, fun h11 => ?_⟩
    · refine ⟨fun h21 => ?_, fun h21 => ?_⟩
      · refine ⟨fun h31 => ?_, fun h31 => ?_⟩
        · exact hK (39) (by omega)
        · exact hK (34) (by omega)
      · exact hK (62) (by omega)
    · exact hK (60) (by omega)
  · exact hK (38) (by omega)

set_option maxRecDepth 100000 in
set_option maxHeartbeats 4000000 in
theorem tX11_entitySign {a1 a2 : Int} {S : St} {K : Int → St → Prop} (p1 : iv 0 4 a1) (p2 : iv 0 5 a2) (hK : ∀ (r : Int), (0 ≤ r ∧ r ≤ 127) → K r S) : wX11_entitySign a1 a2 S K := by
  unfold wX11_entitySign
  intro g1 g2
  refine ⟨by omega, ?_⟩
  refine ⟨fun h1 => ?_, fun h1 => ?_, fun h1 => ?_, fun h1 => ?_, fun h1 => ?_, fun h1 => ?_, fun h1 => ?_, fun h1 => ?_, fun h1 => ?_, fun h1 => ?_, fun h1 => ?_, fun h1 => ?_, fun h1 => ?_, fun h1 => ?_, fun h1 => ?_, fun h1 => ?_, fun h1 => ?_, fun h1 => ?_, fun h1 => ?_, fun h1 => ?_, fun h1 => ?_, fun h1 => ?_, fun h1 => ?_, fun h1 => ?_, fun h1 => ?_, fun h1 => ?_⟩
  · exact hK (0) (by omega)
  · exact hK (97) (by omega)
  · exact hK (109) (by omega)
  · exact hK (112) (by omega)
  · exact hK (59) (by omega)
  · exact hK (0) (by omega)
  · exact hK (108) (by omega)
  · exact hK (116) (by omega)
  · exact hK (59) (by omega)
  · exact hK (0) (by omega)
  · exact hK (0) (by omega)
  · exact hK (103) (by omega)
  · exact hK (116) (by omega)
  · exact hK (59) (by omega)
  · exact hK (0) (by omega)
  · exact hK (0) (by omega)
  · exact hK (113) (by omega)
  · exact hK (117) (by omega)
  · exact hK (111) (by omega)
  · exact hK (116) (by omega)
  · exact hK (59) (by omega)
  · exact hK (97) (by omega)
  · exact hK (112) (by omega)
  · exact hK (111) (by omega)
  · exact hK (115) (by omega)
  · exact hK (59) (by omega)

set_option maxRecDepth 100000 in
set_option maxHeartbeats 4000000 in
theorem tX11_isBlank {a1 : Int} {S : St} {K : Int → St → Prop}  (hK : ∀ (r : Int), (((a1 = 32 ∨ a1 = 9 ∨ a1 = 10 ∨ a1 = 13) ∧ r = 1) ∨ (¬ (a1 = 32 ∨ a1 = 9 ∨ a1 = 10 ∨ a1 = 13) ∧ r = 0)) → K r S) : wX11_isBlank a1 S K := by
  unfold wX11_isBlank
  intro g1
  refine ⟨fun h3 => ?_, fun h3 => ?_⟩
  · exact hK (1) (by omega)
  · refine ⟨fun h9 => ?_, fun h9 => ?_⟩
    · exact hK (1) (by omega)
    · refine ⟨fun h15 => ?_, fun h15 => ?_⟩
      · exact hK (1) (by omega)
      · refine ⟨fun h21 => ?_, fun h21 => ?_⟩
        · exact hK (0) (by omega)
        · exact hK (1) (by omega)

