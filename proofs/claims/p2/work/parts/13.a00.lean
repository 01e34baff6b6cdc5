/-! WHAT A CALL LEAVES ALONE: only the fields fs and the arrays xs of the model may have changed -/
def Ch (fs xs : List Nat) (S S' : St) : Prop := (∀ j, j ∉ fs → S'.1 54 j = S.1 54 j) ∧ ∀ a, a ∉ xs → S'.2 a = S.2 a
theorem Ch.rf {S : St} : Ch [] [] S S := ⟨fun _ _ => rfl, fun _ _ => rfl⟩
theorem Ch.re {fs xs : List Nat} {S : St} : Ch fs xs S S := ⟨fun _ _ => rfl, fun _ _ => rfl⟩
theorem Ch.tr {f g x y : List Nat} {S S1 S2 : St} (h : Ch f x S S1) (k : Ch g y S1 S2) : Ch (f ++ g) (x ++ y) S S2 :=
  ⟨fun j hj => (k.1 j fun q => hj (List.mem_append_right _ q)).trans (h.1 j fun q => hj (List.mem_append_left _ q)), fun a ha => (k.2 a fun q => ha (List.mem_append_right _ q)).trans (h.2 a fun q => ha (List.mem_append_left _ q))⟩
theorem Ch.wk {f g x y : List Nat} {S S1 : St} (h : Ch f x S S1) (hf : ∀ j ∈ f, j ∈ g) (hx : ∀ j ∈ x, j ∈ y) : Ch g y S S1 := ⟨fun j hj => h.1 j fun q => hj (hf j q), fun a ha => h.2 a fun q => ha (hx a q)⟩
theorem Ch_I {S S2 : St} {j : Nat} {v : Int} (h : S2 = pI S 54 j v) : Ch [j] [] S S2 := by
  subst h
  refine ⟨fun k hk => ?_, fun _ _ => rfl⟩
  show (if 54 = 54 ∧ k = j then v else S.1 54 k) = _
  rw [if_neg fun q => hk (by rw [q.2]; exact List.mem_singleton_self j)]
theorem Ch_A {S S2 : St} {c : Nat} {i v : Int} (h : S2 = pA S c i v) : Ch [] [c] S S2 := by
  subst h
  refine ⟨fun _ _ => rfl, fun a ha => ?_⟩
  funext k
  show (if a = c ∧ k = i then v else S.2 a k) = _
  rw [if_neg fun q => ha (by rw [q.1]; exact List.mem_singleton_self c)]
theorem pI_at {S S2 : St} {j : Nat} {v : Int} (h : S2 = pI S 54 j v) : S2.1 54 j = v := by
  subst h
  show (if 54 = 54 ∧ j = j then v else S.1 54 j) = v
  rw [if_pos ⟨rfl, rfl⟩]
theorem pA_at {S S2 : St} {c : Nat} {i v : Int} (h : S2 = pA S c i v) : ∀ x, (x = i ∧ S2.2 c x = v) ∨ (¬ x = i ∧ S2.2 c x = S.2 c x) := by
  subst h
  intro x
  show (x = i ∧ (if c = c ∧ x = i then v else S.2 c x) = v) ∨ (¬ x = i ∧ (if c = c ∧ x = i then v else S.2 c x) = S.2 c x)
  by_cases q : x = i
  · rw [if_pos ⟨rfl, q⟩]
    exact Or.inl ⟨q, rfl⟩
  · rw [if_neg fun r => q r.2]
    exact Or.inr ⟨q, rfl⟩
/-! the heaps are typed: what a field holds goes with its kind -/
def tyV (c kd v : Int) : Prop := (¬ kd = 1 ∨ iv 0 20 v) ∧ (¬ kd = 2 ∨ v = -2 ∨ (0 ≤ v ∧ v < c)) ∧ (¬ kd = 3 ∨ iv 0 8 v)
def OK0 (S : St) : Prop := ∀ x y : Int, x < 0 ∨ S.2 67 0 ≤ x ∨ y < 0 ∨ 3 < y ∨ tyV (S.2 67 0) (S.2 59 (4 * S.2 68 x + y)) (S.2 69 (4 * x + y))
def OL0 (S : St) : Prop := ∀ x y z : Int, x < 0 ∨ S.2 67 0 ≤ x ∨ y < 0 ∨ 3 < y ∨ ¬ S.2 59 (4 * S.2 68 x + y) = 3 ∨ z < 0 ∨ S.2 69 (4 * x + y) ≤ z ∨ (0 ≤ S.2 70 (20 * (4 * x + y) + z) ∧ S.2 70 (20 * (4 * x + y) + z) < S.2 67 0)
def OC0 (S : St) : Prop := ∀ x : Int, x < 0 ∨ S.2 67 0 ≤ x ∨ S.2 68 x < S.1 54 2
def OK1 (S : St) : Prop := ∀ x y : Int, x < 0 ∨ S.2 67 1 ≤ x ∨ y < 0 ∨ 3 < y ∨ tyV (S.2 67 1) (S.2 59 (4 * S.2 68 (30 + x) + y)) (S.2 69 (4 * (30 + x) + y))

set_option maxRecDepth 100000 in
set_option maxHeartbeats 4000000 in
theorem tX11_isObject {a1 a2 : Int} {S : St} {K : Int → St → Prop} (p1 : iv 0 2 a1) (hK : ∀ (r : Int), ((0 ≤ a2 ∧ a2 < (S.2 67) a1 ∧ a2 ≤ 29 ∧ r = 1) ∨ ((a2 < 0 ∨ (S.2 67) a1 ≤ a2) ∧ r = 0)) → K r S) : wX11_isObject a1 a2 S K := by
  unfold wX11_isObject
  intro g1 g2
  refine ⟨fun h1 => ?_, fun h1 => ?_⟩
  · exact hK (0) (by omega)
  · refine ⟨by omega, by omega, ?_⟩
    intro q1
    refine ⟨fun h11 => ?_, fun h11 => ?_⟩
    · exact hK (0) (by omega)
    · exact hK (1) (by omega)

set_option maxRecDepth 100000 in
set_option maxHeartbeats 4000000 in
theorem tX11_in {a1 a2 a3 : Int} {S : St} {K : Int → St → Prop}  (hK : ∀ (r : Int), ((a2 ≤ a1 ∧ a1 ≤ a3 ∧ r = 1) ∨ ((a1 < a2 ∨ a3 < a1) ∧ r = 0)) → K r S) : wX11_in a1 a2 a3 S K := by
  unfold wX11_in
  intro g1 g2 g3
  refine ⟨fun h2 => ?_, fun h2 => ?_⟩
  · exact hK (0) (by omega)
  · refine ⟨fun h7 => ?_, fun h7 => ?_⟩
    · exact hK (0) (by omega)
    · exact hK (1) (by omega)

set_option maxRecDepth 100000 in
set_option maxHeartbeats 4000000 in
theorem tX11_kindAt {a1 a2 a3 : Int} {S : St} {K : Int → St → Prop}  (hK : ∀ (r : Int), ((r = -1) ∨ (iv 0 1 a1 ∧ 0 ≤ a2 ∧ a2 < (S.2 67) a1 ∧ 0 ≤ a3 ∧ a3 ≤ 3 ∧ iv 0 3 r ∧ r = (S.2 59) (4 * (S.2 68) (30 * a1 + a2) + a3))) → K r S) : wX11_kindAt a1 a2 a3 S K := by
  unfold wX11_kindAt
  intro g1 g2 g3
  refine tX11_in  (fun r3 n3_0 => ?_)
  refine ⟨by omega, ?_⟩
  refine ⟨fun h6 => ?_, fun h6 => ?_⟩
  · exact hK ((-1)) (by omega)
  · refine tX11_isObject (by omega) (fun r12 n12_0 => ?_)
    refine ⟨by omega, ?_⟩
    refine ⟨fun h15 => ?_, fun h15 => ?_⟩
    · refine ⟨by omega, by omega, ?_⟩
      intro q1
      intro x31 hx31
      subst hx31
      refine ⟨by omega, by omega, ?_⟩
      intro q2
      refine ⟨by omega, ?_⟩
      refine tX11_in  (fun r44 n44_0 => ?_)
      refine ⟨by omega, ?_⟩
      refine ⟨fun h47 => ?_, fun h47 => ?_⟩
      · exact hK ((-1)) (by omega)
      · refine ⟨by omega, by omega, ?_⟩
        intro q3
        exact hK (S.2 59 (((4 * (S.2 68 (((30 * a1) + a2)))) + a3))) (by omega)
    · exact hK ((-1)) (by omega)

set_option maxRecDepth 100000 in
set_option maxHeartbeats 4000000 in
theorem tX11_areAlike {a1 a2 : Int} {S : St} {K : Int → St → Prop} (p1 : iv 0 29 a1) (p2 : iv 0 29 a2) (hK : ∀ (r : Int), (iv 0 1 r) → K r S) : wX11_areAlike a1 a2 S K := by
  unfold wX11_areAlike
  intro g1 g2
  refine ⟨by omega, by omega, ?_⟩
  intro q1
  refine ⟨by omega, by omega, ?_⟩
  intro q2
  refine ⟨fun h12 => ?_, fun h12 => ?_⟩
  · unfold wX11_areAlike_20
    unfold wX11_areAlike_24
    refine ⟨fun u1 u2 u3 u4 Sx => S = Sx ∧ a1 = u1 ∧ a2 = u2 ∧ (iv 0 8 u4) ∧ (iv 0 1 u3), fun u1 u2 u3 u4 Sx => (9 - u4).toNat, ?_, fun v24_1 v24_2 v24_3 v24_4 S24h hI => ?_⟩
    · exact ⟨rfl, rfl, rfl, by omega, by omega⟩
    obtain ⟨rfl, rfl, rfl, i24_0, i24_1⟩ := hI
    unfold wX11_areAlike_24'
    refine ⟨by omega, by omega, ?_⟩
    intro q3
    refine ⟨by omega, ?_⟩
    refine ⟨fun h32 => ?_, fun h32 => ?_⟩
    · refine ⟨by omega, ?_⟩
      exact hK (v24_3) (by omega)
    · refine ⟨by omega, ?_⟩
      refine ⟨fun h36 => ?_, fun h36 => ?_⟩
      · refine ⟨by omega, ?_⟩
        exact hK (v24_3) (by omega)
      · refine ⟨by omega, by omega, ?_⟩
        intro q4
        refine ⟨by omega, by omega, ?_⟩
        intro q5
        refine ⟨fun h63 => ?_, fun h63 => ?_⟩
        · unfold wX11_areAlike_71
          exact ⟨⟨rfl, rfl, rfl, by omega, by omega⟩, show (9 - ((v24_4 + 1))).toNat < (9 - v24_4).toNat by omega⟩
        · unfold wX11_areAlike_71
          exact ⟨⟨rfl, rfl, rfl, by omega, by omega⟩, show (9 - ((v24_4 + 1))).toNat < (9 - v24_4).toNat by omega⟩
  · unfold wX11_areAlike_20
    unfold wX11_areAlike_24
    refine ⟨fun u1 u2 u3 u4 Sx => S = Sx ∧ a1 = u1 ∧ a2 = u2 ∧ (iv 0 8 u4) ∧ (iv 0 1 u3), fun u1 u2 u3 u4 Sx => (9 - u4).toNat, ?_, fun v24_1 v24_2 v24_3 v24_4 S24h hI => ?_⟩
    · exact ⟨rfl, rfl, rfl, by omega, by omega⟩
    obtain ⟨rfl, rfl, rfl, i24_0, i24_1⟩ := hI
    unfold wX11_areAlike_24'
    refine ⟨by omega, by omega, ?_⟩
    intro q6
    refine ⟨by omega, ?_⟩
    refine ⟨fun h32 => ?_, fun h32 => ?_⟩
    · refine ⟨by omega, ?_⟩
      exact hK (v24_3) (by omega)
    · refine ⟨by omega, ?_⟩
      refine ⟨fun h36 => ?_, fun h36 => ?_⟩
      · refine ⟨by omega, ?_⟩
        exact hK (v24_3) (by omega)
      · refine ⟨by omega, by omega, ?_⟩
        intro q7
        refine ⟨by omega, by omega, ?_⟩
        intro q8
        refine ⟨fun h63 => ?_, fun h63 => ?_⟩
        · unfold wX11_areAlike_71
          exact ⟨⟨rfl, rfl, rfl, by omega, by omega⟩, show (9 - ((v24_4 + 1))).toNat < (9 - v24_4).toNat by omega⟩
        · unfold wX11_areAlike_71
          exact ⟨⟨rfl, rfl, rfl, by omega, by omega⟩, show (9 - ((v24_4 + 1))).toNat < (9 - v24_4).toNat by omega⟩

set_option maxRecDepth 100000 in
set_option maxHeartbeats 4000000 in
theorem tX11_isLetter {a1 : Int} {S : St} {K : Int → St → Prop}  (hK : ∀ (r : Int), ((((97 ≤ a1 ∧ a1 ≤ 122) ∨ (65 ≤ a1 ∧ a1 ≤ 90)) ∧ r = 1) ∨ (¬ ((97 ≤ a1 ∧ a1 ≤ 122) ∨ (65 ≤ a1 ∧ a1 ≤ 90)) ∧ r = 0)) → K r S) : wX11_isLetter a1 S K := by
  unfold wX11_isLetter
  intro g1
  refine ⟨fun h3 => ?_, fun h3 => ?_⟩
  · unfold wX11_isLetter_12
    refine ⟨by omega, ?_⟩
    refine ⟨fun h15 => ?_, fun h15 => ?_⟩
    · exact hK (0) (by omega)
    · refine ⟨fun h21 => ?_, fun h21 => ?_⟩
      · exact hK (0) (by omega)
      · exact hK (1) (by omega)
  · refine ⟨fun h9 => ?_, fun h9 => ?_⟩
    · exact hK (1) (by omega)
    · unfold wX11_isLetter_12
      refine ⟨by omega, ?_⟩
      refine ⟨fun h15 => ?_, fun h15 => ?_⟩
      · exact hK (0) (by omega)
      · refine ⟨fun h21 => ?_, fun h21 => ?_⟩
        · exact hK (0) (by omega)
        · exact hK (1) (by omega)

set_option maxRecDepth 100000 in
set_option maxHeartbeats 4000000 in
theorem tX11_beginsName {a1 : Int} {S : St} {K : Int → St → Prop}  (hK : ∀ (r : Int), (((((97 ≤ a1 ∧ a1 ≤ 122) ∨ (65 ≤ a1 ∧ a1 ≤ 90)) ∨ a1 = 95) ∧ r = 1) ∨ (¬ (((97 ≤ a1 ∧ a1 ≤ 122) ∨ (65 ≤ a1 ∧ a1 ≤ 90)) ∨ a1 = 95) ∧ r = 0)) → K r S) : wX11_beginsName a1 S K := by
  unfold wX11_beginsName
  intro g1
  refine tX11_isLetter  (fun r1 n1_0 => ?_)
  refine ⟨by omega, ?_⟩
  refine ⟨fun h4 => ?_, fun h4 => ?_⟩
  · exact hK (1) (by omega)
  · refine ⟨fun h10 => ?_, fun h10 => ?_⟩
    · exact hK (0) (by omega)
    · exact hK (1) (by omega)

set_option maxRecDepth 100000 in
set_option maxHeartbeats 4000000 in
theorem tX11_isDigit {a1 : Int} {S : St} {K : Int → St → Prop}  (hK : ∀ (r : Int), ((48 ≤ a1 ∧ a1 ≤ 57 ∧ r = 1) ∨ ((a1 < 48 ∨ 57 < a1) ∧ r = 0)) → K r S) : wX11_isDigit a1 S K := by
  unfold wX11_isDigit
  intro g1
  refine ⟨fun h3 => ?_, fun h3 => ?_⟩
  · exact hK (0) (by omega)
  · refine ⟨fun h9 => ?_, fun h9 => ?_⟩
    · exact hK (0) (by omega)
    · exact hK (1) (by omega)

set_option maxRecDepth 100000 in
set_option maxHeartbeats 4000000 in
theorem tX11_inName {a1 : Int} {S : St} {K : Int → St → Prop}  (hK : ∀ (r : Int), (((((97 ≤ a1 ∧ a1 ≤ 122) ∨ (65 ≤ a1 ∧ a1 ≤ 90)) ∨ a1 = 95 ∨ (48 ≤ a1 ∧ a1 ≤ 57) ∨ a1 = 45 ∨ a1 = 46) ∧ r = 1) ∨ (¬ (((97 ≤ a1 ∧ a1 ≤ 122) ∨ (65 ≤ a1 ∧ a1 ≤ 90)) ∨ a1 = 95 ∨ (48 ≤ a1 ∧ a1 ≤ 57) ∨ a1 = 45 ∨ a1 = 46) ∧ r = 0)) → K r S) : wX11_inName a1 S K := by
  unfold wX11_inName
  intro g1
  refine tX11_beginsName  (fun r1 n1_0 => ?_)
  refine ⟨by omega, ?_⟩
  refine ⟨fun h4 => ?_, fun h4 => ?_⟩
  · exact hK (1) (by omega)
  · refine tX11_isDigit  (fun r8 n8_0 => ?_)
    refine ⟨by omega, ?_⟩
    refine ⟨fun h11 => ?_, fun h11 => ?_⟩
    · exact hK (1) (by omega)
    · refine ⟨fun h17 => ?_, fun h17 => ?_⟩
      · exact hK (1) (by omega)
      · refine ⟨fun h23 => ?_, fun h23 => ?_⟩
        · exact hK (0) (by omega)
        · exact hK (1) (by omega)

set_option maxRecDepth 100000 in
set_option maxHeartbeats 4000000 in
theorem tX11_entity {a1 : Int} {S : St} {K : Int → St → Prop}  (hK : ∀ (r : Int), (0 ≤ r ∧ r ≤ 127) → K r S) : wX11_entity a1 S K := by
  unfold wX11_entity
  intro g1
  refine ⟨fun h1 => ?_, fun h1 => ?_⟩
  · refine ⟨fun h11 => ?_, fun h11 => ?_⟩
    · refine ⟨fun h21 => ?_, fun h21 => ?_⟩
      · refine ⟨fun h31 => ?_, fun h31 => ?_⟩
        · exact hK (39) (by omega)
        · exact hK (34) (by omega)
      · exact hK (62) (by omega)
    · exact hK (60) (by omega)
  · exact hK (38) (by omega)

set_option maxRecDepth 100000 in
set_option maxHeartbeats 4000000 in
theorem tX11_entitySign {a1 a2 : Int} {S : St} {K : Int → St → Prop} (p1 : iv 0 4 a1) (p2 : iv 0 5 a2) (hK : ∀ (r : Int), (0 ≤ r ∧ r ≤ 127) → K r S) : wX11_entitySign a1 a2 S K := by
  unfold wX11_entitySign
  intro g1 g2
  refine ⟨by omega, ?_⟩
  refine ⟨fun h1 => ?_, fun h1 => ?_, fun h1 => ?_, fun h1 => ?_, fun h1 => ?_, fun h1 => ?_, fun h1 => ?_, fun h1 => ?_, fun h1 => ?_, fun h1 => ?_, fun h1 => ?_, fun h1 => ?_, fun h1 => ?_, fun h1 => ?_, fun h1 => ?_, fun h1 => ?_, fun h1 => ?_, fun h1 => ?_, fun h1 => ?_, fun h1 => ?_, fun h1 => ?_, fun h1 => ?_, fun h1 => ?_, fun h1 => ?_, fun h1 => ?_, fun h1 => ?_⟩
  · exact hK (0) (by omega)
  · exact hK (97) (by omega)
  · exact hK (109) (by omega)
  · exact hK (112) (by omega)
  · exact hK (59) (by omega)
  · exact hK (0) (by omega)
  · exact hK (108) (by omega)
  · exact hK (116) (by omega)
  · exact hK (59) (by omega)
  · exact hK (0) (by omega)
  · exact hK (0) (by omega)
  · exact hK (103) (by omega)
  · exact hK (116) (by omega)
  · exact hK (59) (by omega)
  · exact hK (0) (by omega)
  · exact hK (0) (by omega)
  · exact hK (113) (by omega)
  · exact hK (117) (by omega)
  · exact hK (111) (by omega)
  · exact hK (116) (by omega)
  · exact hK (59) (by omega)
  · exact hK (97) (by omega)
  · exact hK (112) (by omega)
  · exact hK (111) (by omega)
  · exact hK (115) (by omega)
  · exact hK (59) (by omega)

set_option maxRecDepth 100000 in
set_option maxHeartbeats 4000000 in
theorem tX11_figure {a1 a2 : Int} {S : St} {K : Int → St → Prop}  (hK : ∀ (r : Int), (r = -2 ∨ (0 ≤ r ∧ r ≤ 15 ∧ 48 ≤ a1)) → K r S) : wX11_figure a1 a2 S K := by
  unfold wX11_figure
  intro g1 g2
  refine tX11_isDigit  (fun r1 n1_0 => ?_)
  refine ⟨by omega, ?_⟩
  refine ⟨fun h4 => ?_, fun h4 => ?_⟩
  · refine ⟨fun h15 => ?_, fun h15 => ?_⟩
    · unfold wX11_figure_40
      refine ⟨by omega, ?_⟩
      refine ⟨fun h41 => ?_, fun h41 => ?_⟩
      · exact hK ((-2)) (by omega)
      · refine ⟨by omega, ?_⟩
        refine ⟨fun h47 => ?_, fun h47 => ?_⟩
        · exact hK ((-2)) (by omega)
        · refine ⟨fun h53 => ?_, fun h53 => ?_⟩
          · exact hK ((-2)) (by omega)
          · exact hK (((a1 - 65) + 10)) (by omega)
    · refine ⟨fun h21 => ?_, fun h21 => ?_⟩
      · unfold wX11_figure_40
        refine ⟨by omega, ?_⟩
        refine ⟨fun h41 => ?_, fun h41 => ?_⟩
        · exact hK ((-2)) (by omega)
        · refine ⟨by omega, ?_⟩
          refine ⟨fun h47 => ?_, fun h47 => ?_⟩
          · exact hK ((-2)) (by omega)
          · refine ⟨fun h53 => ?_, fun h53 => ?_⟩
            · exact hK ((-2)) (by omega)
            · exact hK (((a1 - 65) + 10)) (by omega)
      · refine ⟨fun h27 => ?_, fun h27 => ?_⟩
        · unfold wX11_figure_40
          refine ⟨by omega, ?_⟩
          refine ⟨fun h41 => ?_, fun h41 => ?_⟩
          · exact hK ((-2)) (by omega)
          · refine ⟨by omega, ?_⟩
            refine ⟨fun h47 => ?_, fun h47 => ?_⟩
            · exact hK ((-2)) (by omega)
            · refine ⟨fun h53 => ?_, fun h53 => ?_⟩
              · exact hK ((-2)) (by omega)
              · exact hK (((a1 - 65) + 10)) (by omega)
        · exact hK (((a1 - 97) + 10)) (by omega)
  · exact hK ((a1 - 48)) (by omega)

set_option maxRecDepth 100000 in
set_option maxHeartbeats 4000000 in
theorem tX11_sameName {a1 a2 : Int} {S : St} {K : Int → St → Prop} (p1 : iv 0 29 a1) (p2 : iv 0 29 a2) (hK : ∀ (r : Int), (iv 0 1 r) → K r S) : wX11_sameName a1 a2 S K := by
  unfold wX11_sameName
  intro g1 g2
  refine ⟨by omega, by omega, ?_⟩
  intro q1
  refine ⟨by omega, by omega, ?_⟩
  intro q2
  refine ⟨fun h12 => ?_, fun h12 => ?_⟩
  · unfold wX11_sameName_20
    unfold wX11_sameName_24
    refine ⟨fun u1 u2 u3 u4 Sx => S = Sx ∧ a1 = u1 ∧ a2 = u2 ∧ (iv 0 8 u4) ∧ (iv 0 1 u3), fun u1 u2 u3 u4 Sx => (9 - u4).toNat, ?_, fun v24_1 v24_2 v24_3 v24_4 S24h hI => ?_⟩
    · exact ⟨rfl, rfl, rfl, by omega, by omega⟩
    obtain ⟨rfl, rfl, rfl, i24_0, i24_1⟩ := hI
    unfold wX11_sameName_24'
    refine ⟨by omega, by omega, ?_⟩
    intro q3
    refine ⟨by omega, ?_⟩
    refine ⟨fun h32 => ?_, fun h32 => ?_⟩
    · refine ⟨by omega, ?_⟩
      exact hK (v24_3) (by omega)
    · refine ⟨by omega, ?_⟩
      refine ⟨fun h36 => ?_, fun h36 => ?_⟩
      · refine ⟨by omega, ?_⟩
        exact hK (v24_3) (by omega)
      · refine ⟨by omega, by omega, ?_⟩
        intro q4
        refine ⟨by omega, by omega, ?_⟩
        intro q5
        refine ⟨fun h63 => ?_, fun h63 => ?_⟩
        · unfold wX11_sameName_71
          exact ⟨⟨rfl, rfl, rfl, by omega, by omega⟩, show (9 - ((v24_4 + 1))).toNat < (9 - v24_4).toNat by omega⟩
        · unfold wX11_sameName_71
          exact ⟨⟨rfl, rfl, rfl, by omega, by omega⟩, show (9 - ((v24_4 + 1))).toNat < (9 - v24_4).toNat by omega⟩
  · unfold wX11_sameName_20
    unfold wX11_sameName_24
    refine ⟨fun u1 u2 u3 u4 Sx => S = Sx ∧ a1 = u1 ∧ a2 = u2 ∧ (iv 0 8 u4) ∧ (iv 0 1 u3), fun u1 u2 u3 u4 Sx => (9 - u4).toNat, ?_, fun v24_1 v24_2 v24_3 v24_4 S24h hI => ?_⟩
    · exact ⟨rfl, rfl, rfl, by omega, by omega⟩
    obtain ⟨rfl, rfl, rfl, i24_0, i24_1⟩ := hI
    unfold wX11_sameName_24'
    refine ⟨by omega, by omega, ?_⟩
    intro q6
    refine ⟨by omega, ?_⟩
    refine ⟨fun h32 => ?_, fun h32 => ?_⟩
    · refine ⟨by omega, ?_⟩
      exact hK (v24_3) (by omega)
    · refine ⟨by omega, ?_⟩
      refine ⟨fun h36 => ?_, fun h36 => ?_⟩
      · refine ⟨by omega, ?_⟩
        exact hK (v24_3) (by omega)
      · refine ⟨by omega, by omega, ?_⟩
        intro q7
        refine ⟨by omega, by omega, ?_⟩
        intro q8
        refine ⟨fun h63 => ?_, fun h63 => ?_⟩
        · unfold wX11_sameName_71
          exact ⟨⟨rfl, rfl, rfl, by omega, by omega⟩, show (9 - ((v24_4 + 1))).toNat < (9 - v24_4).toNat by omega⟩
        · unfold wX11_sameName_71
          exact ⟨⟨rfl, rfl, rfl, by omega, by omega⟩, show (9 - ((v24_4 + 1))).toNat < (9 - v24_4).toNat by omega⟩

set_option maxRecDepth 100000 in
set_option maxHeartbeats 4000000 in
theorem tX11_put {a1 : Int} {S : St} {K : Int → St → Prop}  (hK : ∀ (r : Int) (S' : St), Ch [39] [83] S S' → (((S.1 54 39) ≤ 3000 ∧ (S'.1 54 39) = (S.1 54 39) + 1) ∨ ((S.1 54 39) = 3001 ∧ (S'.1 54 39) = 3001)) → ((S'.1 54 39) ≤ 3001) → K r S') : wX11_put a1 S K := by
  unfold wX11_put
  intro g1
  intro q1
  refine ⟨fun h7 => ?_, fun h7 => ?_⟩
  · exact hK (0) S (Ch.wk Ch.rf (by decide) (by decide)) (by omega) (by omega)
  · refine ⟨by omega, by omega, ?_⟩
    refine ⟨by omega, ?_⟩
    intro S19 hS19e
    have hS19 : Ch [] [83] S S19 := Ch_A hS19e
    have hS19v : ∀ x, (x = S.1 54 39 ∧ S19.2 83 x = a1) ∨ (¬ x = S.1 54 39 ∧ S19.2 83 x = S.2 83 x) := pA_at hS19e
    intro q2
    have e3 : S19.1 54 39 = S.1 54 39 := hS19.1 39 (by decide)
    refine ⟨by omega, ?_⟩
    intro S27 hS27e
    have hS27 : Ch [39] [] S19 S27 := Ch_I hS27e
    have hS27v : S27.1 54 39 = (S19.1 54 39 + 1) := pI_at hS27e
    exact hK (0) S27 (Ch.wk (Ch.tr hS19 hS27) (by decide) (by decide)) (by omega) (by omega)

set_option maxRecDepth 100000 in
set_option maxHeartbeats 4000000 in
theorem tX11_isBlank {a1 : Int} {S : St} {K : Int → St → Prop}  (hK : ∀ (r : Int), (((a1 = 32 ∨ a1 = 9 ∨ a1 = 10 ∨ a1 = 13) ∧ r = 1) ∨ (¬ (a1 = 32 ∨ a1 = 9 ∨ a1 = 10 ∨ a1 = 13) ∧ r = 0)) → K r S) : wX11_isBlank a1 S K := by
  unfold wX11_isBlank
  intro g1
  refine ⟨fun h3 => ?_, fun h3 => ?_⟩
  · exact hK (1) (by omega)
  · refine ⟨fun h9 => ?_, fun h9 => ?_⟩
    · exact hK (1) (by omega)
    · refine ⟨fun h15 => ?_, fun h15 => ?_⟩
      · exact hK (1) (by omega)
      · refine ⟨fun h21 => ?_, fun h21 => ?_⟩
        · exact hK (0) (by omega)
        · exact hK (1) (by omega)

set_option maxRecDepth 100000 in
set_option maxHeartbeats 4000000 in
theorem tX11_isMixed {a1 : Int} {S : St} {K : Int → St → Prop} (p1 : iv 0 6 a1) (hK : ∀ (r : Int), (iv 0 1 r) → K r S) : wX11_isMixed a1 S K := by
  unfold wX11_isMixed
  intro g1
  unfold wX11_isMixed_4
  refine ⟨fun u1 u2 u3 Sx => S = Sx ∧ a1 = u1 ∧ (iv 0 6 u3) ∧ (iv 0 1 u2), fun u1 u2 u3 Sx => (7 - u3).toNat, ?_, fun v4_1 v4_2 v4_3 S4h hI => ?_⟩
  · exact ⟨rfl, rfl, by omega, by omega⟩
  obtain ⟨rfl, rfl, i4_0, i4_1⟩ := hI
  unfold wX11_isMixed_4'
  refine ⟨by omega, ?_⟩
  refine ⟨by omega, ?_⟩
  refine ⟨fun h6 => ?_, fun h6 => ?_⟩
  · refine ⟨by omega, ?_⟩
    exact hK (v4_2) (by omega)
  · unfold wX11_isMixed_15
    refine ⟨fun u1 u2 u3 u4 u5 Sx => S = Sx ∧ a1 = u1 ∧ v4_2 = u2 ∧ v4_3 = u3 ∧ (iv 0 4 u5) ∧ (iv 0 1 u4), fun u1 u2 u3 u4 u5 Sx => (5 - u5).toNat, ?_, fun v15_1 v15_2 v15_3 v15_4 v15_5 S15h hI => ?_⟩
    · exact ⟨rfl, rfl, rfl, rfl, by omega, by omega⟩
    obtain ⟨rfl, rfl, rfl, rfl, i15_0, i15_1⟩ := hI
    unfold wX11_isMixed_15'
    refine ⟨by omega, by omega, ?_⟩
    intro q1
    refine ⟨by omega, ?_⟩
    refine ⟨fun h23 => ?_, fun h23 => ?_⟩
    · unfold wX11_isMixed_76
      refine ⟨fun u1 u2 u3 u4 u5 Sx => S = Sx ∧ a1 = u1 ∧ v4_3 = u3 ∧ v15_4 = u4 ∧ (iv 0 4 u5) ∧ (iv 0 1 u2), fun u1 u2 u3 u4 u5 Sx => (5 - u5).toNat, ?_, fun v76_1 v76_2 v76_3 v76_4 v76_5 S76h hI => ?_⟩
      · exact ⟨rfl, rfl, rfl, rfl, by omega, by omega⟩
      obtain ⟨rfl, rfl, rfl, rfl, i76_0, i76_1⟩ := hI
      unfold wX11_isMixed_76'
      refine ⟨by omega, by omega, ?_⟩
      intro q2
      refine ⟨by omega, ?_⟩
      refine ⟨fun h84 => ?_, fun h84 => ?_⟩
      · unfold wX11_isMixed_141
        exact ⟨⟨rfl, rfl, by omega, by omega⟩, show (7 - ((v4_3 + 1))).toNat < (7 - v4_3).toNat by omega⟩
      · refine ⟨by omega, ?_⟩
        refine ⟨fun h89 => ?_, fun h89 => ?_⟩
        · unfold wX11_isMixed_141
          exact ⟨⟨rfl, rfl, by omega, by omega⟩, show (7 - ((v4_3 + 1))).toNat < (7 - v4_3).toNat by omega⟩
        · unfold wX11_isMixed_95
          refine ⟨fun u1 u2 u3 u4 u5 u6 Sx => S = Sx ∧ a1 = u1 ∧ v4_3 = u3 ∧ v15_4 = u4 ∧ v76_5 = u5 ∧ (iv 0 6 u6) ∧ (iv 0 1 u2), fun u1 u2 u3 u4 u5 u6 Sx => (7 - u6).toNat, ?_, fun v95_1 v95_2 v95_3 v95_4 v95_5 v95_6 S95h hI => ?_⟩
          · exact ⟨rfl, rfl, rfl, rfl, rfl, by omega, by omega⟩
          obtain ⟨rfl, rfl, rfl, rfl, rfl, i95_0, i95_1⟩ := hI
          unfold wX11_isMixed_95'
          refine ⟨by omega, ?_⟩
          refine ⟨by omega, ?_⟩
          refine ⟨fun h98 => ?_, fun h98 => ?_⟩
          · exact ⟨⟨rfl, rfl, rfl, rfl, by omega, by omega⟩, show (5 - ((v76_5 + 1))).toNat < (5 - v76_5).toNat by omega⟩
          · refine ⟨by omega, ?_⟩
            refine ⟨fun h102 => ?_, fun h102 => ?_⟩
            · unfold wX11_isMixed_123
              unfold wX11_isMixed_128
              exact ⟨⟨rfl, rfl, rfl, rfl, rfl, by omega, by omega⟩, show (7 - ((v95_6 + 1))).toNat < (7 - v95_6).toNat by omega⟩
            · refine ⟨by omega, ?_⟩
              refine tX11_areAlike (by omega) (by omega) (fun r117 n117_0 => ?_)
              refine ⟨by omega, ?_⟩
              refine ⟨fun h120 => ?_, fun h120 => ?_⟩
              · unfold wX11_isMixed_128
                exact ⟨⟨rfl, rfl, rfl, rfl, rfl, by omega, by omega⟩, show (7 - ((v95_6 + 1))).toNat < (7 - v95_6).toNat by omega⟩
              · unfold wX11_isMixed_123
                unfold wX11_isMixed_128
                exact ⟨⟨rfl, rfl, rfl, rfl, rfl, by omega, by omega⟩, show (7 - ((v95_6 + 1))).toNat < (7 - v95_6).toNat by omega⟩
    · refine ⟨by omega, ?_⟩
      refine ⟨fun h28 => ?_, fun h28 => ?_⟩
      · unfold wX11_isMixed_60
        unfold wX11_isMixed_65
        exact ⟨⟨rfl, rfl, rfl, rfl, by omega, by omega⟩, show (5 - ((v15_5 + 1))).toNat < (5 - v15_5).toNat by omega⟩
      · refine ⟨by omega, by omega, ?_⟩
        intro q3
        refine ⟨fun h43 => ?_, fun h43 => ?_⟩
        · unfold wX11_isMixed_64
          unfold wX11_isMixed_65
          exact ⟨⟨rfl, rfl, rfl, rfl, by omega, by omega⟩, show (5 - ((v15_5 + 1))).toNat < (5 - v15_5).toNat by omega⟩
        · refine ⟨by omega, by omega, ?_⟩
          intro q4
          refine ⟨fun h57 => ?_, fun h57 => ?_⟩
          · unfold wX11_isMixed_64
            unfold wX11_isMixed_65
            exact ⟨⟨rfl, rfl, rfl, rfl, by omega, by omega⟩, show (5 - ((v15_5 + 1))).toNat < (5 - v15_5).toNat by omega⟩
          · unfold wX11_isMixed_60
            unfold wX11_isMixed_65
            exact ⟨⟨rfl, rfl, rfl, rfl, by omega, by omega⟩, show (5 - ((v15_5 + 1))).toNat < (5 - v15_5).toNat by omega⟩

set_option maxRecDepth 100000 in
set_option maxHeartbeats 4000000 in
theorem tX11_signAt {a1 : Int} {S : St} {K : Int → St → Prop} (p1 : 0 ≤ a1) (hK : ∀ (r : Int), ((a1 < (S.1 54 0) ∧ r = (S.2 55) a1) ∨ ((S.1 54 0) ≤ a1 ∧ r = 0)) → (rng r) → (iv 0 3000 ((S.1 54 0))) → K r S) : wX11_signAt a1 S K := by
  unfold wX11_signAt
  intro g1
  intro q1
  refine ⟨fun h5 => ?_, fun h5 => ?_⟩
  · exact hK (0) (by omega) (by omega) (by omega)
  · refine ⟨by omega, by omega, ?_⟩
    intro q2
    exact hK (S.2 55 (a1)) (by omega) (by omega) (by omega)
