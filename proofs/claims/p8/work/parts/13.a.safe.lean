/-! WHAT A CALL LEAVES ALONE: only the fields fs and the arrays xs of the model may have changed -/
def Ch (fs xs : List Nat) (S S' : St) : Prop := (∀ j, j ∉ fs → S'.1 54 j = S.1 54 j) ∧ ∀ a, a ∉ xs → S'.2 a = S.2 a
theorem Ch.rf {S : St} : Ch [] [] S S := ⟨fun _ _ => rfl, fun _ _ => rfl⟩
theorem Ch.re {fs xs : List Nat} {S : St} : Ch fs xs S S := ⟨fun _ _ => rfl, fun _ _ => rfl⟩
theorem Ch.tr {f g x y : List Nat} {S S1 S2 : St} (h : Ch f x S S1) (k : Ch g y S1 S2) : Ch (f ++ g) (x ++ y) S S2 :=
  ⟨fun j hj => (k.1 j fun q => hj (List.mem_append_right _ q)).trans (h.1 j fun q => hj (List.mem_append_left _ q)), fun a ha => (k.2 a fun q => ha (List.mem_append_right _ q)).trans (h.2 a fun q => ha (List.mem_append_left _ q))⟩
theorem Ch.wk {f g x y : List Nat} {S S1 : St} (h : Ch f x S S1) (hf : ∀ j ∈ f, j ∈ g) (hx : ∀ j ∈ x, j ∈ y) : Ch g y S S1 := ⟨fun j hj => h.1 j fun q => hj (hf j q), fun a ha => h.2 a fun q => ha (hx a q)⟩
theorem Ch_I {S S2 : St} {j : Nat} {v : Int} (h : S2 = pI S 54 j v) : Ch [j] [] S S2 := by
  subst h
  refine ⟨fun k hk => ?_, fun _ _ => rfl⟩
  show (if 54 = 54 ∧ k = j then v else S.1 54 k) = _
  rw [if_neg fun q => hk (by rw [q.2]; exact List.mem_singleton_self j)]
theorem Ch_A {S S2 : St} {c : Nat} {i v : Int} (h : S2 = pA S c i v) : Ch [] [c] S S2 := by
  subst h
  refine ⟨fun _ _ => rfl, fun a ha => ?_⟩
  funext k
  show (if a = c ∧ k = i then v else S.2 a k) = _
  rw [if_neg fun q => ha (by rw [q.1]; exact List.mem_singleton_self c)]
theorem pI_at {S S2 : St} {j : Nat} {v : Int} (h : S2 = pI S 54 j v) : S2.1 54 j = v := by
  subst h
  show (if 54 = 54 ∧ j = j then v else S.1 54 j) = v
  rw [if_pos ⟨rfl, rfl⟩]
theorem pA_at {S S2 : St} {c : Nat} {i v : Int} (h : S2 = pA S c i v) : ∀ x, S2.2 c x = if x = i then v else S.2 c x := by
  subst h
  intro x
  show (if c = c ∧ x = i then v else S.2 c x) = _
  by_cases q : x = i
  · rw [if_pos ⟨rfl, q⟩, if_pos q]
  · rw [if_neg fun r => q r.2, if_neg q]
/-! the heaps are typed: what a field holds goes with its kind -/
def tyV (c kd v : Int) : Prop := (¬ kd = 1 ∨ iv 0 20 v) ∧ (¬ kd = 2 ∨ v = -2 ∨ (0 ≤ v ∧ v < c)) ∧ (¬ kd = 3 ∨ iv 0 8 v)
def OK0 (S : St) : Prop := ∀ x y : Int, x < 0 ∨ S.2 67 0 ≤ x ∨ y < 0 ∨ 3 < y ∨ tyV (S.2 67 0) (S.2 59 (4 * S.2 68 x + y)) (S.2 69 (4 * x + y))
def OL0 (S : St) : Prop := ∀ x y z : Int, x < 0 ∨ S.2 67 0 ≤ x ∨ y < 0 ∨ 3 < y ∨ ¬ S.2 59 (4 * S.2 68 x + y) = 3 ∨ z < 0 ∨ S.2 69 (4 * x + y) ≤ z ∨ (0 ≤ S.2 70 (20 * (4 * x + y) + z) ∧ S.2 70 (20 * (4 * x + y) + z) < S.2 67 0)
def OC0 (S : St) : Prop := ∀ x : Int, x < 0 ∨ S.2 67 0 ≤ x ∨ S.2 68 x < S.1 54 2
def OK1 (S : St) : Prop := ∀ x y : Int, x < 0 ∨ S.2 67 1 ≤ x ∨ y < 0 ∨ 3 < y ∨ tyV (S.2 67 1) (S.2 59 (4 * S.2 68 (30 + x) + y)) (S.2 69 (4 * (30 + x) + y))

set_option maxRecDepth 100000 in
set_option maxHeartbeats 4000000 in
theorem tX11_isObject {a1 a2 : Int} {S : St} {K : Int → St → Prop} (p1 : iv 0 2 a1) (hK : ∀ (r : Int) (S' : St), Ch [] [] S S' → ((0 ≤ a2 ∧ a2 < (S.2 67) a1 ∧ r = 1) ∨ ((a2 < 0 ∨ (S.2 67) a1 ≤ a2) ∧ r = 0)) → K r S') : wX11_isObject a1 a2 S K := by
  unfold wX11_isObject
  intro g1 g2
  refine ⟨fun h1 => ?_, fun h1 => ?_⟩
  · exact hK (0) S (Ch.wk Ch.rf (by decide) (by decide)) (by omega)
  · refine ⟨by omega, by omega, ?_⟩
    intro q1
    refine ⟨fun h11 => ?_, fun h11 => ?_⟩
    · exact hK (0) S (Ch.wk Ch.rf (by decide) (by decide)) (by omega)
    · exact hK (1) S (Ch.wk Ch.rf (by decide) (by decide)) (by omega)

set_option maxRecDepth 100000 in
set_option maxHeartbeats 4000000 in
theorem tX11_in {a1 a2 a3 : Int} {S : St} {K : Int → St → Prop}  (hK : ∀ (r : Int) (S' : St), Ch [] [] S S' → ((a2 ≤ a1 ∧ a1 ≤ a3 ∧ r = 1) ∨ ((a1 < a2 ∨ a3 < a1) ∧ r = 0)) → K r S') : wX11_in a1 a2 a3 S K := by
  unfold wX11_in
  intro g1 g2 g3
  refine ⟨fun h2 => ?_, fun h2 => ?_⟩
  · exact hK (0) S (Ch.wk Ch.rf (by decide) (by decide)) (by omega)
  · refine ⟨fun h7 => ?_, fun h7 => ?_⟩
    · exact hK (0) S (Ch.wk Ch.rf (by decide) (by decide)) (by omega)
    · exact hK (1) S (Ch.wk Ch.rf (by decide) (by decide)) (by omega)

set_option maxRecDepth 100000 in
set_option maxHeartbeats 4000000 in
theorem tX11_kindAt {a1 a2 a3 : Int} {S : St} {K : Int → St → Prop}  (hK : ∀ (r : Int) (S' : St), Ch [] [] S S' → ((r = -1) ∨ (iv 0 1 a1 ∧ 0 ≤ a2 ∧ a2 < (S.2 67) a1 ∧ 0 ≤ a3 ∧ a3 ≤ 3 ∧ iv 0 3 r ∧ r = (S.2 59) (4 * (S.2 68) (30 * a1 + a2) + a3))) → K r S') : wX11_kindAt a1 a2 a3 S K := by
  unfold wX11_kindAt
  intro g1 g2 g3
  refine tX11_in  (fun r3 S3 hS3 n3_0 => ?_)
  refine ⟨by omega, ?_⟩
  refine ⟨fun h6 => ?_, fun h6 => ?_⟩
  · exact hK ((-1)) S3 (Ch.wk hS3 (by decide) (by decide)) (by omega)
  · have e1 : S3.2 67 (a1) = S.2 67 (a1) := congrFun (hS3.2 67 (by decide)) _
    refine tX11_isObject (by omega) (fun r12 S12 hS12 n12_0 => ?_)
    refine ⟨by omega, ?_⟩
    refine ⟨fun h15 => ?_, fun h15 => ?_⟩
    · refine ⟨by omega, by omega, ?_⟩
      intro q2
      have e3 : S12.2 68 (((30 * a1) + a2)) = S3.2 68 (((30 * a1) + a2)) := congrFun (hS12.2 68 (by decide)) _
      have e4 : S3.2 68 (((30 * a1) + a2)) = S.2 68 (((30 * a1) + a2)) := congrFun (hS3.2 68 (by decide)) _
      intro x31 hx31
      subst hx31
      refine ⟨by omega, by omega, ?_⟩
      intro q5
      have e6 : S12.2 56 ((S12.2 68 (((30 * a1) + a2)))) = S3.2 56 ((S12.2 68 (((30 * a1) + a2)))) := congrFun (hS12.2 56 (by decide)) _
      have e7 : S3.2 56 ((S12.2 68 (((30 * a1) + a2)))) = S.2 56 ((S12.2 68 (((30 * a1) + a2)))) := congrFun (hS3.2 56 (by decide)) _
      refine ⟨by omega, ?_⟩
      refine tX11_in  (fun r44 S44 hS44 n44_0 => ?_)
      refine ⟨by omega, ?_⟩
      refine ⟨fun h47 => ?_, fun h47 => ?_⟩
      · exact hK ((-1)) S44 (Ch.wk (Ch.tr (Ch.tr hS3 hS12) hS44) (by decide) (by decide)) (by omega)
      · refine ⟨by omega, by omega, ?_⟩
        intro q8
        have e9 : S44.2 59 (((4 * (S12.2 68 (((30 * a1) + a2)))) + a3)) = S12.2 59 (((4 * (S12.2 68 (((30 * a1) + a2)))) + a3)) := congrFun (hS44.2 59 (by decide)) _
        have e10 : S12.2 59 (((4 * (S12.2 68 (((30 * a1) + a2)))) + a3)) = S3.2 59 (((4 * (S12.2 68 (((30 * a1) + a2)))) + a3)) := congrFun (hS12.2 59 (by decide)) _
        have e11 : S3.2 59 (((4 * (S12.2 68 (((30 * a1) + a2)))) + a3)) = S.2 59 (((4 * (S12.2 68 (((30 * a1) + a2)))) + a3)) := congrFun (hS3.2 59 (by decide)) _
        exact hK (S44.2 59 (((4 * (S12.2 68 (((30 * a1) + a2)))) + a3))) S44 (Ch.wk (Ch.tr (Ch.tr hS3 hS12) hS44) (by decide) (by decide)) (by omega)
    · exact hK ((-1)) S12 (Ch.wk (Ch.tr hS3 hS12) (by decide) (by decide)) (by omega)

set_option maxRecDepth 100000 in
set_option maxHeartbeats 4000000 in
theorem tX11_areAlike {a1 a2 : Int} {S : St} {K : Int → St → Prop} (p1 : iv 0 29 a1) (p2 : iv 0 29 a2) (hK : ∀ (r : Int) (S' : St), Ch [] [] S S' → (iv 0 1 r) → K r S') : wX11_areAlike a1 a2 S K := by
  unfold wX11_areAlike
  intro g1 g2
  refine ⟨by omega, by omega, ?_⟩
  intro q1
  refine ⟨by omega, by omega, ?_⟩
  intro q2
  refine ⟨fun h12 => ?_, fun h12 => ?_⟩
  · unfold wX11_areAlike_20
    unfold wX11_areAlike_24
    refine ⟨fun u1 u2 u3 u4 Sx => Ch [] [] S Sx ∧ a1 = u1 ∧ a2 = u2 ∧ (iv 0 8 u4) ∧ (iv 0 1 u3), fun u1 u2 u3 u4 Sx => (9 - u4).toNat, ?_, fun v24_1 v24_2 v24_3 v24_4 S24h hI => ?_⟩
    · exact ⟨Ch.re, rfl, rfl, by omega, by omega⟩
    obtain ⟨hS24h, rfl, rfl, i24_0, i24_1⟩ := hI
    unfold wX11_areAlike_24'
    refine ⟨by omega, by omega, ?_⟩
    intro q3
    have e4 : S24h.2 63 (a1) = S.2 63 (a1) := congrFun (hS24h.2 63 (by decide)) _
    refine ⟨by omega, ?_⟩
    refine ⟨fun h32 => ?_, fun h32 => ?_⟩
    · refine ⟨by omega, ?_⟩
      exact hK (v24_3) S24h (Ch.wk hS24h (by decide) (by decide)) (by omega)
    · refine ⟨by omega, ?_⟩
      refine ⟨fun h36 => ?_, fun h36 => ?_⟩
      · refine ⟨by omega, ?_⟩
        exact hK (v24_3) S24h (Ch.wk hS24h (by decide) (by decide)) (by omega)
      · refine ⟨by omega, by omega, ?_⟩
        intro q5
        have e6 : S24h.2 64 (((8 * a1) + v24_4)) = S.2 64 (((8 * a1) + v24_4)) := congrFun (hS24h.2 64 (by decide)) _
        refine ⟨by omega, by omega, ?_⟩
        intro q7
        have e8 : S24h.2 64 (((8 * a2) + v24_4)) = S.2 64 (((8 * a2) + v24_4)) := congrFun (hS24h.2 64 (by decide)) _
        refine ⟨fun h63 => ?_, fun h63 => ?_⟩
        · unfold wX11_areAlike_71
          exact ⟨⟨(Ch.wk hS24h (by decide) (by decide)), rfl, rfl, by omega, by omega⟩, show (9 - ((v24_4 + 1))).toNat < (9 - v24_4).toNat by omega⟩
        · unfold wX11_areAlike_71
          exact ⟨⟨(Ch.wk hS24h (by decide) (by decide)), rfl, rfl, by omega, by omega⟩, show (9 - ((v24_4 + 1))).toNat < (9 - v24_4).toNat by omega⟩
  · unfold wX11_areAlike_20
    unfold wX11_areAlike_24
    refine ⟨fun u1 u2 u3 u4 Sx => Ch [] [] S Sx ∧ a1 = u1 ∧ a2 = u2 ∧ (iv 0 8 u4) ∧ (iv 0 1 u3), fun u1 u2 u3 u4 Sx => (9 - u4).toNat, ?_, fun v24_1 v24_2 v24_3 v24_4 S24h hI => ?_⟩
    · exact ⟨Ch.re, rfl, rfl, by omega, by omega⟩
    obtain ⟨hS24h, rfl, rfl, i24_0, i24_1⟩ := hI
    unfold wX11_areAlike_24'
    refine ⟨by omega, by omega, ?_⟩
    intro q9
    have e10 : S24h.2 63 (a1) = S.2 63 (a1) := congrFun (hS24h.2 63 (by decide)) _
    refine ⟨by omega, ?_⟩
    refine ⟨fun h32 => ?_, fun h32 => ?_⟩
    · refine ⟨by omega, ?_⟩
      exact hK (v24_3) S24h (Ch.wk hS24h (by decide) (by decide)) (by omega)
    · refine ⟨by omega, ?_⟩
      refine ⟨fun h36 => ?_, fun h36 => ?_⟩
      · refine ⟨by omega, ?_⟩
        exact hK (v24_3) S24h (Ch.wk hS24h (by decide) (by decide)) (by omega)
      · refine ⟨by omega, by omega, ?_⟩
        intro q11
        have e12 : S24h.2 64 (((8 * a1) + v24_4)) = S.2 64 (((8 * a1) + v24_4)) := congrFun (hS24h.2 64 (by decide)) _
        refine ⟨by omega, by omega, ?_⟩
        intro q13
        have e14 : S24h.2 64 (((8 * a2) + v24_4)) = S.2 64 (((8 * a2) + v24_4)) := congrFun (hS24h.2 64 (by decide)) _
        refine ⟨fun h63 => ?_, fun h63 => ?_⟩
        · unfold wX11_areAlike_71
          exact ⟨⟨(Ch.wk hS24h (by decide) (by decide)), rfl, rfl, by omega, by omega⟩, show (9 - ((v24_4 + 1))).toNat < (9 - v24_4).toNat by omega⟩
        · unfold wX11_areAlike_71
          exact ⟨⟨(Ch.wk hS24h (by decide) (by decide)), rfl, rfl, by omega, by omega⟩, show (9 - ((v24_4 + 1))).toNat < (9 - v24_4).toNat by omega⟩

set_option maxRecDepth 100000 in
set_option maxHeartbeats 4000000 in
theorem tX11_isLetter {a1 : Int} {S : St} {K : Int → St → Prop}  (hK : ∀ (r : Int) (S' : St), Ch [] [] S S' → ((((97 ≤ a1 ∧ a1 ≤ 122) ∨ (65 ≤ a1 ∧ a1 ≤ 90)) ∧ r = 1) ∨ (¬ ((97 ≤ a1 ∧ a1 ≤ 122) ∨ (65 ≤ a1 ∧ a1 ≤ 90)) ∧ r = 0)) → K r S') : wX11_isLetter a1 S K := by
  unfold wX11_isLetter
  intro g1
  refine ⟨fun h3 => ?_, fun h3 => ?_⟩
  · unfold wX11_isLetter_12
    refine ⟨by omega, ?_⟩
    refine ⟨fun h15 => ?_, fun h15 => ?_⟩
    · exact hK (0) S (Ch.wk Ch.rf (by decide) (by decide)) (by omega)
    · refine ⟨fun h21 => ?_, fun h21 => ?_⟩
      · exact hK (0) S (Ch.wk Ch.rf (by decide) (by decide)) (by omega)
      · exact hK (1) S (Ch.wk Ch.rf (by decide) (by decide)) (by omega)
  · refine ⟨fun h9 => ?_, fun h9 => ?_⟩
    · exact hK (1) S (Ch.wk Ch.rf (by decide) (by decide)) (by omega)
    · unfold wX11_isLetter_12
      refine ⟨by omega, ?_⟩
      refine ⟨fun h15 => ?_, fun h15 => ?_⟩
      · exact hK (0) S (Ch.wk Ch.rf (by decide) (by decide)) (by omega)
      · refine ⟨fun h21 => ?_, fun h21 => ?_⟩
        · exact hK (0) S (Ch.wk Ch.rf (by decide) (by decide)) (by omega)
        · exact hK (1) S (Ch.wk Ch.rf (by decide) (by decide)) (by omega)

set_option maxRecDepth 100000 in
set_option maxHeartbeats 4000000 in
theorem tX11_beginsName {a1 : Int} {S : St} {K : Int → St → Prop}  (hK : ∀ (r : Int) (S' : St), Ch [] [] S S' → (((((97 ≤ a1 ∧ a1 ≤ 122) ∨ (65 ≤ a1 ∧ a1 ≤ 90)) ∨ a1 = 95) ∧ r = 1) ∨ (¬ (((97 ≤ a1 ∧ a1 ≤ 122) ∨ (65 ≤ a1 ∧ a1 ≤ 90)) ∨ a1 = 95) ∧ r = 0)) → K r S') : wX11_beginsName a1 S K := by
  unfold wX11_beginsName
  intro g1
  refine tX11_isLetter  (fun r1 S1 hS1 n1_0 => ?_)
  refine ⟨by omega, ?_⟩
  refine ⟨fun h4 => ?_, fun h4 => ?_⟩
  · exact hK (1) S1 (Ch.wk hS1 (by decide) (by decide)) (by omega)
  · refine ⟨fun h10 => ?_, fun h10 => ?_⟩
    · exact hK (0) S1 (Ch.wk hS1 (by decide) (by decide)) (by omega)
    · exact hK (1) S1 (Ch.wk hS1 (by decide) (by decide)) (by omega)

set_option maxRecDepth 100000 in
set_option maxHeartbeats 4000000 in
theorem tX11_isDigit {a1 : Int} {S : St} {K : Int → St → Prop}  (hK : ∀ (r : Int) (S' : St), Ch [] [] S S' → ((48 ≤ a1 ∧ a1 ≤ 57 ∧ r = 1) ∨ ((a1 < 48 ∨ 57 < a1) ∧ r = 0)) → K r S') : wX11_isDigit a1 S K := by
  unfold wX11_isDigit
  intro g1
  refine ⟨fun h3 => ?_, fun h3 => ?_⟩
  · exact hK (0) S (Ch.wk Ch.rf (by decide) (by decide)) (by omega)
  · refine ⟨fun h9 => ?_, fun h9 => ?_⟩
    · exact hK (0) S (Ch.wk Ch.rf (by decide) (by decide)) (by omega)
    · exact hK (1) S (Ch.wk Ch.rf (by decide) (by decide)) (by omega)

set_option maxRecDepth 100000 in
set_option maxHeartbeats 4000000 in
theorem tX11_inName {a1 : Int} {S : St} {K : Int → St → Prop}  (hK : ∀ (r : Int) (S' : St), Ch [] [] S S' → (((((97 ≤ a1 ∧ a1 ≤ 122) ∨ (65 ≤ a1 ∧ a1 ≤ 90)) ∨ a1 = 95 ∨ (48 ≤ a1 ∧ a1 ≤ 57) ∨ a1 = 45 ∨ a1 = 46) ∧ r = 1) ∨ (¬ (((97 ≤ a1 ∧ a1 ≤ 122) ∨ (65 ≤ a1 ∧ a1 ≤ 90)) ∨ a1 = 95 ∨ (48 ≤ a1 ∧ a1 ≤ 57) ∨ a1 = 45 ∨ a1 = 46) ∧ r = 0)) → K r S') : wX11_inName a1 S K := by
  unfold wX11_inName
  intro g1
  refine tX11_beginsName  (fun r1 S1 hS1 n1_0 => ?_)
  refine ⟨by omega, ?_⟩
  refine ⟨fun h4 => ?_, fun h4 => ?_⟩
  · exact hK (1) S1 (Ch.wk hS1 (by decide) (by decide)) (by omega)
  · refine tX11_isDigit  (fun r8 S8 hS8 n8_0 => ?_)
    refine ⟨by omega, ?_⟩
    refine ⟨fun h11 => ?_, fun h11 => ?_⟩
    · exact hK (1) S8 (Ch.wk (Ch.tr hS1 hS8) (by decide) (by decide)) (by omega)
    · refine ⟨fun h17 => ?_, fun h17 => ?_⟩
      · exact hK (1) S8 (Ch.wk (Ch.tr hS1 hS8) (by decide) (by decide)) (by omega)
      · refine ⟨fun h23 => ?_, fun h23 => ?_⟩
        · exact hK (0) S8 (Ch.wk (Ch.tr hS1 hS8) (by decide) (by decide)) (by omega)
        · exact hK (1) S8 (Ch.wk (Ch.tr hS1 hS8) (by decide) (by decide)) (by omega)

set_option maxRecDepth 100000 in
set_option maxHeartbeats 4000000 in
theorem tX11_entity {a1 : Int} {S : St} {K : Int → St → Prop}  (hK : ∀ (r : Int) (S' : St), Ch [] [] S S' → (0 ≤ r ∧ r ≤ 127) → K r S') : wX11_entity a1 S K := by
  unfold wX11_entity
  intro g1
  refine ⟨fun h1 => ?_, fun h1 => ?_⟩
  · refine ⟨fun h11 => ?_, fun h11 => ?_⟩
    · refine ⟨fun h21 => ?_, fun h21 => ?_⟩
      · refine ⟨fun h31 => ?_, fun h31 => ?_⟩
        · exact hK (39) S (Ch.wk Ch.rf (by decide) (by decide)) (by omega)
        · exact hK (34) S (Ch.wk Ch.rf (by decide) (by decide)) (by omega)
      · exact hK (62) S (Ch.wk Ch.rf (by decide) (by decide)) (by omega)
    · exact hK (60) S (Ch.wk Ch.rf (by decide) (by decide)) (by omega)
  · exact hK (38) S (Ch.wk Ch.rf (by decide) (by decide)) (by omega)

set_option maxRecDepth 100000 in
set_option maxHeartbeats 4000000 in
theorem tX11_entitySign {a1 a2 : Int} {S : St} {K : Int → St → Prop} (p1 : iv 0 4 a1) (p2 : iv 0 5 a2) (hK : ∀ (r : Int) (S' : St), Ch [] [] S S' → (0 ≤ r ∧ r ≤ 127) → K r S') : wX11_entitySign a1 a2 S K := by
  unfold wX11_entitySign
  intro g1 g2
  refine ⟨by omega, ?_⟩
  refine ⟨fun h1 => ?_, fun h1 => ?_, fun h1 => ?_, fun h1 => ?_, fun h1 => ?_, fun h1 => ?_, fun h1 => ?_, fun h1 => ?_, fun h1 => ?_, fun h1 => ?_, fun h1 => ?_, fun h1 => ?_, fun h1 => ?_, fun h1 => ?_, fun h1 => ?_, fun h1 => ?_, fun h1 => ?_, fun h1 => ?_, fun h1 => ?_, fun h1 => ?_, fun h1 => ?_, fun h1 => ?_, fun h1 => ?_, fun h1 => ?_, fun h1 => ?_, fun h1 => ?_⟩
  · exact hK (0) S (Ch.wk Ch.rf (by decide) (by decide)) (by omega)
  · exact hK (97) S (Ch.wk Ch.rf (by decide) (by decide)) (by omega)
  · exact hK (109) S (Ch.wk Ch.rf (by decide) (by decide)) (by omega)
  · exact hK (112) S (Ch.wk Ch.rf (by decide) (by decide)) (by omega)
  · exact hK (59) S (Ch.wk Ch.rf (by decide) (by decide)) (by omega)
  · exact hK (0) S (Ch.wk Ch.rf (by decide) (by decide)) (by omega)
  · exact hK (108) S (Ch.wk Ch.rf (by decide) (by decide)) (by omega)
  · exact hK (116) S (Ch.wk Ch.rf (by decide) (by decide)) (by omega)
  · exact hK (59) S (Ch.wk Ch.rf (by decide) (by decide)) (by omega)
  · exact hK (0) S (Ch.wk Ch.rf (by decide) (by decide)) (by omega)
  · exact hK (0) S (Ch.wk Ch.rf (by decide) (by decide)) (by omega)
  · exact hK (103) S (Ch.wk Ch.rf (by decide) (by decide)) (by omega)
  · exact hK (116) S (Ch.wk Ch.rf (by decide) (by decide)) (by omega)
  · exact hK (59) S (Ch.wk Ch.rf (by decide) (by decide)) (by omega)
  · exact hK (0) S (Ch.wk Ch.rf (by decide) (by decide)) (by omega)
  · exact hK (0) S (Ch.wk Ch.rf (by decide) (by decide)) (by omega)
  · exact hK (113) S (Ch.wk Ch.rf (by decide) (by decide)) (by omega)
  · exact hK (117) S (Ch.wk Ch.rf (by decide) (by decide)) (by omega)
  · exact hK (111) S (Ch.wk Ch.rf (by decide) (by decide)) (by omega)
  · exact hK (116) S (Ch.wk Ch.rf (by decide) (by decide)) (by omega)
  · exact hK (59) S (Ch.wk Ch.rf (by decide) (by decide)) (by omega)
  · exact hK (97) S (Ch.wk Ch.rf (by decide) (by decide)) (by omega)
  · exact hK (112) S (Ch.wk Ch.rf (by decide) (by decide)) (by omega)
  · exact hK (111) S (Ch.wk Ch.rf (by decide) (by decide)) (by omega)
  · exact hK (115) S (Ch.wk Ch.rf (by decide) (by decide)) (by omega)
  · exact hK (59) S (Ch.wk Ch.rf (by decide) (by decide)) (by omega)

set_option maxRecDepth 100000 in
set_option maxHeartbeats 4000000 in
theorem tX11_figure {a1 a2 : Int} {S : St} {K : Int → St → Prop}  (hK : ∀ (r : Int) (S' : St), Ch [] [] S S' → (r = -2 ∨ (0 ≤ r ∧ r ≤ 15 ∧ 48 ≤ a1)) → K r S') : wX11_figure a1 a2 S K := by
  unfold wX11_figure
  intro g1 g2
  refine tX11_isDigit  (fun r1 S1 hS1 n1_0 => ?_)
  refine ⟨by omega, ?_⟩
  refine ⟨fun h4 => ?_, fun h4 => ?_⟩
  · refine ⟨fun h15 => ?_, fun h15 => ?_⟩
    · unfold wX11_figure_40
      refine ⟨by omega, ?_⟩
      refine ⟨fun h41 => ?_, fun h41 => ?_⟩
      · exact hK ((-2)) S1 (Ch.wk hS1 (by decide) (by decide)) (by omega)
      · refine ⟨by omega, ?_⟩
        refine ⟨fun h47 => ?_, fun h47 => ?_⟩
        · exact hK ((-2)) S1 (Ch.wk hS1 (by decide) (by decide)) (by omega)
        · refine ⟨fun h53 => ?_, fun h53 => ?_⟩
          · exact hK ((-2)) S1 (Ch.wk hS1 (by decide) (by decide)) (by omega)
          · exact hK (((a1 - 65) + 10)) S1 (Ch.wk hS1 (by decide) (by decide)) (by omega)
    · refine ⟨fun h21 => ?_, fun h21 => ?_⟩
      · unfold wX11_figure_40
        refine ⟨by omega, ?_⟩
        refine ⟨fun h41 => ?_, fun h41 => ?_⟩
        · exact hK ((-2)) S1 (Ch.wk hS1 (by decide) (by decide)) (by omega)
        · refine ⟨by omega, ?_⟩
          refine ⟨fun h47 => ?_, fun h47 => ?_⟩
          · exact hK ((-2)) S1 (Ch.wk hS1 (by decide) (by decide)) (by omega)
          · refine ⟨fun h53 => ?_, fun h53 => ?_⟩
            · exact hK ((-2)) S1 (Ch.wk hS1 (by decide) (by decide)) (by omega)
            · exact hK (((a1 - 65) + 10)) S1 (Ch.wk hS1 (by decide) (by decide)) (by omega)
      · refine ⟨fun h27 => ?_, fun h27 => ?_⟩
        · unfold wX11_figure_40
          refine ⟨by omega, ?_⟩
          refine ⟨fun h41 => ?_, fun h41 => ?_⟩
          · exact hK ((-2)) S1 (Ch.wk hS1 (by decide) (by decide)) (by omega)
          · refine ⟨by omega, ?_⟩
            refine ⟨fun h47 => ?_, fun h47 => ?_⟩
            · exact hK ((-2)) S1 (Ch.wk hS1 (by decide) (by decide)) (by omega)
            · refine ⟨fun h53 => ?_, fun h53 => ?_⟩
              · exact hK ((-2)) S1 (Ch.wk hS1 (by decide) (by decide)) (by omega)
              · exact hK (((a1 - 65) + 10)) S1 (Ch.wk hS1 (by decide) (by decide)) (by omega)
        · exact hK (((a1 - 97) + 10)) S1 (Ch.wk hS1 (by decide) (by decide)) (by omega)
  · exact hK ((a1 - 48)) S1 (Ch.wk hS1 (by decide) (by decide)) (by omega)

set_option maxRecDepth 100000 in
set_option maxHeartbeats 4000000 in
theorem tX11_sameName {a1 a2 : Int} {S : St} {K : Int → St → Prop} (p1 : iv 0 29 a1) (p2 : iv 0 29 a2) (hK : ∀ (r : Int) (S' : St), Ch [] [] S S' → (iv 0 1 r) → K r S') : wX11_sameName a1 a2 S K := by
  unfold wX11_sameName
  intro g1 g2
  refine ⟨by omega, by omega, ?_⟩
  intro q1
  refine ⟨by omega, by omega, ?_⟩
  intro q2
  refine ⟨fun h12 => ?_, fun h12 => ?_⟩
  · unfold wX11_sameName_20
    unfold wX11_sameName_24
    refine ⟨fun u1 u2 u3 u4 Sx => Ch [] [] S Sx ∧ a1 = u1 ∧ a2 = u2 ∧ (iv 0 8 u4) ∧ (iv 0 1 u3), fun u1 u2 u3 u4 Sx => (9 - u4).toNat, ?_, fun v24_1 v24_2 v24_3 v24_4 S24h hI => ?_⟩
    · exact ⟨Ch.re, rfl, rfl, by omega, by omega⟩
    obtain ⟨hS24h, rfl, rfl, i24_0, i24_1⟩ := hI
    unfold wX11_sameName_24'
    refine ⟨by omega, by omega, ?_⟩
    intro q3
    have e4 : S24h.2 57 (a1) = S.2 57 (a1) := congrFun (hS24h.2 57 (by decide)) _
    refine ⟨by omega, ?_⟩
    refine ⟨fun h32 => ?_, fun h32 => ?_⟩
    · refine ⟨by omega, ?_⟩
      exact hK (v24_3) S24h (Ch.wk hS24h (by decide) (by decide)) (by omega)
    · refine ⟨by omega, ?_⟩
      refine ⟨fun h36 => ?_, fun h36 => ?_⟩
      · refine ⟨by omega, ?_⟩
        exact hK (v24_3) S24h (Ch.wk hS24h (by decide) (by decide)) (by omega)
      · refine ⟨by omega, by omega, ?_⟩
        intro q5
        have e6 : S24h.2 58 (((8 * a1) + v24_4)) = S.2 58 (((8 * a1) + v24_4)) := congrFun (hS24h.2 58 (by decide)) _
        refine ⟨by omega, by omega, ?_⟩
        intro q7
        have e8 : S24h.2 58 (((8 * a2) + v24_4)) = S.2 58 (((8 * a2) + v24_4)) := congrFun (hS24h.2 58 (by decide)) _
        refine ⟨fun h63 => ?_, fun h63 => ?_⟩
        · unfold wX11_sameName_71
          exact ⟨⟨(Ch.wk hS24h (by decide) (by decide)), rfl, rfl, by omega, by omega⟩, show (9 - ((v24_4 + 1))).toNat < (9 - v24_4).toNat by omega⟩
        · unfold wX11_sameName_71
          exact ⟨⟨(Ch.wk hS24h (by decide) (by decide)), rfl, rfl, by omega, by omega⟩, show (9 - ((v24_4 + 1))).toNat < (9 - v24_4).toNat by omega⟩
  · unfold wX11_sameName_20
    unfold wX11_sameName_24
    refine ⟨fun u1 u2 u3 u4 Sx => Ch [] [] S Sx ∧ a1 = u1 ∧ a2 = u2 ∧ (iv 0 8 u4) ∧ (iv 0 1 u3), fun u1 u2 u3 u4 Sx => (9 - u4).toNat, ?_, fun v24_1 v24_2 v24_3 v24_4 S24h hI => ?_⟩
    · exact ⟨Ch.re, rfl, rfl, by omega, by omega⟩
    obtain ⟨hS24h, rfl, rfl, i24_0, i24_1⟩ := hI
    unfold wX11_sameName_24'
    refine ⟨by omega, by omega, ?_⟩
    intro q9
    have e10 : S24h.2 57 (a1) = S.2 57 (a1) := congrFun (hS24h.2 57 (by decide)) _
    refine ⟨by omega, ?_⟩
    refine ⟨fun h32 => ?_, fun h32 => ?_⟩
    · refine ⟨by omega, ?_⟩
      exact hK (v24_3) S24h (Ch.wk hS24h (by decide) (by decide)) (by omega)
    · refine ⟨by omega, ?_⟩
      refine ⟨fun h36 => ?_, fun h36 => ?_⟩
      · refine ⟨by omega, ?_⟩
        exact hK (v24_3) S24h (Ch.wk hS24h (by decide) (by decide)) (by omega)
      · refine ⟨by omega, by omega, ?_⟩
        intro q11
        have e12 : S24h.2 58 (((8 * a1) + v24_4)) = S.2 58 (((8 * a1) + v24_4)) := congrFun (hS24h.2 58 (by decide)) _
        refine ⟨by omega, by omega, ?_⟩
        intro q13
        have e14 : S24h.2 58 (((8 * a2) + v24_4)) = S.2 58 (((8 * a2) + v24_4)) := congrFun (hS24h.2 58 (by decide)) _
        refine ⟨fun h63 => ?_, fun h63 => ?_⟩
        · unfold wX11_sameName_71
          exact ⟨⟨(Ch.wk hS24h (by decide) (by decide)), rfl, rfl, by omega, by omega⟩, show (9 - ((v24_4 + 1))).toNat < (9 - v24_4).toNat by omega⟩
        · unfold wX11_sameName_71
          exact ⟨⟨(Ch.wk hS24h (by decide) (by decide)), rfl, rfl, by omega, by omega⟩, show (9 - ((v24_4 + 1))).toNat < (9 - v24_4).toNat by omega⟩

set_option maxRecDepth 100000 in
set_option maxHeartbeats 4000000 in
theorem tX11_put {a1 : Int} {S : St} {K : Int → St → Prop}  (hK : ∀ (r : Int) (S' : St), Ch [39] [83] S S' → (((S.1 54 39) ≤ 3000 ∧ (S'.1 54 39) = (S.1 54 39) + 1) ∨ ((S.1 54 39) = 3001 ∧ (S'.1 54 39) = 3001)) → K r S') : wX11_put a1 S K := by
  unfold wX11_put
  intro g1
  intro q1
  refine ⟨fun h7 => ?_, fun h7 => ?_⟩
  · exact hK (0) S (Ch.wk Ch.rf (by decide) (by decide)) (by omega)
  · refine ⟨by omega, by omega, ?_⟩
    refine ⟨by omega, ?_⟩
    intro S19 hS19e
    have hS19 : Ch [] [83] S S19 := Ch_A hS19e
    have hS19v : ∀ x, S19.2 83 x = if x = S.1 54 39 then a1 else S.2 83 x := pA_at hS19e
    intro q2
    have e3 : S19.1 54 39 = S.1 54 39 := hS19.1 39 (by decide)
    refine ⟨by omega, ?_⟩
    intro S27 hS27e
    have hS27 : Ch [39] [] S19 S27 := Ch_I hS27e
    have hS27v : S27.1 54 39 = (S19.1 54 39 + 1) := pI_at hS27e
    exact hK (0) S27 (Ch.wk (Ch.tr hS19 hS27) (by decide) (by decide)) (by omega)

set_option maxRecDepth 100000 in
set_option maxHeartbeats 4000000 in
theorem tX11_isBlank {a1 : Int} {S : St} {K : Int → St → Prop}  (hK : ∀ (r : Int) (S' : St), Ch [] [] S S' → (((a1 = 32 ∨ a1 = 9 ∨ a1 = 10 ∨ a1 = 13) ∧ r = 1) ∨ (¬ (a1 = 32 ∨ a1 = 9 ∨ a1 = 10 ∨ a1 = 13) ∧ r = 0)) → K r S') : wX11_isBlank a1 S K := by
  unfold wX11_isBlank
  intro g1
  refine ⟨fun h3 => ?_, fun h3 => ?_⟩
  · exact hK (1) S (Ch.wk Ch.rf (by decide) (by decide)) (by omega)
  · refine ⟨fun h9 => ?_, fun h9 => ?_⟩
    · exact hK (1) S (Ch.wk Ch.rf (by decide) (by decide)) (by omega)
    · refine ⟨fun h15 => ?_, fun h15 => ?_⟩
      · exact hK (1) S (Ch.wk Ch.rf (by decide) (by decide)) (by omega)
      · refine ⟨fun h21 => ?_, fun h21 => ?_⟩
        · exact hK (0) S (Ch.wk Ch.rf (by decide) (by decide)) (by omega)
        · exact hK (1) S (Ch.wk Ch.rf (by decide) (by decide)) (by omega)

set_option maxRecDepth 100000 in
set_option maxHeartbeats 4000000 in
theorem tX11_isMixed {a1 : Int} {S : St} {K : Int → St → Prop} (p1 : iv 0 6 a1) (hK : ∀ (r : Int) (S' : St), Ch [] [] S S' → (iv 0 1 r) → K r S') : wX11_isMixed a1 S K := by
  unfold wX11_isMixed
  intro g1
  unfold wX11_isMixed_4
  refine ⟨fun u1 u2 u3 Sx => Ch [] [] S Sx ∧ a1 = u1 ∧ (iv 0 6 u3) ∧ (iv 0 1 u2), fun u1 u2 u3 Sx => (7 - u3).toNat, ?_, fun v4_1 v4_2 v4_3 S4h hI => ?_⟩
  · exact ⟨Ch.re, rfl, by omega, by omega⟩
  obtain ⟨hS4h, rfl, i4_0, i4_1⟩ := hI
  unfold wX11_isMixed_4'
  refine ⟨by omega, ?_⟩
  refine ⟨by omega, ?_⟩
  refine ⟨fun h6 => ?_, fun h6 => ?_⟩
  · refine ⟨by omega, ?_⟩
    exact hK (v4_2) S4h (Ch.wk hS4h (by decide) (by decide)) (by omega)
  · unfold wX11_isMixed_15
    refine ⟨fun u1 u2 u3 u4 u5 Sx => Ch [] [] S4h Sx ∧ a1 = u1 ∧ v4_2 = u2 ∧ v4_3 = u3 ∧ (iv 0 4 u5) ∧ (iv 0 1 u4), fun u1 u2 u3 u4 u5 Sx => (5 - u5).toNat, ?_, fun v15_1 v15_2 v15_3 v15_4 v15_5 S15h hI => ?_⟩
    · exact ⟨Ch.re, rfl, rfl, rfl, by omega, by omega⟩
    obtain ⟨hS15h, rfl, rfl, rfl, i15_0, i15_1⟩ := hI
    unfold wX11_isMixed_15'
    refine ⟨by omega, by omega, ?_⟩
    intro q1
    have e2 : S15h.2 62 (v4_3) = S4h.2 62 (v4_3) := congrFun (hS15h.2 62 (by decide)) _
    have e3 : S4h.2 62 (v4_3) = S.2 62 (v4_3) := congrFun (hS4h.2 62 (by decide)) _
    refine ⟨by omega, ?_⟩
    refine ⟨fun h23 => ?_, fun h23 => ?_⟩
    · unfold wX11_isMixed_76
      refine ⟨fun u1 u2 u3 u4 u5 Sx => Ch [] [] S15h Sx ∧ a1 = u1 ∧ v4_3 = u3 ∧ v15_4 = u4 ∧ (iv 0 4 u5) ∧ (iv 0 1 u2), fun u1 u2 u3 u4 u5 Sx => (5 - u5).toNat, ?_, fun v76_1 v76_2 v76_3 v76_4 v76_5 S76h hI => ?_⟩
      · exact ⟨Ch.re, rfl, rfl, rfl, by omega, by omega⟩
      obtain ⟨hS76h, rfl, rfl, rfl, i76_0, i76_1⟩ := hI
      unfold wX11_isMixed_76'
      refine ⟨by omega, by omega, ?_⟩
      intro q4
      have e5 : S76h.2 62 (v4_3) = S15h.2 62 (v4_3) := congrFun (hS76h.2 62 (by decide)) _
      have e6 : S15h.2 62 (v4_3) = S4h.2 62 (v4_3) := congrFun (hS15h.2 62 (by decide)) _
      have e7 : S4h.2 62 (v4_3) = S.2 62 (v4_3) := congrFun (hS4h.2 62 (by decide)) _
      refine ⟨by omega, ?_⟩
      refine ⟨fun h84 => ?_, fun h84 => ?_⟩
      · unfold wX11_isMixed_141
        exact ⟨⟨(Ch.wk (Ch.tr (Ch.tr hS4h hS15h) hS76h) (by decide) (by decide)), rfl, by omega, by omega⟩, show (7 - ((v4_3 + 1))).toNat < (7 - v4_3).toNat by omega⟩
      · refine ⟨by omega, ?_⟩
        refine ⟨fun h89 => ?_, fun h89 => ?_⟩
        · unfold wX11_isMixed_141
          exact ⟨⟨(Ch.wk (Ch.tr (Ch.tr hS4h hS15h) hS76h) (by decide) (by decide)), rfl, by omega, by omega⟩, show (7 - ((v4_3 + 1))).toNat < (7 - v4_3).toNat by omega⟩
        · unfold wX11_isMixed_95
          refine ⟨fun u1 u2 u3 u4 u5 u6 Sx => Ch [] [] S76h Sx ∧ a1 = u1 ∧ v4_3 = u3 ∧ v15_4 = u4 ∧ v76_5 = u5 ∧ (iv 0 6 u6) ∧ (iv 0 1 u2), fun u1 u2 u3 u4 u5 u6 Sx => (7 - u6).toNat, ?_, fun v95_1 v95_2 v95_3 v95_4 v95_5 v95_6 S95h hI => ?_⟩
          · exact ⟨Ch.re, rfl, rfl, rfl, rfl, by omega, by omega⟩
          obtain ⟨hS95h, rfl, rfl, rfl, rfl, i95_0, i95_1⟩ := hI
          unfold wX11_isMixed_95'
          refine ⟨by omega, ?_⟩
          refine ⟨by omega, ?_⟩
          refine ⟨fun h98 => ?_, fun h98 => ?_⟩
          · exact ⟨⟨(Ch.wk (Ch.tr hS76h hS95h) (by decide) (by decide)), rfl, rfl, rfl, by omega, by omega⟩, show (5 - ((v76_5 + 1))).toNat < (5 - v76_5).toNat by omega⟩
          · refine ⟨by omega, ?_⟩
            refine ⟨fun h102 => ?_, fun h102 => ?_⟩
            · unfold wX11_isMixed_123
              unfold wX11_isMixed_128
              exact ⟨⟨(Ch.wk hS95h (by decide) (by decide)), rfl, rfl, rfl, rfl, by omega, by omega⟩, show (7 - ((v95_6 + 1))).toNat < (7 - v95_6).toNat by omega⟩
            · refine ⟨by omega, ?_⟩
              refine tX11_areAlike (by omega) (by omega) (fun r117 S117 hS117 n117_0 => ?_)
              refine ⟨by omega, ?_⟩
              refine ⟨fun h120 => ?_, fun h120 => ?_⟩
              · unfold wX11_isMixed_128
                exact ⟨⟨(Ch.wk (Ch.tr hS95h hS117) (by decide) (by decide)), rfl, rfl, rfl, rfl, by omega, by omega⟩, show (7 - ((v95_6 + 1))).toNat < (7 - v95_6).toNat by omega⟩
              · unfold wX11_isMixed_123
                unfold wX11_isMixed_128
                exact ⟨⟨(Ch.wk (Ch.tr hS95h hS117) (by decide) (by decide)), rfl, rfl, rfl, rfl, by omega, by omega⟩, show (7 - ((v95_6 + 1))).toNat < (7 - v95_6).toNat by omega⟩
    · refine ⟨by omega, ?_⟩
      refine ⟨fun h28 => ?_, fun h28 => ?_⟩
      · unfold wX11_isMixed_60
        unfold wX11_isMixed_65
        exact ⟨⟨(Ch.wk hS15h (by decide) (by decide)), rfl, rfl, rfl, by omega, by omega⟩, show (5 - ((v15_5 + 1))).toNat < (5 - v15_5).toNat by omega⟩
      · refine ⟨by omega, by omega, ?_⟩
        intro q8
        have e9 : S15h.2 65 (((4 * v4_3) + v15_5)) = S4h.2 65 (((4 * v4_3) + v15_5)) := congrFun (hS15h.2 65 (by decide)) _
        have e10 : S4h.2 65 (((4 * v4_3) + v15_5)) = S.2 65 (((4 * v4_3) + v15_5)) := congrFun (hS4h.2 65 (by decide)) _
        refine ⟨fun h43 => ?_, fun h43 => ?_⟩
        · unfold wX11_isMixed_64
          unfold wX11_isMixed_65
          exact ⟨⟨(Ch.wk hS15h (by decide) (by decide)), rfl, rfl, rfl, by omega, by omega⟩, show (5 - ((v15_5 + 1))).toNat < (5 - v15_5).toNat by omega⟩
        · refine ⟨by omega, by omega, ?_⟩
          intro q11
          have e12 : S15h.2 66 (((4 * v4_3) + v15_5)) = S4h.2 66 (((4 * v4_3) + v15_5)) := congrFun (hS15h.2 66 (by decide)) _
          have e13 : S4h.2 66 (((4 * v4_3) + v15_5)) = S.2 66 (((4 * v4_3) + v15_5)) := congrFun (hS4h.2 66 (by decide)) _
          refine ⟨fun h57 => ?_, fun h57 => ?_⟩
          · unfold wX11_isMixed_64
            unfold wX11_isMixed_65
            exact ⟨⟨(Ch.wk hS15h (by decide) (by decide)), rfl, rfl, rfl, by omega, by omega⟩, show (5 - ((v15_5 + 1))).toNat < (5 - v15_5).toNat by omega⟩
          · unfold wX11_isMixed_60
            unfold wX11_isMixed_65
            exact ⟨⟨(Ch.wk hS15h (by decide) (by decide)), rfl, rfl, rfl, by omega, by omega⟩, show (5 - ((v15_5 + 1))).toNat < (5 - v15_5).toNat by omega⟩

set_option maxRecDepth 100000 in
set_option maxHeartbeats 4000000 in
theorem tX11_signAt {a1 : Int} {S : St} {K : Int → St → Prop} (p1 : 0 ≤ a1) (hK : ∀ (r : Int) (S' : St), Ch [] [] S S' → ((a1 < (S.1 54 0) ∧ r = (S.2 55) a1) ∨ ((S.1 54 0) ≤ a1 ∧ r = 0)) → (rng r) → K r S') : wX11_signAt a1 S K := by
  unfold wX11_signAt
  intro g1
  intro q1
  refine ⟨fun h5 => ?_, fun h5 => ?_⟩
  · exact hK (0) S (Ch.wk Ch.rf (by decide) (by decide)) (by omega) (by omega)
  · refine ⟨by omega, by omega, ?_⟩
    intro q2
    exact hK (S.2 55 (a1)) S (Ch.wk Ch.rf (by decide) (by decide)) (by omega) (by omega)

set_option maxRecDepth 100000 in
set_option maxHeartbeats 4000000 in
theorem tX11_want {a1 : Int} {S : St} {K : Int → St → Prop} (p1 : iv 0 1 a1) (hK : ∀ (r : Int) (S' : St), Ch [23] [] S S' → (((S'.1 54 23) = 0 ∧ (S.1 54 23) = 0 ∧ a1 = 1) ∨ ((S'.1 54 23) = 1 ∧ ((S.1 54 23) = 1 ∨ a1 = 0))) → K r S') : wX11_want a1 S K := by
  unfold wX11_want
  intro g1
  intro q1
  refine ⟨fun h5 => ?_, fun h5 => ?_⟩
  · intro S17 hS17e
    have hS17 : Ch [23] [] S S17 := Ch_I hS17e
    have hS17v : S17.1 54 23 = 1 := pI_at hS17e
    exact hK (0) S17 (Ch.wk hS17 (by decide) (by decide)) (by omega)
  · refine ⟨fun h9 => ?_, fun h9 => ?_⟩
    · intro S17 hS17e
      have hS17 : Ch [23] [] S S17 := Ch_I hS17e
      have hS17v : S17.1 54 23 = 0 := pI_at hS17e
      exact hK (0) S17 (Ch.wk hS17 (by decide) (by decide)) (by omega)
    · intro S17 hS17e
      have hS17 : Ch [23] [] S S17 := Ch_I hS17e
      have hS17v : S17.1 54 23 = 1 := pI_at hS17e
      exact hK (0) S17 (Ch.wk hS17 (by decide) (by decide)) (by omega)

set_option maxRecDepth 100000 in
set_option maxHeartbeats 4000000 in
theorem tX11_eat {a1 : Int} {S : St} {K : Int → St → Prop} (p1 : ¬ a1 = 0) (p2 : (S.1 54 22) ≤ (S.1 54 0)) (hK : ∀ (r : Int) (S' : St), Ch [22, 23] [] S S' → ((S'.1 54 22) ≤ (S.1 54 0)) → ((S'.1 54 23) = 1 ∨ (S'.1 54 23) = (S.1 54 23)) → K r S') : wX11_eat a1 S K := by
  unfold wX11_eat
  intro g1
  intro q1
  refine tX11_signAt (by omega) (fun r6 S6 hS6 n6_0 n6_1 => ?_)
  refine ⟨by omega, ?_⟩
  refine ⟨fun h10 => ?_, fun h10 => ?_⟩
  · unfold wX11_eat_18
    have e2 : S6.1 54 23 = S.1 54 23 := hS6.1 23 (by decide)
    refine tX11_want (by omega) (fun r18 S18 hS18 n18_0 => ?_)
    intro q3
    refine ⟨fun h26 => ?_, fun h26 => ?_⟩
    · intro q4
      have e5 : S18.1 54 22 = S6.1 54 22 := hS18.1 22 (by decide)
      have e6 : S6.1 54 22 = S.1 54 22 := hS6.1 22 (by decide)
      refine ⟨by omega, ?_⟩
      intro S42 hS42e
      have hS42 : Ch [22] [] S18 S42 := Ch_I hS42e
      have hS42v : S42.1 54 22 = (S18.1 54 22 + 1) := pI_at hS42e
      have e7 : S42.1 54 23 = S18.1 54 23 := hS42.1 23 (by decide)
      exact hK (0) S42 (Ch.wk (Ch.tr (Ch.tr hS6 hS18) hS42) (by decide) (by decide)) (by omega) (by omega)
    · intro q8
      have e9 : S18.1 54 22 = S6.1 54 22 := hS18.1 22 (by decide)
      have e10 : S6.1 54 22 = S.1 54 22 := hS6.1 22 (by decide)
      intro S42 hS42e
      have hS42 : Ch [22] [] S18 S42 := Ch_I hS42e
      have hS42v : S42.1 54 22 = S18.1 54 22 := pI_at hS42e
      have e11 : S42.1 54 23 = S18.1 54 23 := hS42.1 23 (by decide)
      exact hK (0) S42 (Ch.wk (Ch.tr (Ch.tr hS6 hS18) hS42) (by decide) (by decide)) (by omega) (by omega)
  · unfold wX11_eat_18
    have e12 : S6.1 54 23 = S.1 54 23 := hS6.1 23 (by decide)
    refine tX11_want (by omega) (fun r18 S18 hS18 n18_0 => ?_)
    intro q13
    refine ⟨fun h26 => ?_, fun h26 => ?_⟩
    · intro q14
      have e15 : S18.1 54 22 = S6.1 54 22 := hS18.1 22 (by decide)
      have e16 : S6.1 54 22 = S.1 54 22 := hS6.1 22 (by decide)
      refine ⟨by omega, ?_⟩
      intro S42 hS42e
      have hS42 : Ch [22] [] S18 S42 := Ch_I hS42e
      have hS42v : S42.1 54 22 = (S18.1 54 22 + 1) := pI_at hS42e
      have e17 : S42.1 54 23 = S18.1 54 23 := hS42.1 23 (by decide)
      exact hK (0) S42 (Ch.wk (Ch.tr (Ch.tr hS6 hS18) hS42) (by decide) (by decide)) (by omega) (by omega)
    · intro q18
      have e19 : S18.1 54 22 = S6.1 54 22 := hS18.1 22 (by decide)
      have e20 : S6.1 54 22 = S.1 54 22 := hS6.1 22 (by decide)
      intro S42 hS42e
      have hS42 : Ch [22] [] S18 S42 := Ch_I hS42e
      have hS42v : S42.1 54 22 = S18.1 54 22 := pI_at hS42e
      have e21 : S42.1 54 23 = S18.1 54 23 := hS42.1 23 (by decide)
      exact hK (0) S42 (Ch.wk (Ch.tr (Ch.tr hS6 hS18) hS42) (by decide) (by decide)) (by omega) (by omega)

set_option maxRecDepth 100000 in
set_option maxHeartbeats 4000000 in
theorem tX11_letterOf {a1 a2 : Int} {S : St} {K : Int → St → Prop}  (hK : ∀ (r : Int) (S' : St), Ch [] [] S S' → (0 ≤ r ∧ r ≤ 127) → K r S') : wX11_letterOf a1 a2 S K := by
  unfold wX11_letterOf
  intro g1 g2
  refine ⟨fun h1 => ?_, fun h1 => ?_⟩
  · refine ⟨fun h37 => ?_, fun h37 => ?_⟩
    · exact hK (100) S (Ch.wk Ch.rf (by decide) (by decide)) (by omega)
    · exact hK (105) S (Ch.wk Ch.rf (by decide) (by decide)) (by omega)
  · refine ⟨fun h5 => ?_, fun h5 => ?_⟩
    · refine ⟨fun h15 => ?_, fun h15 => ?_⟩
      · refine ⟨fun h25 => ?_, fun h25 => ?_⟩
        · exact hK (115) S (Ch.wk Ch.rf (by decide) (by decide)) (by omega)
        · exact hK (97) S (Ch.wk Ch.rf (by decide) (by decide)) (by omega)
      · exact hK (108) S (Ch.wk Ch.rf (by decide) (by decide)) (by omega)
    · exact hK (99) S (Ch.wk Ch.rf (by decide) (by decide)) (by omega)

set_option maxRecDepth 100000 in
set_option maxHeartbeats 4000000 in
theorem tX11_isWord {a1 a2 : Int} {S : St} {K : Int → St → Prop} (p1 : iv 0 29 a1) (p2 : iv 0 1 a2) (hK : ∀ (r : Int) (S' : St), Ch [] [] S S' → (iv 0 1 r) → K r S') : wX11_isWord a1 a2 S K := by
  unfold wX11_isWord
  intro g1 g2
  refine ⟨fun h1 => ?_, fun h1 => ?_⟩
  · unfold wX11_isWord_9
    refine ⟨by omega, by omega, ?_⟩
    intro q1
    refine ⟨fun h17 => ?_, fun h17 => ?_⟩
    · unfold wX11_isWord_25
      unfold wX11_isWord_30
      refine ⟨fun u1 u2 u3 u4 u5 Sx => Ch [] [] S Sx ∧ a1 = u1 ∧ a2 = u2 ∧ 2 = u3 ∧ (iv 0 5 u5) ∧ (iv 0 1 u4), fun u1 u2 u3 u4 u5 Sx => (6 - u5).toNat, ?_, fun v30_1 v30_2 v30_3 v30_4 v30_5 S30h hI => ?_⟩
      · exact ⟨Ch.re, rfl, rfl, rfl, by omega, by omega⟩
      obtain ⟨hS30h, rfl, rfl, rfl, i30_0, i30_1⟩ := hI
      unfold wX11_isWord_30'
      refine ⟨by omega, ?_⟩
      refine ⟨fun h33 => ?_, fun h33 => ?_⟩
      · refine ⟨by omega, ?_⟩
        exact hK (v30_4) S30h (Ch.wk hS30h (by decide) (by decide)) (by omega)
      · refine ⟨by omega, ?_⟩
        refine ⟨fun h38 => ?_, fun h38 => ?_⟩
        · refine ⟨by omega, ?_⟩
          exact hK (v30_4) S30h (Ch.wk hS30h (by decide) (by decide)) (by omega)
        · refine ⟨by omega, by omega, ?_⟩
          intro q2
          have e3 : S30h.2 64 (((8 * a1) + v30_5)) = S.2 64 (((8 * a1) + v30_5)) := congrFun (hS30h.2 64 (by decide)) _
          refine ⟨by omega, ?_⟩
          refine tX11_letterOf  (fun r56 S56 hS56 n56_0 => ?_)
          refine ⟨by omega, ?_⟩
          refine ⟨fun h59 => ?_, fun h59 => ?_⟩
          · unfold wX11_isWord_67
            exact ⟨⟨(Ch.wk (Ch.tr hS30h hS56) (by decide) (by decide)), rfl, rfl, rfl, by omega, by omega⟩, show (6 - ((v30_5 + 1))).toNat < (6 - v30_5).toNat by omega⟩
          · unfold wX11_isWord_67
            exact ⟨⟨(Ch.wk (Ch.tr hS30h hS56) (by decide) (by decide)), rfl, rfl, rfl, by omega, by omega⟩, show (6 - ((v30_5 + 1))).toNat < (6 - v30_5).toNat by omega⟩
    · unfold wX11_isWord_25
      unfold wX11_isWord_30
      refine ⟨fun u1 u2 u3 u4 u5 Sx => Ch [] [] S Sx ∧ a1 = u1 ∧ a2 = u2 ∧ 2 = u3 ∧ (iv 0 5 u5) ∧ (iv 0 1 u4), fun u1 u2 u3 u4 u5 Sx => (6 - u5).toNat, ?_, fun v30_1 v30_2 v30_3 v30_4 v30_5 S30h hI => ?_⟩
      · exact ⟨Ch.re, rfl, rfl, rfl, by omega, by omega⟩
      obtain ⟨hS30h, rfl, rfl, rfl, i30_0, i30_1⟩ := hI
      unfold wX11_isWord_30'
      refine ⟨by omega, ?_⟩
      refine ⟨fun h33 => ?_, fun h33 => ?_⟩
      · refine ⟨by omega, ?_⟩
        exact hK (v30_4) S30h (Ch.wk hS30h (by decide) (by decide)) (by omega)
      · refine ⟨by omega, ?_⟩
        refine ⟨fun h38 => ?_, fun h38 => ?_⟩
        · refine ⟨by omega, ?_⟩
          exact hK (v30_4) S30h (Ch.wk hS30h (by decide) (by decide)) (by omega)
        · refine ⟨by omega, by omega, ?_⟩
          intro q4
          have e5 : S30h.2 64 (((8 * a1) + v30_5)) = S.2 64 (((8 * a1) + v30_5)) := congrFun (hS30h.2 64 (by decide)) _
          refine ⟨by omega, ?_⟩
          refine tX11_letterOf  (fun r56 S56 hS56 n56_0 => ?_)
          refine ⟨by omega, ?_⟩
          refine ⟨fun h59 => ?_, fun h59 => ?_⟩
          · unfold wX11_isWord_67
            exact ⟨⟨(Ch.wk (Ch.tr hS30h hS56) (by decide) (by decide)), rfl, rfl, rfl, by omega, by omega⟩, show (6 - ((v30_5 + 1))).toNat < (6 - v30_5).toNat by omega⟩
          · unfold wX11_isWord_67
            exact ⟨⟨(Ch.wk (Ch.tr hS30h hS56) (by decide) (by decide)), rfl, rfl, rfl, by omega, by omega⟩, show (6 - ((v30_5 + 1))).toNat < (6 - v30_5).toNat by omega⟩
  · unfold wX11_isWord_9
    refine ⟨by omega, by omega, ?_⟩
    intro q6
    refine ⟨fun h17 => ?_, fun h17 => ?_⟩
    · unfold wX11_isWord_25
      unfold wX11_isWord_30
      refine ⟨fun u1 u2 u3 u4 u5 Sx => Ch [] [] S Sx ∧ a1 = u1 ∧ a2 = u2 ∧ 5 = u3 ∧ (iv 0 5 u5) ∧ (iv 0 1 u4), fun u1 u2 u3 u4 u5 Sx => (6 - u5).toNat, ?_, fun v30_1 v30_2 v30_3 v30_4 v30_5 S30h hI => ?_⟩
      · exact ⟨Ch.re, rfl, rfl, rfl, by omega, by omega⟩
      obtain ⟨hS30h, rfl, rfl, rfl, i30_0, i30_1⟩ := hI
      unfold wX11_isWord_30'
      refine ⟨by omega, ?_⟩
      refine ⟨fun h33 => ?_, fun h33 => ?_⟩
      · refine ⟨by omega, ?_⟩
        exact hK (v30_4) S30h (Ch.wk hS30h (by decide) (by decide)) (by omega)
      · refine ⟨by omega, ?_⟩
        refine ⟨fun h38 => ?_, fun h38 => ?_⟩
        · refine ⟨by omega, ?_⟩
          exact hK (v30_4) S30h (Ch.wk hS30h (by decide) (by decide)) (by omega)
        · refine ⟨by omega, by omega, ?_⟩
          intro q7
          have e8 : S30h.2 64 (((8 * a1) + v30_5)) = S.2 64 (((8 * a1) + v30_5)) := congrFun (hS30h.2 64 (by decide)) _
          refine ⟨by omega, ?_⟩
          refine tX11_letterOf  (fun r56 S56 hS56 n56_0 => ?_)
          refine ⟨by omega, ?_⟩
          refine ⟨fun h59 => ?_, fun h59 => ?_⟩
          · unfold wX11_isWord_67
            exact ⟨⟨(Ch.wk (Ch.tr hS30h hS56) (by decide) (by decide)), rfl, rfl, rfl, by omega, by omega⟩, show (6 - ((v30_5 + 1))).toNat < (6 - v30_5).toNat by omega⟩
          · unfold wX11_isWord_67
            exact ⟨⟨(Ch.wk (Ch.tr hS30h hS56) (by decide) (by decide)), rfl, rfl, rfl, by omega, by omega⟩, show (6 - ((v30_5 + 1))).toNat < (6 - v30_5).toNat by omega⟩
    · unfold wX11_isWord_25
      unfold wX11_isWord_30
      refine ⟨fun u1 u2 u3 u4 u5 Sx => Ch [] [] S Sx ∧ a1 = u1 ∧ a2 = u2 ∧ 5 = u3 ∧ (iv 0 5 u5) ∧ (iv 0 1 u4), fun u1 u2 u3 u4 u5 Sx => (6 - u5).toNat, ?_, fun v30_1 v30_2 v30_3 v30_4 v30_5 S30h hI => ?_⟩
      · exact ⟨Ch.re, rfl, rfl, rfl, by omega, by omega⟩
      obtain ⟨hS30h, rfl, rfl, rfl, i30_0, i30_1⟩ := hI
      unfold wX11_isWord_30'
      refine ⟨by omega, ?_⟩
      refine ⟨fun h33 => ?_, fun h33 => ?_⟩
      · refine ⟨by omega, ?_⟩
        exact hK (v30_4) S30h (Ch.wk hS30h (by decide) (by decide)) (by omega)
      · refine ⟨by omega, ?_⟩
        refine ⟨fun h38 => ?_, fun h38 => ?_⟩
        · refine ⟨by omega, ?_⟩
          exact hK (v30_4) S30h (Ch.wk hS30h (by decide) (by decide)) (by omega)
        · refine ⟨by omega, by omega, ?_⟩
          intro q9
          have e10 : S30h.2 64 (((8 * a1) + v30_5)) = S.2 64 (((8 * a1) + v30_5)) := congrFun (hS30h.2 64 (by decide)) _
          refine ⟨by omega, ?_⟩
          refine tX11_letterOf  (fun r56 S56 hS56 n56_0 => ?_)
          refine ⟨by omega, ?_⟩
          refine ⟨fun h59 => ?_, fun h59 => ?_⟩
          · unfold wX11_isWord_67
            exact ⟨⟨(Ch.wk (Ch.tr hS30h hS56) (by decide) (by decide)), rfl, rfl, rfl, by omega, by omega⟩, show (6 - ((v30_5 + 1))).toNat < (6 - v30_5).toNat by omega⟩
          · unfold wX11_isWord_67
            exact ⟨⟨(Ch.wk (Ch.tr hS30h hS56) (by decide) (by decide)), rfl, rfl, rfl, by omega, by omega⟩, show (6 - ((v30_5 + 1))).toNat < (6 - v30_5).toNat by omega⟩

set_option maxRecDepth 100000 in
set_option maxHeartbeats 4000000 in
theorem tX11_nameAt {a1 a2 : Int} {S : St} {K : Int → St → Prop} (p1 : iv 0 3000 a1) (p2 : iv 0 29 a2) (hK : ∀ (r : Int) (S' : St), Ch [] [63, 64] S S' → (r = -2 ∨ (r = -10 ∧ a1 + 8 ≤ (S.1 54 0)) ∨ (1 ≤ r ∧ r ≤ 8 ∧ a1 + r ≤ (S.1 54 0))) → (∀ x, x = a2 ∨ (S'.2 63) x = (S.2 63) x) → (r < 0 ∨ (S'.2 63) a2 = r) → K r S') : wX11_nameAt a1 a2 S K := by
  unfold wX11_nameAt
  intro g1 g2
  refine tX11_signAt (by omega) (fun r4 S4 hS4 n4_0 n4_1 => ?_)
  unfold wX11_nameAt_9
  refine ⟨fun u1 u2 u3 u4 Sx => Ch [] [64] S4 Sx ∧ a1 = u1 ∧ a2 = u2 ∧ (iv 0 8 u3) ∧ (rng u4) ∧ (u4 = 0 ∨ a1 + u3 < (S.1 54 0)) ∧ (u3 = 0 ∨ a1 + u3 ≤ (S.1 54 0)), fun u1 u2 u3 u4 Sx => (9 - u3).toNat, ?_, fun v9_1 v9_2 v9_3 v9_4 S9h hI => ?_⟩
  · exact ⟨Ch.re, rfl, rfl, by omega, by omega, by omega, by omega⟩
  obtain ⟨hS9h, rfl, rfl, i9_0, i9_1, i9_2, i9_3⟩ := hI
  unfold wX11_nameAt_9'
  refine ⟨by omega, ?_⟩
  refine tX11_isLetter  (fun r11 S11 hS11 n11_0 => ?_)
  refine ⟨by omega, ?_⟩
  refine ⟨fun h14 => ?_, fun h14 => ?_⟩
  · unfold wX11_nameAt_43
    refine ⟨by omega, ?_⟩
    refine ⟨fun h46 => ?_, fun h46 => ?_⟩
    · refine ⟨by omega, by omega, ?_⟩
      refine ⟨by omega, ?_⟩
      intro S64 hS64e
      have hS64 : Ch [] [64] S11 S64 := Ch_A hS64e
      have hS64v : ∀ x, S64.2 64 x = if x = ((8 * a2) + v9_3) then v9_4 else S11.2 64 x := pA_at hS64e
      refine ⟨by omega, ?_⟩
      have e1 : S64.1 54 0 = S11.1 54 0 := hS64.1 0 (by decide)
      have e2 : S11.1 54 0 = S9h.1 54 0 := hS11.1 0 (by decide)
      have e3 : S9h.1 54 0 = S4.1 54 0 := hS9h.1 0 (by decide)
      have e4 : S4.1 54 0 = S.1 54 0 := hS4.1 0 (by decide)
      have e5 : S64.2 55 ((a1 + (v9_3 + 1))) = S11.2 55 ((a1 + (v9_3 + 1))) := congrFun (hS64.2 55 (by decide)) _
      have e6 : S11.2 55 ((a1 + (v9_3 + 1))) = S9h.2 55 ((a1 + (v9_3 + 1))) := congrFun (hS11.2 55 (by decide)) _
      have e7 : S9h.2 55 ((a1 + (v9_3 + 1))) = S4.2 55 ((a1 + (v9_3 + 1))) := congrFun (hS9h.2 55 (by decide)) _
      have e8 : S4.2 55 ((a1 + (v9_3 + 1))) = S.2 55 ((a1 + (v9_3 + 1))) := congrFun (hS4.2 55 (by decide)) _
      refine tX11_signAt (by omega) (fun r72 S72 hS72 n72_0 n72_1 => ?_)
      exact ⟨⟨(Ch.wk (Ch.tr (Ch.tr (Ch.tr hS9h hS11) hS64) hS72) (by decide) (by decide)), rfl, rfl, by omega, by omega, by omega, by omega⟩, show (9 - ((v9_3 + 1))).toNat < (9 - v9_3).toNat by omega⟩
    · have e12 : S11.2 63 a2 = S9h.2 63 a2 := congrFun (hS11.2 63 (by decide)) _
      have e13 : S9h.2 63 a2 = S4.2 63 a2 := congrFun (hS9h.2 63 (by decide)) _
      have e14 : S4.2 63 a2 = S.2 63 a2 := congrFun (hS4.2 63 (by decide)) _
      exact hK ((-10)) S11 (Ch.wk (Ch.tr (Ch.tr hS4 hS9h) hS11) (by decide) (by decide)) (by omega) (by
            intro x
            have e9 : S11.2 63 x = S9h.2 63 x := congrFun (hS11.2 63 (by decide)) _
            have e10 : S9h.2 63 x = S4.2 63 x := congrFun (hS9h.2 63 (by decide)) _
            have e11 : S4.2 63 x = S.2 63 x := congrFun (hS4.2 63 (by decide)) _
            omega) (by omega)
  · refine ⟨fun h21 => ?_, fun h21 => ?_⟩
    · unfold wX11_nameAt_43
      refine ⟨by omega, ?_⟩
      refine ⟨fun h46 => ?_, fun h46 => ?_⟩
      · refine ⟨by omega, by omega, ?_⟩
        refine ⟨by omega, ?_⟩
        intro S64 hS64e
        have hS64 : Ch [] [64] S11 S64 := Ch_A hS64e
        have hS64v : ∀ x, S64.2 64 x = if x = ((8 * a2) + v9_3) then v9_4 else S11.2 64 x := pA_at hS64e
        refine ⟨by omega, ?_⟩
        have e15 : S64.1 54 0 = S11.1 54 0 := hS64.1 0 (by decide)
        have e16 : S11.1 54 0 = S9h.1 54 0 := hS11.1 0 (by decide)
        have e17 : S9h.1 54 0 = S4.1 54 0 := hS9h.1 0 (by decide)
        have e18 : S4.1 54 0 = S.1 54 0 := hS4.1 0 (by decide)
        have e19 : S64.2 55 ((a1 + (v9_3 + 1))) = S11.2 55 ((a1 + (v9_3 + 1))) := congrFun (hS64.2 55 (by decide)) _
        have e20 : S11.2 55 ((a1 + (v9_3 + 1))) = S9h.2 55 ((a1 + (v9_3 + 1))) := congrFun (hS11.2 55 (by decide)) _
        have e21 : S9h.2 55 ((a1 + (v9_3 + 1))) = S4.2 55 ((a1 + (v9_3 + 1))) := congrFun (hS9h.2 55 (by decide)) _
        have e22 : S4.2 55 ((a1 + (v9_3 + 1))) = S.2 55 ((a1 + (v9_3 + 1))) := congrFun (hS4.2 55 (by decide)) _
        refine tX11_signAt (by omega) (fun r72 S72 hS72 n72_0 n72_1 => ?_)
        exact ⟨⟨(Ch.wk (Ch.tr (Ch.tr (Ch.tr hS9h hS11) hS64) hS72) (by decide) (by decide)), rfl, rfl, by omega, by omega, by omega, by omega⟩, show (9 - ((v9_3 + 1))).toNat < (9 - v9_3).toNat by omega⟩
      · have e26 : S11.2 63 a2 = S9h.2 63 a2 := congrFun (hS11.2 63 (by decide)) _
        have e27 : S9h.2 63 a2 = S4.2 63 a2 := congrFun (hS9h.2 63 (by decide)) _
        have e28 : S4.2 63 a2 = S.2 63 a2 := congrFun (hS4.2 63 (by decide)) _
        exact hK ((-10)) S11 (Ch.wk (Ch.tr (Ch.tr hS4 hS9h) hS11) (by decide) (by decide)) (by omega) (by
              intro x
              have e23 : S11.2 63 x = S9h.2 63 x := congrFun (hS11.2 63 (by decide)) _
              have e24 : S9h.2 63 x = S4.2 63 x := congrFun (hS9h.2 63 (by decide)) _
              have e25 : S4.2 63 x = S.2 63 x := congrFun (hS4.2 63 (by decide)) _
              omega) (by omega)
    · refine ⟨fun h28 => ?_, fun h28 => ?_⟩
      · unfold wX11_nameAt_43
        refine ⟨by omega, ?_⟩
        refine ⟨fun h46 => ?_, fun h46 => ?_⟩
        · refine ⟨by omega, by omega, ?_⟩
          refine ⟨by omega, ?_⟩
          intro S64 hS64e
          have hS64 : Ch [] [64] S11 S64 := Ch_A hS64e
          have hS64v : ∀ x, S64.2 64 x = if x = ((8 * a2) + v9_3) then v9_4 else S11.2 64 x := pA_at hS64e
          refine ⟨by omega, ?_⟩
          have e29 : S64.1 54 0 = S11.1 54 0 := hS64.1 0 (by decide)
          have e30 : S11.1 54 0 = S9h.1 54 0 := hS11.1 0 (by decide)
          have e31 : S9h.1 54 0 = S4.1 54 0 := hS9h.1 0 (by decide)
          have e32 : S4.1 54 0 = S.1 54 0 := hS4.1 0 (by decide)
          have e33 : S64.2 55 ((a1 + (v9_3 + 1))) = S11.2 55 ((a1 + (v9_3 + 1))) := congrFun (hS64.2 55 (by decide)) _
          have e34 : S11.2 55 ((a1 + (v9_3 + 1))) = S9h.2 55 ((a1 + (v9_3 + 1))) := congrFun (hS11.2 55 (by decide)) _
          have e35 : S9h.2 55 ((a1 + (v9_3 + 1))) = S4.2 55 ((a1 + (v9_3 + 1))) := congrFun (hS9h.2 55 (by decide)) _
          have e36 : S4.2 55 ((a1 + (v9_3 + 1))) = S.2 55 ((a1 + (v9_3 + 1))) := congrFun (hS4.2 55 (by decide)) _
          refine tX11_signAt (by omega) (fun r72 S72 hS72 n72_0 n72_1 => ?_)
          exact ⟨⟨(Ch.wk (Ch.tr (Ch.tr (Ch.tr hS9h hS11) hS64) hS72) (by decide) (by decide)), rfl, rfl, by omega, by omega, by omega, by omega⟩, show (9 - ((v9_3 + 1))).toNat < (9 - v9_3).toNat by omega⟩
        · have e40 : S11.2 63 a2 = S9h.2 63 a2 := congrFun (hS11.2 63 (by decide)) _
          have e41 : S9h.2 63 a2 = S4.2 63 a2 := congrFun (hS9h.2 63 (by decide)) _
          have e42 : S4.2 63 a2 = S.2 63 a2 := congrFun (hS4.2 63 (by decide)) _
          exact hK ((-10)) S11 (Ch.wk (Ch.tr (Ch.tr hS4 hS9h) hS11) (by decide) (by decide)) (by omega) (by
                intro x
                have e37 : S11.2 63 x = S9h.2 63 x := congrFun (hS11.2 63 (by decide)) _
                have e38 : S9h.2 63 x = S4.2 63 x := congrFun (hS9h.2 63 (by decide)) _
                have e39 : S4.2 63 x = S.2 63 x := congrFun (hS4.2 63 (by decide)) _
                omega) (by omega)
      · refine ⟨by omega, ?_⟩
        refine ⟨fun h32 => ?_, fun h32 => ?_⟩
        · unfold wX11_nameAt_80
          refine ⟨by omega, by omega, ?_⟩
          refine ⟨by omega, ?_⟩
          intro S86 hS86e
          have hS86 : Ch [] [63] S11 S86 := Ch_A hS86e
          have hS86v : ∀ x, S86.2 63 x = if x = a2 then v9_3 else S11.2 63 x := pA_at hS86e
          refine ⟨fun h88 => ?_, fun h88 => ?_⟩
          · have e47 := hS86v a2
            have e48 : S11.2 63 a2 = S9h.2 63 a2 := congrFun (hS11.2 63 (by decide)) _
            have e49 : S9h.2 63 a2 = S4.2 63 a2 := congrFun (hS9h.2 63 (by decide)) _
            have e50 : S4.2 63 a2 = S.2 63 a2 := congrFun (hS4.2 63 (by decide)) _
            exact hK (v9_3) S86 (Ch.wk (Ch.tr (Ch.tr (Ch.tr hS4 hS9h) hS11) hS86) (by decide) (by decide)) (by omega) (by
                  intro x
                  have e43 := hS86v x
                  have e44 : S11.2 63 x = S9h.2 63 x := congrFun (hS11.2 63 (by decide)) _
                  have e45 : S9h.2 63 x = S4.2 63 x := congrFun (hS9h.2 63 (by decide)) _
                  have e46 : S4.2 63 x = S.2 63 x := congrFun (hS4.2 63 (by decide)) _
                  omega) (by omega)
          · have e55 := hS86v a2
            have e56 : S11.2 63 a2 = S9h.2 63 a2 := congrFun (hS11.2 63 (by decide)) _
            have e57 : S9h.2 63 a2 = S4.2 63 a2 := congrFun (hS9h.2 63 (by decide)) _
            have e58 : S4.2 63 a2 = S.2 63 a2 := congrFun (hS4.2 63 (by decide)) _
            exact hK ((-2)) S86 (Ch.wk (Ch.tr (Ch.tr (Ch.tr hS4 hS9h) hS11) hS86) (by decide) (by decide)) (by omega) (by
                  intro x
                  have e51 := hS86v x
                  have e52 : S11.2 63 x = S9h.2 63 x := congrFun (hS11.2 63 (by decide)) _
                  have e53 : S9h.2 63 x = S4.2 63 x := congrFun (hS9h.2 63 (by decide)) _
                  have e54 : S4.2 63 x = S.2 63 x := congrFun (hS4.2 63 (by decide)) _
                  omega) (by omega)
        · refine tX11_isDigit  (fun r37 S37 hS37 n37_0 => ?_)
          refine ⟨by omega, ?_⟩
          refine ⟨fun h40 => ?_, fun h40 => ?_⟩
          · unfold wX11_nameAt_80
            refine ⟨by omega, by omega, ?_⟩
            refine ⟨by omega, ?_⟩
            intro S86 hS86e
            have hS86 : Ch [] [63] S37 S86 := Ch_A hS86e
            have hS86v : ∀ x, S86.2 63 x = if x = a2 then v9_3 else S37.2 63 x := pA_at hS86e
            refine ⟨fun h88 => ?_, fun h88 => ?_⟩
            · have e64 := hS86v a2
              have e65 : S37.2 63 a2 = S11.2 63 a2 := congrFun (hS37.2 63 (by decide)) _
              have e66 : S11.2 63 a2 = S9h.2 63 a2 := congrFun (hS11.2 63 (by decide)) _
              have e67 : S9h.2 63 a2 = S4.2 63 a2 := congrFun (hS9h.2 63 (by decide)) _
              have e68 : S4.2 63 a2 = S.2 63 a2 := congrFun (hS4.2 63 (by decide)) _
              exact hK (v9_3) S86 (Ch.wk (Ch.tr (Ch.tr (Ch.tr (Ch.tr hS4 hS9h) hS11) hS37) hS86) (by decide) (by decide)) (by omega) (by
                    intro x
                    have e59 := hS86v x
                    have e60 : S37.2 63 x = S11.2 63 x := congrFun (hS37.2 63 (by decide)) _
                    have e61 : S11.2 63 x = S9h.2 63 x := congrFun (hS11.2 63 (by decide)) _
                    have e62 : S9h.2 63 x = S4.2 63 x := congrFun (hS9h.2 63 (by decide)) _
                    have e63 : S4.2 63 x = S.2 63 x := congrFun (hS4.2 63 (by decide)) _
                    omega) (by omega)
            · have e74 := hS86v a2
              have e75 : S37.2 63 a2 = S11.2 63 a2 := congrFun (hS37.2 63 (by decide)) _
              have e76 : S11.2 63 a2 = S9h.2 63 a2 := congrFun (hS11.2 63 (by decide)) _
              have e77 : S9h.2 63 a2 = S4.2 63 a2 := congrFun (hS9h.2 63 (by decide)) _
              have e78 : S4.2 63 a2 = S.2 63 a2 := congrFun (hS4.2 63 (by decide)) _
              exact hK ((-2)) S86 (Ch.wk (Ch.tr (Ch.tr (Ch.tr (Ch.tr hS4 hS9h) hS11) hS37) hS86) (by decide) (by decide)) (by omega) (by
                    intro x
                    have e69 := hS86v x
                    have e70 : S37.2 63 x = S11.2 63 x := congrFun (hS37.2 63 (by decide)) _
                    have e71 : S11.2 63 x = S9h.2 63 x := congrFun (hS11.2 63 (by decide)) _
                    have e72 : S9h.2 63 x = S4.2 63 x := congrFun (hS9h.2 63 (by decide)) _
                    have e73 : S4.2 63 x = S.2 63 x := congrFun (hS4.2 63 (by decide)) _
                    omega) (by omega)
          · unfold wX11_nameAt_43
            refine ⟨by omega, ?_⟩
            refine ⟨fun h46 => ?_, fun h46 => ?_⟩
            · refine ⟨by omega, by omega, ?_⟩
              refine ⟨by omega, ?_⟩
              intro S64 hS64e
              have hS64 : Ch [] [64] S37 S64 := Ch_A hS64e
              have hS64v : ∀ x, S64.2 64 x = if x = ((8 * a2) + v9_3) then v9_4 else S37.2 64 x := pA_at hS64e
              refine ⟨by omega, ?_⟩
              have e79 : S64.1 54 0 = S37.1 54 0 := hS64.1 0 (by decide)
              have e80 : S37.1 54 0 = S11.1 54 0 := hS37.1 0 (by decide)
              have e81 : S11.1 54 0 = S9h.1 54 0 := hS11.1 0 (by decide)
              have e82 : S9h.1 54 0 = S4.1 54 0 := hS9h.1 0 (by decide)
              have e83 : S4.1 54 0 = S.1 54 0 := hS4.1 0 (by decide)
              have e84 : S64.2 55 ((a1 + (v9_3 + 1))) = S37.2 55 ((a1 + (v9_3 + 1))) := congrFun (hS64.2 55 (by decide)) _
              have e85 : S37.2 55 ((a1 + (v9_3 + 1))) = S11.2 55 ((a1 + (v9_3 + 1))) := congrFun (hS37.2 55 (by decide)) _
              have e86 : S11.2 55 ((a1 + (v9_3 + 1))) = S9h.2 55 ((a1 + (v9_3 + 1))) := congrFun (hS11.2 55 (by decide)) _
              have e87 : S9h.2 55 ((a1 + (v9_3 + 1))) = S4.2 55 ((a1 + (v9_3 + 1))) := congrFun (hS9h.2 55 (by decide)) _
              have e88 : S4.2 55 ((a1 + (v9_3 + 1))) = S.2 55 ((a1 + (v9_3 + 1))) := congrFun (hS4.2 55 (by decide)) _
              refine tX11_signAt (by omega) (fun r72 S72 hS72 n72_0 n72_1 => ?_)
              exact ⟨⟨(Ch.wk (Ch.tr (Ch.tr (Ch.tr (Ch.tr hS9h hS11) hS37) hS64) hS72) (by decide) (by decide)), rfl, rfl, by omega, by omega, by omega, by omega⟩, show (9 - ((v9_3 + 1))).toNat < (9 - v9_3).toNat by omega⟩
            · have e93 : S37.2 63 a2 = S11.2 63 a2 := congrFun (hS37.2 63 (by decide)) _
              have e94 : S11.2 63 a2 = S9h.2 63 a2 := congrFun (hS11.2 63 (by decide)) _
              have e95 : S9h.2 63 a2 = S4.2 63 a2 := congrFun (hS9h.2 63 (by decide)) _
              have e96 : S4.2 63 a2 = S.2 63 a2 := congrFun (hS4.2 63 (by decide)) _
              exact hK ((-10)) S37 (Ch.wk (Ch.tr (Ch.tr (Ch.tr hS4 hS9h) hS11) hS37) (by decide) (by decide)) (by omega) (by
                    intro x
                    have e89 : S37.2 63 x = S11.2 63 x := congrFun (hS37.2 63 (by decide)) _
                    have e90 : S11.2 63 x = S9h.2 63 x := congrFun (hS11.2 63 (by decide)) _
                    have e91 : S9h.2 63 x = S4.2 63 x := congrFun (hS9h.2 63 (by decide)) _
                    have e92 : S4.2 63 x = S.2 63 x := congrFun (hS4.2 63 (by decide)) _
                    omega) (by omega)

set_option maxRecDepth 100000 in
set_option maxHeartbeats 4000000 in
theorem tX11_name {a1 a2 a3 : Int} {S : St} {K : Int → St → Prop} (p1 : iv 0 29 a1) (p2 : 0 ≤ a2) (p3 : a3 ≤ 30) (p4 : (S.1 54 22) ≤ (S.1 54 0)) (hK : ∀ (r : Int) (S' : St), Ch [22, 23, 24] [63, 64] S S' → ((S'.1 54 22) ≤ (S.1 54 0)) → ((S'.1 54 23) = 1 ∨ 1 ≤ (S'.2 63) a1) → (∀ x, x = a1 ∨ (S'.2 63) x = (S.2 63) x) → ((S'.1 54 23) = 1 ∨ (S'.1 54 23) = (S.1 54 23)) → K r S') : wX11_name a1 a2 a3 S K := by
  unfold wX11_name
  intro g1 g2 g3
  intro q1
  refine tX11_nameAt (by omega) (by omega) (fun r6 S6 hS6 n6_0 n6_1 n6_2 => ?_)
  refine ⟨by omega, ?_⟩
  refine ⟨fun h13 => ?_, fun h13 => ?_⟩
  · intro q2
    have e3 : S6.1 54 22 = S.1 54 22 := hS6.1 22 (by decide)
    refine ⟨by omega, ?_⟩
    intro S44 hS44e
    have hS44 : Ch [22] [] S6 S44 := Ch_I hS44e
    have hS44v : S44.1 54 22 = (S6.1 54 22 + r6) := pI_at hS44e
    unfold wX11_name_53
    refine ⟨fun u1 u3 u5 u6 Sx => Ch [] [] S44 Sx ∧ a1 = u1 ∧ a3 = u3 ∧ (0 ≤ u6) ∧ (iv 0 1 u5), fun u1 u3 u5 u6 Sx => (31 - u6).toNat, ?_, fun v53_1 v53_3 v53_5 v53_6 S53h hI => ?_⟩
    · exact ⟨Ch.re, rfl, rfl, by omega, by omega⟩
    obtain ⟨hS53h, rfl, rfl, i53_0, i53_1⟩ := hI
    unfold wX11_name_53'
    refine ⟨by omega, ?_⟩
    refine ⟨by omega, ?_⟩
    refine ⟨fun h56 => ?_, fun h56 => ?_⟩
    · intro q4
      have e5 : S53h.1 54 24 = S44.1 54 24 := hS53h.1 24 (by decide)
      have e6 : S44.1 54 24 = S6.1 54 24 := hS44.1 24 (by decide)
      have e7 : S6.1 54 24 = S.1 54 24 := hS6.1 24 (by decide)
      refine ⟨fun h92 => ?_, fun h92 => ?_⟩
      · intro S105 hS105e
        have hS105 : Ch [24] [] S53h S105 := Ch_I hS105e
        have hS105v : S105.1 54 24 = 1 := pI_at hS105e
        have e12 : S105.1 54 22 = S53h.1 54 22 := hS105.1 22 (by decide)
        have e13 : S53h.1 54 22 = S44.1 54 22 := hS53h.1 22 (by decide)
        have e14 : S105.1 54 23 = S53h.1 54 23 := hS105.1 23 (by decide)
        have e15 : S53h.1 54 23 = S44.1 54 23 := hS53h.1 23 (by decide)
        have e16 : S44.1 54 23 = S6.1 54 23 := hS44.1 23 (by decide)
        have e17 : S6.1 54 23 = S.1 54 23 := hS6.1 23 (by decide)
        have e18 : S105.1 54 23 = S53h.1 54 23 := hS105.1 23 (by decide)
        have e19 : S53h.1 54 23 = S44.1 54 23 := hS53h.1 23 (by decide)
        have e20 : S44.1 54 23 = S6.1 54 23 := hS44.1 23 (by decide)
        have e21 : S6.1 54 23 = S.1 54 23 := hS6.1 23 (by decide)
        exact hK (0) S105 (Ch.wk (Ch.tr (Ch.tr (Ch.tr hS6 hS44) hS53h) hS105) (by decide) (by decide)) (by omega) (by omega) (by
              intro x
              have e8 : S105.2 63 x = S53h.2 63 x := congrFun (hS105.2 63 (by decide)) _
              have e9 : S53h.2 63 x = S44.2 63 x := congrFun (hS53h.2 63 (by decide)) _
              have e10 : S44.2 63 x = S6.2 63 x := congrFun (hS44.2 63 (by decide)) _
              have e11 := n6_1 x
              omega) (by omega)
      · refine ⟨by omega, ?_⟩
        refine ⟨fun h97 => ?_, fun h97 => ?_⟩
        · intro S105 hS105e
          have hS105 : Ch [24] [] S53h S105 := Ch_I hS105e
          have hS105v : S105.1 54 24 = 0 := pI_at hS105e
          have e26 : S105.1 54 22 = S53h.1 54 22 := hS105.1 22 (by decide)
          have e27 : S53h.1 54 22 = S44.1 54 22 := hS53h.1 22 (by decide)
          have e28 : S105.1 54 23 = S53h.1 54 23 := hS105.1 23 (by decide)
          have e29 : S53h.1 54 23 = S44.1 54 23 := hS53h.1 23 (by decide)
          have e30 : S44.1 54 23 = S6.1 54 23 := hS44.1 23 (by decide)
          have e31 : S6.1 54 23 = S.1 54 23 := hS6.1 23 (by decide)
          have e32 : S105.1 54 23 = S53h.1 54 23 := hS105.1 23 (by decide)
          have e33 : S53h.1 54 23 = S44.1 54 23 := hS53h.1 23 (by decide)
          have e34 : S44.1 54 23 = S6.1 54 23 := hS44.1 23 (by decide)
          have e35 : S6.1 54 23 = S.1 54 23 := hS6.1 23 (by decide)
          exact hK (0) S105 (Ch.wk (Ch.tr (Ch.tr (Ch.tr hS6 hS44) hS53h) hS105) (by decide) (by decide)) (by omega) (by omega) (by
                intro x
                have e22 : S105.2 63 x = S53h.2 63 x := congrFun (hS105.2 63 (by decide)) _
                have e23 : S53h.2 63 x = S44.2 63 x := congrFun (hS53h.2 63 (by decide)) _
                have e24 : S44.2 63 x = S6.2 63 x := congrFun (hS44.2 63 (by decide)) _
                have e25 := n6_1 x
                omega) (by omega)
        · intro S105 hS105e
          have hS105 : Ch [24] [] S53h S105 := Ch_I hS105e
          have hS105v : S105.1 54 24 = 1 := pI_at hS105e
          have e40 : S105.1 54 22 = S53h.1 54 22 := hS105.1 22 (by decide)
          have e41 : S53h.1 54 22 = S44.1 54 22 := hS53h.1 22 (by decide)
          have e42 : S105.1 54 23 = S53h.1 54 23 := hS105.1 23 (by decide)
          have e43 : S53h.1 54 23 = S44.1 54 23 := hS53h.1 23 (by decide)
          have e44 : S44.1 54 23 = S6.1 54 23 := hS44.1 23 (by decide)
          have e45 : S6.1 54 23 = S.1 54 23 := hS6.1 23 (by decide)
          have e46 : S105.1 54 23 = S53h.1 54 23 := hS105.1 23 (by decide)
          have e47 : S53h.1 54 23 = S44.1 54 23 := hS53h.1 23 (by decide)
          have e48 : S44.1 54 23 = S6.1 54 23 := hS44.1 23 (by decide)
          have e49 : S6.1 54 23 = S.1 54 23 := hS6.1 23 (by decide)
          exact hK (0) S105 (Ch.wk (Ch.tr (Ch.tr (Ch.tr hS6 hS44) hS53h) hS105) (by decide) (by decide)) (by omega) (by omega) (by
                intro x
                have e36 : S105.2 63 x = S53h.2 63 x := congrFun (hS105.2 63 (by decide)) _
                have e37 : S53h.2 63 x = S44.2 63 x := congrFun (hS53h.2 63 (by decide)) _
                have e38 : S44.2 63 x = S6.2 63 x := congrFun (hS44.2 63 (by decide)) _
                have e39 := n6_1 x
                omega) (by omega)
    · refine ⟨by omega, ?_⟩
      refine ⟨fun h61 => ?_, fun h61 => ?_⟩
      · unfold wX11_name_74
        unfold wX11_name_79
        exact ⟨⟨(Ch.wk hS53h (by decide) (by decide)), rfl, rfl, by omega, by omega⟩, show (31 - ((v53_6 + 1))).toNat < (31 - v53_6).toNat by omega⟩
      · refine ⟨by omega, ?_⟩
        refine tX11_areAlike (by omega) (by omega) (fun r68 S68 hS68 n68_0 => ?_)
        refine ⟨by omega, ?_⟩
        refine ⟨fun h71 => ?_, fun h71 => ?_⟩
        · unfold wX11_name_79
          exact ⟨⟨(Ch.wk (Ch.tr hS53h hS68) (by decide) (by decide)), rfl, rfl, by omega, by omega⟩, show (31 - ((v53_6 + 1))).toNat < (31 - v53_6).toNat by omega⟩
        · unfold wX11_name_74
          unfold wX11_name_79
          exact ⟨⟨(Ch.wk (Ch.tr hS53h hS68) (by decide) (by decide)), rfl, rfl, by omega, by omega⟩, show (31 - ((v53_6 + 1))).toNat < (31 - v53_6).toNat by omega⟩
  · intro q50
    have e51 : S6.1 54 22 = S.1 54 22 := hS6.1 22 (by decide)
    refine ⟨by omega, ?_⟩
    intro S27 hS27e
    have hS27 : Ch [22] [] S6 S27 := Ch_I hS27e
    have hS27v : S27.1 54 22 = ((S6.1 54 22 + (-2)) - r6) := pI_at hS27e
    intro S32 hS32e
    have hS32 : Ch [23] [] S27 S32 := Ch_I hS32e
    have hS32v : S32.1 54 23 = 1 := pI_at hS32e
    have e55 : S32.1 54 22 = S27.1 54 22 := hS32.1 22 (by decide)
    exact hK (0) S32 (Ch.wk (Ch.tr (Ch.tr hS6 hS27) hS32) (by decide) (by decide)) (by omega) (by omega) (by
          intro x
          have e52 : S32.2 63 x = S27.2 63 x := congrFun (hS32.2 63 (by decide)) _
          have e53 : S27.2 63 x = S6.2 63 x := congrFun (hS27.2 63 (by decide)) _
          have e54 := n6_1 x
          omega) (by omega)

set_option maxRecDepth 100000 in
set_option maxHeartbeats 4000000 in
theorem tX11_field_295 {a1 a2 l3 s0 s1 : Int} {S S1c : St} {K : Int → St → Prop} (g1 : rng a1) (g2 : rng a2) (p1 : iv 0 5 a1) (p2 : iv 0 3 a2) (p3 : (S.1 54 22) ≤ (S.1 54 0)) (hS1c : Ch [22, 23, 24] [63, 64, 65, 66] S S1c) (c1 : (S1c.1 54 22) ≤ (S.1 54 0)) (c2 : 1 ≤ (S1c.2 63) (6 + (4 * a1 + a2))) (c3 : ∀ x, x = (6 + (4 * a1 + a2)) ∨ (S1c.2 63) x = (S.2 63) x) (c4 : (S1c.1 54 23) = (S.1 54 23) ∨ (S1c.1 54 23) = 1) (c5 : (S.1 54 23) = 0 ∨ (S1c.1 54 23) = 1) (c6 : 4 * a1 + a2 = l3) (c7 : 4 * a1 + a2 = s1) (c8 : iv 0 1 s0) (c9 : s0 = 0 ∨ (S1c.1 54 22) < (S.1 54 0)) (hK : ∀ (r : Int) (S' : St), Ch [22, 23, 24] [63, 64, 65, 66] S S' → ((S'.1 54 22) ≤ (S.1 54 0)) → ((S'.1 54 23) = 1 ∨ 1 ≤ (S'.2 63) (6 + (4 * a1 + a2))) → (∀ x, x = (6 + (4 * a1 + a2)) ∨ (S'.2 63) x = (S.2 63) x) → ((S'.1 54 23) = 1 ∨ (S'.1 54 23) = (S.1 54 23)) → K r S') : wX11_field_295 l3 s0 s1 S1c K := by
  unfold wX11_field_295
  refine ⟨by omega, by omega, ?_⟩
  refine ⟨by omega, ?_⟩
  intro S295 hS295e
  have hS295 : Ch [] [66] S1c S295 := Ch_A hS295e
  have hS295v : ∀ x, S295.2 66 x = if x = s1 then s0 else S1c.2 66 x := pA_at hS295e
  refine ⟨by omega, by omega, ?_⟩
  intro q1
  have e2 := hS295v (l3)
  refine ⟨fun h303 => ?_, fun h303 => ?_⟩
  · intro q3
    have e4 : S295.1 54 22 = S1c.1 54 22 := hS295.1 22 (by decide)
    intro S319 hS319e
    have hS319 : Ch [22] [] S295 S319 := Ch_I hS319e
    have hS319v : S319.1 54 22 = S295.1 54 22 := pI_at hS319e
    have e8 : S319.1 54 23 = S295.1 54 23 := hS319.1 23 (by decide)
    have e9 : S295.1 54 23 = S1c.1 54 23 := hS295.1 23 (by decide)
    have e10 : S319.1 54 23 = S295.1 54 23 := hS319.1 23 (by decide)
    have e11 : S295.1 54 23 = S1c.1 54 23 := hS295.1 23 (by decide)
    exact hK (0) S319 (Ch.wk (Ch.tr (Ch.tr hS1c hS295) hS319) (by decide) (by decide)) (by omega) (by omega) (by
          intro x
          have e5 : S319.2 63 x = S295.2 63 x := congrFun (hS319.2 63 (by decide)) _
          have e6 : S295.2 63 x = S1c.2 63 x := congrFun (hS295.2 63 (by decide)) _
          have e7 := c3 x
          omega) (by omega)
  · intro q12
    have e13 : S295.1 54 22 = S1c.1 54 22 := hS295.1 22 (by decide)
    refine ⟨by omega, ?_⟩
    intro S319 hS319e
    have hS319 : Ch [22] [] S295 S319 := Ch_I hS319e
    have hS319v : S319.1 54 22 = (S295.1 54 22 + 1) := pI_at hS319e
    have e17 : S319.1 54 23 = S295.1 54 23 := hS319.1 23 (by decide)
    have e18 : S295.1 54 23 = S1c.1 54 23 := hS295.1 23 (by decide)
    have e19 : S319.1 54 23 = S295.1 54 23 := hS319.1 23 (by decide)
    have e20 : S295.1 54 23 = S1c.1 54 23 := hS295.1 23 (by decide)
    exact hK (0) S319 (Ch.wk (Ch.tr (Ch.tr hS1c hS295) hS319) (by decide) (by decide)) (by omega) (by omega) (by
          intro x
          have e14 : S319.2 63 x = S295.2 63 x := congrFun (hS319.2 63 (by decide)) _
          have e15 : S295.2 63 x = S1c.2 63 x := congrFun (hS295.2 63 (by decide)) _
          have e16 := c3 x
          omega) (by omega)
set_option maxRecDepth 100000 in
set_option maxHeartbeats 4000000 in
theorem tX11_field_162 {a1 a2 l1 l3 s0 : Int} {S S1c : St} {K : Int → St → Prop} (g1 : rng a1) (g2 : rng a2) (p1 : iv 0 5 a1) (p2 : iv 0 3 a2) (p3 : (S.1 54 22) ≤ (S.1 54 0)) (hS1c : Ch [22, 23, 24] [63, 64, 65, 66] S S1c) (c1 : (S1c.1 54 22) ≤ (S.1 54 0)) (c2 : 1 ≤ (S1c.2 63) (6 + (4 * a1 + a2))) (c3 : ∀ x, x = (6 + (4 * a1 + a2)) ∨ (S1c.2 63) x = (S.2 63) x) (c4 : (S1c.1 54 23) = (S.1 54 23) ∨ (S1c.1 54 23) = 1) (c5 : (S.1 54 23) = 0 ∨ (S1c.1 54 23) = 1) (c6 : a1 = l1) (c7 : 4 * a1 + a2 = l3) (c8 : iv 0 1 s0) (c9 : s0 = 0 ∨ (S1c.1 54 22) < (S.1 54 0)) (hK : ∀ (r : Int) (S' : St), Ch [22, 23, 24] [63, 64, 65, 66] S S' → ((S'.1 54 22) ≤ (S.1 54 0)) → ((S'.1 54 23) = 1 ∨ 1 ≤ (S'.2 63) (6 + (4 * a1 + a2))) → (∀ x, x = (6 + (4 * a1 + a2)) ∨ (S'.2 63) x = (S.2 63) x) → ((S'.1 54 23) = 1 ∨ (S'.1 54 23) = (S.1 54 23)) → K r S') : wX11_field_162 l1 l3 s0 S1c K := by
  unfold wX11_field_162
  refine ⟨by omega, ?_⟩
  refine tX11_want (by omega) (fun r162 S162 hS162 n162_0 => ?_)
  intro q1
  refine ⟨fun h169 => ?_, fun h169 => ?_⟩
  · intro q2
    have e3 : S162.1 54 22 = S1c.1 54 22 := hS162.1 22 (by decide)
    refine ⟨by omega, ?_⟩
    intro S180 hS180e
    have hS180 : Ch [22] [] S162 S180 := Ch_I hS180e
    have hS180v : S180.1 54 22 = (S162.1 54 22 + 1) := pI_at hS180e
    intro q4
    have e5 : S180.1 54 0 = S162.1 54 0 := hS180.1 0 (by decide)
    have e6 : S162.1 54 0 = S1c.1 54 0 := hS162.1 0 (by decide)
    have e7 : S1c.1 54 0 = S.1 54 0 := hS1c.1 0 (by decide)
    have e8 : S180.2 55 (S180.1 54 22) = S162.2 55 (S180.1 54 22) := congrFun (hS180.2 55 (by decide)) _
    have e9 : S162.2 55 (S180.1 54 22) = S1c.2 55 (S180.1 54 22) := congrFun (hS162.2 55 (by decide)) _
    have e10 : S1c.2 55 (S180.1 54 22) = S.2 55 (S180.1 54 22) := congrFun (hS1c.2 55 (by decide)) _
    refine tX11_signAt (by omega) (fun r188 S188 hS188 n188_0 n188_1 => ?_)
    intro x199 hx199
    subst hx199
    unfold wX11_field_201
    refine ⟨fun u3 u4 u5 u6 Sx => Ch [] [] S188 Sx ∧ l3 = u3 ∧ r188 = u4 ∧ (iv 0 23 u6) ∧ (iv 0 1 u5) ∧ (rng u4), fun u3 u4 u5 u6 Sx => (24 - u6).toNat, ?_, fun v201_3 v201_4 v201_5 v201_6 S201h hI => ?_⟩
    · exact ⟨Ch.re, rfl, rfl, by omega, by omega, by omega⟩
    obtain ⟨hS201h, rfl, rfl, i201_0, i201_1, i201_2⟩ := hI
    unfold wX11_field_201'
    refine ⟨by omega, ?_⟩
    refine ⟨by omega, ?_⟩
    refine ⟨fun h204 => ?_, fun h204 => ?_⟩
    · refine ⟨by omega, ?_⟩
      refine ⟨fun h255 => ?_, fun h255 => ?_⟩
      · unfold wX11_field_268
        refine ⟨by omega, ?_⟩
        refine ⟨fun h272 => ?_, fun h272 => ?_⟩
        · unfold wX11_field_294
          have e11 : S201h.1 54 22 = S188.1 54 22 := hS201h.1 22 (by decide)
          have e12 : S188.1 54 22 = S180.1 54 22 := hS188.1 22 (by decide)
          have e13 : S201h.2 63 (6 + (4 * a1 + a2)) = S188.2 63 (6 + (4 * a1 + a2)) := congrFun (hS201h.2 63 (by decide)) _
          have e14 : S188.2 63 (6 + (4 * a1 + a2)) = S180.2 63 (6 + (4 * a1 + a2)) := congrFun (hS188.2 63 (by decide)) _
          have e15 : S180.2 63 (6 + (4 * a1 + a2)) = S162.2 63 (6 + (4 * a1 + a2)) := congrFun (hS180.2 63 (by decide)) _
          have e16 : S162.2 63 (6 + (4 * a1 + a2)) = S1c.2 63 (6 + (4 * a1 + a2)) := congrFun (hS162.2 63 (by decide)) _
          have e17 := c3 (6 + (4 * a1 + a2))
          have e18 : S201h.1 54 23 = S188.1 54 23 := hS201h.1 23 (by decide)
          have e19 : S188.1 54 23 = S180.1 54 23 := hS188.1 23 (by decide)
          have e20 : S180.1 54 23 = S162.1 54 23 := hS180.1 23 (by decide)
          have e21 : S201h.1 54 23 = S188.1 54 23 := hS201h.1 23 (by decide)
          have e22 : S188.1 54 23 = S180.1 54 23 := hS188.1 23 (by decide)
          have e23 : S180.1 54 23 = S162.1 54 23 := hS180.1 23 (by decide)
          have e24 : S201h.1 54 22 = S188.1 54 22 := hS201h.1 22 (by decide)
          have e25 : S188.1 54 22 = S180.1 54 22 := hS188.1 22 (by decide)
          exact tX11_field_295 g1 g2 p1 p2 p3 (Ch.wk (Ch.tr (Ch.tr (Ch.tr (Ch.tr hS1c hS162) hS180) hS188) hS201h) (by decide) (by decide)) (by omega) (by omega) (by
                intro x
                have e26 : S201h.2 63 x = S188.2 63 x := congrFun (hS201h.2 63 (by decide)) _
                have e27 : S188.2 63 x = S180.2 63 x := congrFun (hS188.2 63 (by decide)) _
                have e28 : S180.2 63 x = S162.2 63 x := congrFun (hS180.2 63 (by decide)) _
                have e29 : S162.2 63 x = S1c.2 63 x := congrFun (hS162.2 63 (by decide)) _
                have e30 := c3 x
                omega) (by omega) (by omega) (by omega) (by omega) (by omega) (by omega) hK
        · refine ⟨by omega, by omega, ?_⟩
          intro q31
          have e32 : S201h.2 65 (l3) = S188.2 65 (l3) := congrFun (hS201h.2 65 (by decide)) _
          have e33 : S188.2 65 (l3) = S180.2 65 (l3) := congrFun (hS188.2 65 (by decide)) _
          have e34 : S180.2 65 (l3) = S162.2 65 (l3) := congrFun (hS180.2 65 (by decide)) _
          have e35 : S162.2 65 (l3) = S1c.2 65 (l3) := congrFun (hS162.2 65 (by decide)) _
          refine ⟨fun h282 => ?_, fun h282 => ?_⟩
          · unfold wX11_field_294
            have e36 : S201h.1 54 22 = S188.1 54 22 := hS201h.1 22 (by decide)
            have e37 : S188.1 54 22 = S180.1 54 22 := hS188.1 22 (by decide)
            have e38 : S201h.2 63 (6 + (4 * a1 + a2)) = S188.2 63 (6 + (4 * a1 + a2)) := congrFun (hS201h.2 63 (by decide)) _
            have e39 : S188.2 63 (6 + (4 * a1 + a2)) = S180.2 63 (6 + (4 * a1 + a2)) := congrFun (hS188.2 63 (by decide)) _
            have e40 : S180.2 63 (6 + (4 * a1 + a2)) = S162.2 63 (6 + (4 * a1 + a2)) := congrFun (hS180.2 63 (by decide)) _
            have e41 : S162.2 63 (6 + (4 * a1 + a2)) = S1c.2 63 (6 + (4 * a1 + a2)) := congrFun (hS162.2 63 (by decide)) _
            have e42 := c3 (6 + (4 * a1 + a2))
            have e43 : S201h.1 54 23 = S188.1 54 23 := hS201h.1 23 (by decide)
            have e44 : S188.1 54 23 = S180.1 54 23 := hS188.1 23 (by decide)
            have e45 : S180.1 54 23 = S162.1 54 23 := hS180.1 23 (by decide)
            have e46 : S201h.1 54 23 = S188.1 54 23 := hS201h.1 23 (by decide)
            have e47 : S188.1 54 23 = S180.1 54 23 := hS188.1 23 (by decide)
            have e48 : S180.1 54 23 = S162.1 54 23 := hS180.1 23 (by decide)
            have e49 : S201h.1 54 22 = S188.1 54 22 := hS201h.1 22 (by decide)
            have e50 : S188.1 54 22 = S180.1 54 22 := hS188.1 22 (by decide)
            exact tX11_field_295 g1 g2 p1 p2 p3 (Ch.wk (Ch.tr (Ch.tr (Ch.tr (Ch.tr hS1c hS162) hS180) hS188) hS201h) (by decide) (by decide)) (by omega) (by omega) (by
                  intro x
                  have e51 : S201h.2 63 x = S188.2 63 x := congrFun (hS201h.2 63 (by decide)) _
                  have e52 : S188.2 63 x = S180.2 63 x := congrFun (hS188.2 63 (by decide)) _
                  have e53 : S180.2 63 x = S162.2 63 x := congrFun (hS180.2 63 (by decide)) _
                  have e54 : S162.2 63 x = S1c.2 63 x := congrFun (hS162.2 63 (by decide)) _
                  have e55 := c3 x
                  omega) (by omega) (by omega) (by omega) (by omega) (by omega) (by omega) hK
          · refine ⟨by omega, ?_⟩
            refine ⟨fun h287 => ?_, fun h287 => ?_⟩
            · unfold wX11_field_294
              have e56 : S201h.1 54 22 = S188.1 54 22 := hS201h.1 22 (by decide)
              have e57 : S188.1 54 22 = S180.1 54 22 := hS188.1 22 (by decide)
              have e58 : S201h.2 63 (6 + (4 * a1 + a2)) = S188.2 63 (6 + (4 * a1 + a2)) := congrFun (hS201h.2 63 (by decide)) _
              have e59 : S188.2 63 (6 + (4 * a1 + a2)) = S180.2 63 (6 + (4 * a1 + a2)) := congrFun (hS188.2 63 (by decide)) _
              have e60 : S180.2 63 (6 + (4 * a1 + a2)) = S162.2 63 (6 + (4 * a1 + a2)) := congrFun (hS180.2 63 (by decide)) _
              have e61 : S162.2 63 (6 + (4 * a1 + a2)) = S1c.2 63 (6 + (4 * a1 + a2)) := congrFun (hS162.2 63 (by decide)) _
              have e62 := c3 (6 + (4 * a1 + a2))
              have e63 : S201h.1 54 23 = S188.1 54 23 := hS201h.1 23 (by decide)
              have e64 : S188.1 54 23 = S180.1 54 23 := hS188.1 23 (by decide)
              have e65 : S180.1 54 23 = S162.1 54 23 := hS180.1 23 (by decide)
              have e66 : S201h.1 54 23 = S188.1 54 23 := hS201h.1 23 (by decide)
              have e67 : S188.1 54 23 = S180.1 54 23 := hS188.1 23 (by decide)
              have e68 : S180.1 54 23 = S162.1 54 23 := hS180.1 23 (by decide)
              have e69 : S201h.1 54 22 = S188.1 54 22 := hS201h.1 22 (by decide)
              have e70 : S188.1 54 22 = S180.1 54 22 := hS188.1 22 (by decide)
              exact tX11_field_295 g1 g2 p1 p2 p3 (Ch.wk (Ch.tr (Ch.tr (Ch.tr (Ch.tr hS1c hS162) hS180) hS188) hS201h) (by decide) (by decide)) (by omega) (by omega) (by
                    intro x
                    have e71 : S201h.2 63 x = S188.2 63 x := congrFun (hS201h.2 63 (by decide)) _
                    have e72 : S188.2 63 x = S180.2 63 x := congrFun (hS188.2 63 (by decide)) _
                    have e73 : S180.2 63 x = S162.2 63 x := congrFun (hS180.2 63 (by decide)) _
                    have e74 : S162.2 63 x = S1c.2 63 x := congrFun (hS162.2 63 (by decide)) _
                    have e75 := c3 x
                    omega) (by omega) (by omega) (by omega) (by omega) (by omega) (by omega) hK
            · unfold wX11_field_290
              have e76 : S201h.1 54 22 = S188.1 54 22 := hS201h.1 22 (by decide)
              have e77 : S188.1 54 22 = S180.1 54 22 := hS188.1 22 (by decide)
              have e78 : S201h.2 63 (6 + (4 * a1 + a2)) = S188.2 63 (6 + (4 * a1 + a2)) := congrFun (hS201h.2 63 (by decide)) _
              have e79 : S188.2 63 (6 + (4 * a1 + a2)) = S180.2 63 (6 + (4 * a1 + a2)) := congrFun (hS188.2 63 (by decide)) _
              have e80 : S180.2 63 (6 + (4 * a1 + a2)) = S162.2 63 (6 + (4 * a1 + a2)) := congrFun (hS180.2 63 (by decide)) _
              have e81 : S162.2 63 (6 + (4 * a1 + a2)) = S1c.2 63 (6 + (4 * a1 + a2)) := congrFun (hS162.2 63 (by decide)) _
              have e82 := c3 (6 + (4 * a1 + a2))
              have e83 : S201h.1 54 23 = S188.1 54 23 := hS201h.1 23 (by decide)
              have e84 : S188.1 54 23 = S180.1 54 23 := hS188.1 23 (by decide)
              have e85 : S180.1 54 23 = S162.1 54 23 := hS180.1 23 (by decide)
              have e86 : S201h.1 54 23 = S188.1 54 23 := hS201h.1 23 (by decide)
              have e87 : S188.1 54 23 = S180.1 54 23 := hS188.1 23 (by decide)
              have e88 : S180.1 54 23 = S162.1 54 23 := hS180.1 23 (by decide)
              have e89 : S201h.1 54 22 = S188.1 54 22 := hS201h.1 22 (by decide)
              have e90 : S188.1 54 22 = S180.1 54 22 := hS188.1 22 (by decide)
              exact tX11_field_295 g1 g2 p1 p2 p3 (Ch.wk (Ch.tr (Ch.tr (Ch.tr (Ch.tr hS1c hS162) hS180) hS188) hS201h) (by decide) (by decide)) (by omega) (by omega) (by
                    intro x
                    have e91 : S201h.2 63 x = S188.2 63 x := congrFun (hS201h.2 63 (by decide)) _
                    have e92 : S188.2 63 x = S180.2 63 x := congrFun (hS188.2 63 (by decide)) _
                    have e93 : S180.2 63 x = S162.2 63 x := congrFun (hS180.2 63 (by decide)) _
                    have e94 : S162.2 63 x = S1c.2 63 x := congrFun (hS162.2 63 (by decide)) _
                    have e95 := c3 x
                    omega) (by omega) (by omega) (by omega) (by omega) (by omega) (by omega) hK
      · refine ⟨by omega, by omega, ?_⟩
        intro q96
        have e97 : S201h.2 65 (l3) = S188.2 65 (l3) := congrFun (hS201h.2 65 (by decide)) _
        have e98 : S188.2 65 (l3) = S180.2 65 (l3) := congrFun (hS188.2 65 (by decide)) _
        have e99 : S180.2 65 (l3) = S162.2 65 (l3) := congrFun (hS180.2 65 (by decide)) _
        have e100 : S162.2 65 (l3) = S1c.2 65 (l3) := congrFun (hS162.2 65 (by decide)) _
        refine ⟨fun h265 => ?_, fun h265 => ?_⟩
        · unfold wX11_field_290
          have e101 : S201h.1 54 22 = S188.1 54 22 := hS201h.1 22 (by decide)
          have e102 : S188.1 54 22 = S180.1 54 22 := hS188.1 22 (by decide)
          have e103 : S201h.2 63 (6 + (4 * a1 + a2)) = S188.2 63 (6 + (4 * a1 + a2)) := congrFun (hS201h.2 63 (by decide)) _
          have e104 : S188.2 63 (6 + (4 * a1 + a2)) = S180.2 63 (6 + (4 * a1 + a2)) := congrFun (hS188.2 63 (by decide)) _
          have e105 : S180.2 63 (6 + (4 * a1 + a2)) = S162.2 63 (6 + (4 * a1 + a2)) := congrFun (hS180.2 63 (by decide)) _
          have e106 : S162.2 63 (6 + (4 * a1 + a2)) = S1c.2 63 (6 + (4 * a1 + a2)) := congrFun (hS162.2 63 (by decide)) _
          have e107 := c3 (6 + (4 * a1 + a2))
          have e108 : S201h.1 54 23 = S188.1 54 23 := hS201h.1 23 (by decide)
          have e109 : S188.1 54 23 = S180.1 54 23 := hS188.1 23 (by decide)
          have e110 : S180.1 54 23 = S162.1 54 23 := hS180.1 23 (by decide)
          have e111 : S201h.1 54 23 = S188.1 54 23 := hS201h.1 23 (by decide)
          have e112 : S188.1 54 23 = S180.1 54 23 := hS188.1 23 (by decide)
          have e113 : S180.1 54 23 = S162.1 54 23 := hS180.1 23 (by decide)
          have e114 : S201h.1 54 22 = S188.1 54 22 := hS201h.1 22 (by decide)
          have e115 : S188.1 54 22 = S180.1 54 22 := hS188.1 22 (by decide)
          exact tX11_field_295 g1 g2 p1 p2 p3 (Ch.wk (Ch.tr (Ch.tr (Ch.tr (Ch.tr hS1c hS162) hS180) hS188) hS201h) (by decide) (by decide)) (by omega) (by omega) (by
                intro x
                have e116 : S201h.2 63 x = S188.2 63 x := congrFun (hS201h.2 63 (by decide)) _
                have e117 : S188.2 63 x = S180.2 63 x := congrFun (hS188.2 63 (by decide)) _
                have e118 : S180.2 63 x = S162.2 63 x := congrFun (hS180.2 63 (by decide)) _
                have e119 : S162.2 63 x = S1c.2 63 x := congrFun (hS162.2 63 (by decide)) _
                have e120 := c3 x
                omega) (by omega) (by omega) (by omega) (by omega) (by omega) (by omega) hK
        · unfold wX11_field_268
          refine ⟨by omega, ?_⟩
          refine ⟨fun h272 => ?_, fun h272 => ?_⟩
          · unfold wX11_field_294
            have e121 : S201h.1 54 22 = S188.1 54 22 := hS201h.1 22 (by decide)
            have e122 : S188.1 54 22 = S180.1 54 22 := hS188.1 22 (by decide)
            have e123 : S201h.2 63 (6 + (4 * a1 + a2)) = S188.2 63 (6 + (4 * a1 + a2)) := congrFun (hS201h.2 63 (by decide)) _
            have e124 : S188.2 63 (6 + (4 * a1 + a2)) = S180.2 63 (6 + (4 * a1 + a2)) := congrFun (hS188.2 63 (by decide)) _
            have e125 : S180.2 63 (6 + (4 * a1 + a2)) = S162.2 63 (6 + (4 * a1 + a2)) := congrFun (hS180.2 63 (by decide)) _
            have e126 : S162.2 63 (6 + (4 * a1 + a2)) = S1c.2 63 (6 + (4 * a1 + a2)) := congrFun (hS162.2 63 (by decide)) _
            have e127 := c3 (6 + (4 * a1 + a2))
            have e128 : S201h.1 54 23 = S188.1 54 23 := hS201h.1 23 (by decide)
            have e129 : S188.1 54 23 = S180.1 54 23 := hS188.1 23 (by decide)
            have e130 : S180.1 54 23 = S162.1 54 23 := hS180.1 23 (by decide)
            have e131 : S201h.1 54 23 = S188.1 54 23 := hS201h.1 23 (by decide)
            have e132 : S188.1 54 23 = S180.1 54 23 := hS188.1 23 (by decide)
            have e133 : S180.1 54 23 = S162.1 54 23 := hS180.1 23 (by decide)
            have e134 : S201h.1 54 22 = S188.1 54 22 := hS201h.1 22 (by decide)
            have e135 : S188.1 54 22 = S180.1 54 22 := hS188.1 22 (by decide)
            exact tX11_field_295 g1 g2 p1 p2 p3 (Ch.wk (Ch.tr (Ch.tr (Ch.tr (Ch.tr hS1c hS162) hS180) hS188) hS201h) (by decide) (by decide)) (by omega) (by omega) (by
                  intro x
                  have e136 : S201h.2 63 x = S188.2 63 x := congrFun (hS201h.2 63 (by decide)) _
                  have e137 : S188.2 63 x = S180.2 63 x := congrFun (hS188.2 63 (by decide)) _
                  have e138 : S180.2 63 x = S162.2 63 x := congrFun (hS180.2 63 (by decide)) _
                  have e139 : S162.2 63 x = S1c.2 63 x := congrFun (hS162.2 63 (by decide)) _
                  have e140 := c3 x
                  omega) (by omega) (by omega) (by omega) (by omega) (by omega) (by omega) hK
          · refine ⟨by omega, by omega, ?_⟩
            intro q141
            have e142 : S201h.2 65 (l3) = S188.2 65 (l3) := congrFun (hS201h.2 65 (by decide)) _
            have e143 : S188.2 65 (l3) = S180.2 65 (l3) := congrFun (hS188.2 65 (by decide)) _
            have e144 : S180.2 65 (l3) = S162.2 65 (l3) := congrFun (hS180.2 65 (by decide)) _
            have e145 : S162.2 65 (l3) = S1c.2 65 (l3) := congrFun (hS162.2 65 (by decide)) _
            refine ⟨fun h282 => ?_, fun h282 => ?_⟩
            · unfold wX11_field_294
              have e146 : S201h.1 54 22 = S188.1 54 22 := hS201h.1 22 (by decide)
              have e147 : S188.1 54 22 = S180.1 54 22 := hS188.1 22 (by decide)
              have e148 : S201h.2 63 (6 + (4 * a1 + a2)) = S188.2 63 (6 + (4 * a1 + a2)) := congrFun (hS201h.2 63 (by decide)) _
              have e149 : S188.2 63 (6 + (4 * a1 + a2)) = S180.2 63 (6 + (4 * a1 + a2)) := congrFun (hS188.2 63 (by decide)) _
              have e150 : S180.2 63 (6 + (4 * a1 + a2)) = S162.2 63 (6 + (4 * a1 + a2)) := congrFun (hS180.2 63 (by decide)) _
              have e151 : S162.2 63 (6 + (4 * a1 + a2)) = S1c.2 63 (6 + (4 * a1 + a2)) := congrFun (hS162.2 63 (by decide)) _
              have e152 := c3 (6 + (4 * a1 + a2))
              have e153 : S201h.1 54 23 = S188.1 54 23 := hS201h.1 23 (by decide)
              have e154 : S188.1 54 23 = S180.1 54 23 := hS188.1 23 (by decide)
              have e155 : S180.1 54 23 = S162.1 54 23 := hS180.1 23 (by decide)
              have e156 : S201h.1 54 23 = S188.1 54 23 := hS201h.1 23 (by decide)
              have e157 : S188.1 54 23 = S180.1 54 23 := hS188.1 23 (by decide)
              have e158 : S180.1 54 23 = S162.1 54 23 := hS180.1 23 (by decide)
              have e159 : S201h.1 54 22 = S188.1 54 22 := hS201h.1 22 (by decide)
              have e160 : S188.1 54 22 = S180.1 54 22 := hS188.1 22 (by decide)
              exact tX11_field_295 g1 g2 p1 p2 p3 (Ch.wk (Ch.tr (Ch.tr (Ch.tr (Ch.tr hS1c hS162) hS180) hS188) hS201h) (by decide) (by decide)) (by omega) (by omega) (by
                    intro x
                    have e161 : S201h.2 63 x = S188.2 63 x := congrFun (hS201h.2 63 (by decide)) _
                    have e162 : S188.2 63 x = S180.2 63 x := congrFun (hS188.2 63 (by decide)) _
                    have e163 : S180.2 63 x = S162.2 63 x := congrFun (hS180.2 63 (by decide)) _
                    have e164 : S162.2 63 x = S1c.2 63 x := congrFun (hS162.2 63 (by decide)) _
                    have e165 := c3 x
                    omega) (by omega) (by omega) (by omega) (by omega) (by omega) (by omega) hK
            · refine ⟨by omega, ?_⟩
              refine ⟨fun h287 => ?_, fun h287 => ?_⟩
              · unfold wX11_field_294
                have e166 : S201h.1 54 22 = S188.1 54 22 := hS201h.1 22 (by decide)
                have e167 : S188.1 54 22 = S180.1 54 22 := hS188.1 22 (by decide)
                have e168 : S201h.2 63 (6 + (4 * a1 + a2)) = S188.2 63 (6 + (4 * a1 + a2)) := congrFun (hS201h.2 63 (by decide)) _
                have e169 : S188.2 63 (6 + (4 * a1 + a2)) = S180.2 63 (6 + (4 * a1 + a2)) := congrFun (hS188.2 63 (by decide)) _
                have e170 : S180.2 63 (6 + (4 * a1 + a2)) = S162.2 63 (6 + (4 * a1 + a2)) := congrFun (hS180.2 63 (by decide)) _
                have e171 : S162.2 63 (6 + (4 * a1 + a2)) = S1c.2 63 (6 + (4 * a1 + a2)) := congrFun (hS162.2 63 (by decide)) _
                have e172 := c3 (6 + (4 * a1 + a2))
                have e173 : S201h.1 54 23 = S188.1 54 23 := hS201h.1 23 (by decide)
                have e174 : S188.1 54 23 = S180.1 54 23 := hS188.1 23 (by decide)
                have e175 : S180.1 54 23 = S162.1 54 23 := hS180.1 23 (by decide)
                have e176 : S201h.1 54 23 = S188.1 54 23 := hS201h.1 23 (by decide)
                have e177 : S188.1 54 23 = S180.1 54 23 := hS188.1 23 (by decide)
                have e178 : S180.1 54 23 = S162.1 54 23 := hS180.1 23 (by decide)
                have e179 : S201h.1 54 22 = S188.1 54 22 := hS201h.1 22 (by decide)
                have e180 : S188.1 54 22 = S180.1 54 22 := hS188.1 22 (by decide)
                exact tX11_field_295 g1 g2 p1 p2 p3 (Ch.wk (Ch.tr (Ch.tr (Ch.tr (Ch.tr hS1c hS162) hS180) hS188) hS201h) (by decide) (by decide)) (by omega) (by omega) (by
                      intro x
                      have e181 : S201h.2 63 x = S188.2 63 x := congrFun (hS201h.2 63 (by decide)) _
                      have e182 : S188.2 63 x = S180.2 63 x := congrFun (hS188.2 63 (by decide)) _
                      have e183 : S180.2 63 x = S162.2 63 x := congrFun (hS180.2 63 (by decide)) _
                      have e184 : S162.2 63 x = S1c.2 63 x := congrFun (hS162.2 63 (by decide)) _
                      have e185 := c3 x
                      omega) (by omega) (by omega) (by omega) (by omega) (by omega) (by omega) hK
              · unfold wX11_field_290
                have e186 : S201h.1 54 22 = S188.1 54 22 := hS201h.1 22 (by decide)
                have e187 : S188.1 54 22 = S180.1 54 22 := hS188.1 22 (by decide)
                have e188 : S201h.2 63 (6 + (4 * a1 + a2)) = S188.2 63 (6 + (4 * a1 + a2)) := congrFun (hS201h.2 63 (by decide)) _
                have e189 : S188.2 63 (6 + (4 * a1 + a2)) = S180.2 63 (6 + (4 * a1 + a2)) := congrFun (hS188.2 63 (by decide)) _
                have e190 : S180.2 63 (6 + (4 * a1 + a2)) = S162.2 63 (6 + (4 * a1 + a2)) := congrFun (hS180.2 63 (by decide)) _
                have e191 : S162.2 63 (6 + (4 * a1 + a2)) = S1c.2 63 (6 + (4 * a1 + a2)) := congrFun (hS162.2 63 (by decide)) _
                have e192 := c3 (6 + (4 * a1 + a2))
                have e193 : S201h.1 54 23 = S188.1 54 23 := hS201h.1 23 (by decide)
                have e194 : S188.1 54 23 = S180.1 54 23 := hS188.1 23 (by decide)
                have e195 : S180.1 54 23 = S162.1 54 23 := hS180.1 23 (by decide)
                have e196 : S201h.1 54 23 = S188.1 54 23 := hS201h.1 23 (by decide)
                have e197 : S188.1 54 23 = S180.1 54 23 := hS188.1 23 (by decide)
                have e198 : S180.1 54 23 = S162.1 54 23 := hS180.1 23 (by decide)
                have e199 : S201h.1 54 22 = S188.1 54 22 := hS201h.1 22 (by decide)
                have e200 : S188.1 54 22 = S180.1 54 22 := hS188.1 22 (by decide)
                exact tX11_field_295 g1 g2 p1 p2 p3 (Ch.wk (Ch.tr (Ch.tr (Ch.tr (Ch.tr hS1c hS162) hS180) hS188) hS201h) (by decide) (by decide)) (by omega) (by omega) (by
                      intro x
                      have e201 : S201h.2 63 x = S188.2 63 x := congrFun (hS201h.2 63 (by decide)) _
                      have e202 : S188.2 63 x = S180.2 63 x := congrFun (hS188.2 63 (by decide)) _
                      have e203 : S180.2 63 x = S162.2 63 x := congrFun (hS180.2 63 (by decide)) _
                      have e204 : S162.2 63 x = S1c.2 63 x := congrFun (hS162.2 63 (by decide)) _
                      have e205 := c3 x
                      omega) (by omega) (by omega) (by omega) (by omega) (by omega) (by omega) hK
    · refine ⟨by omega, ?_⟩
      refine ⟨fun h209 => ?_, fun h209 => ?_⟩
      · unfold wX11_field_233
        unfold wX11_field_238
        exact ⟨⟨(Ch.wk hS201h (by decide) (by decide)), rfl, rfl, by omega, by omega, by omega⟩, show (24 - ((v201_6 + 1))).toNat < (24 - v201_6).toNat by omega⟩
      · refine ⟨by omega, by omega, ?_⟩
        intro q206
        have e207 : S201h.2 65 (v201_6) = S188.2 65 (v201_6) := congrFun (hS201h.2 65 (by decide)) _
        have e208 : S188.2 65 (v201_6) = S180.2 65 (v201_6) := congrFun (hS188.2 65 (by decide)) _
        have e209 : S180.2 65 (v201_6) = S162.2 65 (v201_6) := congrFun (hS180.2 65 (by decide)) _
        have e210 : S162.2 65 (v201_6) = S1c.2 65 (v201_6) := congrFun (hS162.2 65 (by decide)) _
        refine ⟨fun h220 => ?_, fun h220 => ?_⟩
        · unfold wX11_field_237
          unfold wX11_field_238
          exact ⟨⟨(Ch.wk hS201h (by decide) (by decide)), rfl, rfl, by omega, by omega, by omega⟩, show (24 - ((v201_6 + 1))).toNat < (24 - v201_6).toNat by omega⟩
        · refine ⟨by omega, by omega, ?_⟩
          intro q211
          have e212 : S201h.2 66 (v201_6) = S188.2 66 (v201_6) := congrFun (hS201h.2 66 (by decide)) _
          have e213 : S188.2 66 (v201_6) = S180.2 66 (v201_6) := congrFun (hS188.2 66 (by decide)) _
          have e214 : S180.2 66 (v201_6) = S162.2 66 (v201_6) := congrFun (hS180.2 66 (by decide)) _
          have e215 : S162.2 66 (v201_6) = S1c.2 66 (v201_6) := congrFun (hS162.2 66 (by decide)) _
          refine ⟨fun h230 => ?_, fun h230 => ?_⟩
          · unfold wX11_field_237
            unfold wX11_field_238
            exact ⟨⟨(Ch.wk hS201h (by decide) (by decide)), rfl, rfl, by omega, by omega, by omega⟩, show (24 - ((v201_6 + 1))).toNat < (24 - v201_6).toNat by omega⟩
          · unfold wX11_field_233
            unfold wX11_field_238
            exact ⟨⟨(Ch.wk hS201h (by decide) (by decide)), rfl, rfl, by omega, by omega, by omega⟩, show (24 - ((v201_6 + 1))).toNat < (24 - v201_6).toNat by omega⟩
  · have e218 : S162.1 54 22 = S1c.1 54 22 := hS162.1 22 (by decide)
    exact hK (0) S162 (Ch.wk (Ch.tr hS1c hS162) (by decide) (by decide)) (by omega) (by omega) (by
          intro x
          have e216 : S162.2 63 x = S1c.2 63 x := congrFun (hS162.2 63 (by decide)) _
          have e217 := c3 x
          omega) (by omega)
set_option maxRecDepth 100000 in
set_option maxHeartbeats 4000000 in
theorem tX11_field_127 {a1 a2 l1 l3 l4 s0 s1 : Int} {S S1c : St} {K : Int → St → Prop} (g1 : rng a1) (g2 : rng a2) (p1 : iv 0 5 a1) (p2 : iv 0 3 a2) (p3 : (S.1 54 22) ≤ (S.1 54 0)) (hS1c : Ch [22, 23, 24] [63, 64, 65, 66] S S1c) (c1 : (S1c.1 54 22) ≤ (S.1 54 0)) (c2 : 1 ≤ (S1c.2 63) (6 + (4 * a1 + a2))) (c3 : ∀ x, x = (6 + (4 * a1 + a2)) ∨ (S1c.2 63) x = (S.2 63) x) (c4 : (S1c.1 54 23) = (S.1 54 23) ∨ (S1c.1 54 23) = 1) (c5 : (S.1 54 23) = 0 ∨ (S1c.1 54 23) = 1) (c6 : a1 = l1) (c7 : 4 * a1 + a2 = l3) (c8 : 4 * a1 + a2 = s1) (c9 : iv 0 3 s0) (c10 : rng l4) (c11 : l4 = 0 ∨ (S1c.1 54 22) < (S.1 54 0)) (hK : ∀ (r : Int) (S' : St), Ch [22, 23, 24] [63, 64, 65, 66] S S' → ((S'.1 54 22) ≤ (S.1 54 0)) → ((S'.1 54 23) = 1 ∨ 1 ≤ (S'.2 63) (6 + (4 * a1 + a2))) → (∀ x, x = (6 + (4 * a1 + a2)) ∨ (S'.2 63) x = (S.2 63) x) → ((S'.1 54 23) = 1 ∨ (S'.1 54 23) = (S.1 54 23)) → K r S') : wX11_field_127 l1 l3 l4 s0 s1 S1c K := by
  unfold wX11_field_127
  refine ⟨by omega, by omega, ?_⟩
  refine ⟨by omega, ?_⟩
  intro S127 hS127e
  have hS127 : Ch [] [65] S1c S127 := Ch_A hS127e
  have hS127v : ∀ x, S127.2 65 x = if x = s1 then s0 else S1c.2 65 x := pA_at hS127e
  refine ⟨by omega, ?_⟩
  refine ⟨fun h133 => ?_, fun h133 => ?_⟩
  · unfold wX11_field_157
    have e1 : S127.1 54 22 = S1c.1 54 22 := hS127.1 22 (by decide)
    have e2 : S127.2 63 (6 + (4 * a1 + a2)) = S1c.2 63 (6 + (4 * a1 + a2)) := congrFun (hS127.2 63 (by decide)) _
    have e3 := c3 (6 + (4 * a1 + a2))
    have e4 : S127.1 54 23 = S1c.1 54 23 := hS127.1 23 (by decide)
    have e5 : S127.1 54 23 = S1c.1 54 23 := hS127.1 23 (by decide)
    have e6 : S127.1 54 22 = S1c.1 54 22 := hS127.1 22 (by decide)
    exact tX11_field_162 g1 g2 p1 p2 p3 (Ch.wk (Ch.tr hS1c hS127) (by decide) (by decide)) (by omega) (by omega) (by
          intro x
          have e7 : S127.2 63 x = S1c.2 63 x := congrFun (hS127.2 63 (by decide)) _
          have e8 := c3 x
          omega) (by omega) (by omega) (by omega) (by omega) (by omega) (by omega) hK
  · refine ⟨fun h140 => ?_, fun h140 => ?_⟩
    · unfold wX11_field_157
      have e9 : S127.1 54 22 = S1c.1 54 22 := hS127.1 22 (by decide)
      have e10 : S127.2 63 (6 + (4 * a1 + a2)) = S1c.2 63 (6 + (4 * a1 + a2)) := congrFun (hS127.2 63 (by decide)) _
      have e11 := c3 (6 + (4 * a1 + a2))
      have e12 : S127.1 54 23 = S1c.1 54 23 := hS127.1 23 (by decide)
      have e13 : S127.1 54 23 = S1c.1 54 23 := hS127.1 23 (by decide)
      have e14 : S127.1 54 22 = S1c.1 54 22 := hS127.1 22 (by decide)
      exact tX11_field_162 g1 g2 p1 p2 p3 (Ch.wk (Ch.tr hS1c hS127) (by decide) (by decide)) (by omega) (by omega) (by
            intro x
            have e15 : S127.2 63 x = S1c.2 63 x := congrFun (hS127.2 63 (by decide)) _
            have e16 := c3 x
            omega) (by omega) (by omega) (by omega) (by omega) (by omega) (by omega) hK
    · refine ⟨fun h147 => ?_, fun h147 => ?_⟩
      · unfold wX11_field_157
        have e17 : S127.1 54 22 = S1c.1 54 22 := hS127.1 22 (by decide)
        have e18 : S127.2 63 (6 + (4 * a1 + a2)) = S1c.2 63 (6 + (4 * a1 + a2)) := congrFun (hS127.2 63 (by decide)) _
        have e19 := c3 (6 + (4 * a1 + a2))
        have e20 : S127.1 54 23 = S1c.1 54 23 := hS127.1 23 (by decide)
        have e21 : S127.1 54 23 = S1c.1 54 23 := hS127.1 23 (by decide)
        have e22 : S127.1 54 22 = S1c.1 54 22 := hS127.1 22 (by decide)
        exact tX11_field_162 g1 g2 p1 p2 p3 (Ch.wk (Ch.tr hS1c hS127) (by decide) (by decide)) (by omega) (by omega) (by
              intro x
              have e23 : S127.2 63 x = S1c.2 63 x := congrFun (hS127.2 63 (by decide)) _
              have e24 := c3 x
              omega) (by omega) (by omega) (by omega) (by omega) (by omega) (by omega) hK
      · refine ⟨fun h154 => ?_, fun h154 => ?_⟩
        · have e25 : S127.1 54 22 = S1c.1 54 22 := hS127.1 22 (by decide)
          have e26 : S127.2 63 (6 + (4 * a1 + a2)) = S1c.2 63 (6 + (4 * a1 + a2)) := congrFun (hS127.2 63 (by decide)) _
          have e27 := c3 (6 + (4 * a1 + a2))
          have e28 : S127.1 54 23 = S1c.1 54 23 := hS127.1 23 (by decide)
          have e29 : S127.1 54 23 = S1c.1 54 23 := hS127.1 23 (by decide)
          have e30 : S127.1 54 22 = S1c.1 54 22 := hS127.1 22 (by decide)
          exact tX11_field_162 g1 g2 p1 p2 p3 (Ch.wk (Ch.tr hS1c hS127) (by decide) (by decide)) (by omega) (by omega) (by
                intro x
                have e31 : S127.2 63 x = S1c.2 63 x := congrFun (hS127.2 63 (by decide)) _
                have e32 := c3 x
                omega) (by omega) (by omega) (by omega) (by omega) (by omega) (by omega) hK
        · unfold wX11_field_157
          have e33 : S127.1 54 22 = S1c.1 54 22 := hS127.1 22 (by decide)
          have e34 : S127.2 63 (6 + (4 * a1 + a2)) = S1c.2 63 (6 + (4 * a1 + a2)) := congrFun (hS127.2 63 (by decide)) _
          have e35 := c3 (6 + (4 * a1 + a2))
          have e36 : S127.1 54 23 = S1c.1 54 23 := hS127.1 23 (by decide)
          have e37 : S127.1 54 23 = S1c.1 54 23 := hS127.1 23 (by decide)
          have e38 : S127.1 54 22 = S1c.1 54 22 := hS127.1 22 (by decide)
          exact tX11_field_162 g1 g2 p1 p2 p3 (Ch.wk (Ch.tr hS1c hS127) (by decide) (by decide)) (by omega) (by omega) (by
                intro x
                have e39 : S127.2 63 x = S1c.2 63 x := congrFun (hS127.2 63 (by decide)) _
                have e40 := c3 x
                omega) (by omega) (by omega) (by omega) (by omega) (by omega) (by omega) hK
set_option maxRecDepth 100000 in
set_option maxHeartbeats 4000000 in
theorem tX11_field_69 {a1 a2 l1 l3 s0 : Int} {S S1c : St} {K : Int → St → Prop} (g1 : rng a1) (g2 : rng a2) (p1 : iv 0 5 a1) (p2 : iv 0 3 a2) (p3 : (S.1 54 22) ≤ (S.1 54 0)) (hS1c : Ch [22, 23, 24] [63, 64, 65, 66] S S1c) (c1 : (S1c.1 54 22) ≤ (S.1 54 0)) (c2 : 1 ≤ (S1c.2 63) (6 + (4 * a1 + a2))) (c3 : ∀ x, x = (6 + (4 * a1 + a2)) ∨ (S1c.2 63) x = (S.2 63) x) (c4 : (S1c.1 54 23) = (S.1 54 23) ∨ (S1c.1 54 23) = 1) (c5 : (S.1 54 23) = 0 ∨ (S1c.1 54 23) = 1) (c6 : a1 = l1) (c7 : 4 * a1 + a2 = l3) (c8 : iv 0 1 s0) (hK : ∀ (r : Int) (S' : St), Ch [22, 23, 24] [63, 64, 65, 66] S S' → ((S'.1 54 22) ≤ (S.1 54 0)) → ((S'.1 54 23) = 1 ∨ 1 ≤ (S'.2 63) (6 + (4 * a1 + a2))) → (∀ x, x = (6 + (4 * a1 + a2)) ∨ (S'.2 63) x = (S.2 63) x) → ((S'.1 54 23) = 1 ∨ (S'.1 54 23) = (S.1 54 23)) → K r S') : wX11_field_69 l1 l3 s0 S1c K := by
  unfold wX11_field_69
  refine ⟨by omega, ?_⟩
  intro S69 hS69e
  have hS69 : Ch [24] [] S1c S69 := Ch_I hS69e
  have hS69v : S69.1 54 24 = s0 := pI_at hS69e
  have e1 : S69.1 54 22 = S1c.1 54 22 := hS69.1 22 (by decide)
  have e2 : S69.1 54 0 = S1c.1 54 0 := hS69.1 0 (by decide)
  have e3 : S1c.1 54 0 = S.1 54 0 := hS1c.1 0 (by decide)
  have e4 : S69.1 54 0 = S1c.1 54 0 := hS69.1 0 (by decide)
  have e5 : S1c.1 54 0 = S.1 54 0 := hS1c.1 0 (by decide)
  have e6 : S69.1 54 23 = S1c.1 54 23 := hS69.1 23 (by decide)
  refine tX11_eat (by omega) (by omega) (fun r75 S75 hS75 n75_0 n75_1 => ?_)
  intro q7
  have e8 : S75.1 54 0 = S69.1 54 0 := hS75.1 0 (by decide)
  have e9 : S69.1 54 0 = S1c.1 54 0 := hS69.1 0 (by decide)
  have e10 : S1c.1 54 0 = S.1 54 0 := hS1c.1 0 (by decide)
  have e11 : S75.2 55 (S75.1 54 22) = S69.2 55 (S75.1 54 22) := congrFun (hS75.2 55 (by decide)) _
  have e12 : S69.2 55 (S75.1 54 22) = S1c.2 55 (S75.1 54 22) := congrFun (hS69.2 55 (by decide)) _
  have e13 : S1c.2 55 (S75.1 54 22) = S.2 55 (S75.1 54 22) := congrFun (hS1c.2 55 (by decide)) _
  refine tX11_signAt (by omega) (fun r83 S83 hS83 n83_0 n83_1 => ?_)
  refine ⟨by omega, ?_⟩
  refine ⟨fun h97 => ?_, fun h97 => ?_⟩
  · refine ⟨fun h108 => ?_, fun h108 => ?_⟩
    · refine ⟨fun h119 => ?_, fun h119 => ?_⟩
      · have e14 : S83.1 54 22 = S75.1 54 22 := hS83.1 22 (by decide)
        have e15 : S83.2 63 (6 + (4 * a1 + a2)) = S75.2 63 (6 + (4 * a1 + a2)) := congrFun (hS83.2 63 (by decide)) _
        have e16 : S75.2 63 (6 + (4 * a1 + a2)) = S69.2 63 (6 + (4 * a1 + a2)) := congrFun (hS75.2 63 (by decide)) _
        have e17 : S69.2 63 (6 + (4 * a1 + a2)) = S1c.2 63 (6 + (4 * a1 + a2)) := congrFun (hS69.2 63 (by decide)) _
        have e18 := c3 (6 + (4 * a1 + a2))
        have e19 : S83.1 54 23 = S75.1 54 23 := hS83.1 23 (by decide)
        have e20 : S83.1 54 23 = S75.1 54 23 := hS83.1 23 (by decide)
        have e21 : S83.1 54 22 = S75.1 54 22 := hS83.1 22 (by decide)
        exact tX11_field_127 g1 g2 p1 p2 p3 (Ch.wk (Ch.tr (Ch.tr (Ch.tr hS1c hS69) hS75) hS83) (by decide) (by decide)) (by omega) (by omega) (by
              intro x
              have e22 : S83.2 63 x = S75.2 63 x := congrFun (hS83.2 63 (by decide)) _
              have e23 : S75.2 63 x = S69.2 63 x := congrFun (hS75.2 63 (by decide)) _
              have e24 : S69.2 63 x = S1c.2 63 x := congrFun (hS69.2 63 (by decide)) _
              have e25 := c3 x
              omega) (by omega) (by omega) (by omega) (by omega) (by omega) (by omega) (by omega) (by omega) hK
      · have e26 : S83.1 54 22 = S75.1 54 22 := hS83.1 22 (by decide)
        have e27 : S83.2 63 (6 + (4 * a1 + a2)) = S75.2 63 (6 + (4 * a1 + a2)) := congrFun (hS83.2 63 (by decide)) _
        have e28 : S75.2 63 (6 + (4 * a1 + a2)) = S69.2 63 (6 + (4 * a1 + a2)) := congrFun (hS75.2 63 (by decide)) _
        have e29 : S69.2 63 (6 + (4 * a1 + a2)) = S1c.2 63 (6 + (4 * a1 + a2)) := congrFun (hS69.2 63 (by decide)) _
        have e30 := c3 (6 + (4 * a1 + a2))
        have e31 : S83.1 54 23 = S75.1 54 23 := hS83.1 23 (by decide)
        have e32 : S83.1 54 23 = S75.1 54 23 := hS83.1 23 (by decide)
        have e33 : S83.1 54 22 = S75.1 54 22 := hS83.1 22 (by decide)
        exact tX11_field_127 g1 g2 p1 p2 p3 (Ch.wk (Ch.tr (Ch.tr (Ch.tr hS1c hS69) hS75) hS83) (by decide) (by decide)) (by omega) (by omega) (by
              intro x
              have e34 : S83.2 63 x = S75.2 63 x := congrFun (hS83.2 63 (by decide)) _
              have e35 : S75.2 63 x = S69.2 63 x := congrFun (hS75.2 63 (by decide)) _
              have e36 : S69.2 63 x = S1c.2 63 x := congrFun (hS69.2 63 (by decide)) _
              have e37 := c3 x
              omega) (by omega) (by omega) (by omega) (by omega) (by omega) (by omega) (by omega) (by omega) hK
    · have e38 : S83.1 54 22 = S75.1 54 22 := hS83.1 22 (by decide)
      have e39 : S83.2 63 (6 + (4 * a1 + a2)) = S75.2 63 (6 + (4 * a1 + a2)) := congrFun (hS83.2 63 (by decide)) _
      have e40 : S75.2 63 (6 + (4 * a1 + a2)) = S69.2 63 (6 + (4 * a1 + a2)) := congrFun (hS75.2 63 (by decide)) _
      have e41 : S69.2 63 (6 + (4 * a1 + a2)) = S1c.2 63 (6 + (4 * a1 + a2)) := congrFun (hS69.2 63 (by decide)) _
      have e42 := c3 (6 + (4 * a1 + a2))
      have e43 : S83.1 54 23 = S75.1 54 23 := hS83.1 23 (by decide)
      have e44 : S83.1 54 23 = S75.1 54 23 := hS83.1 23 (by decide)
      have e45 : S83.1 54 22 = S75.1 54 22 := hS83.1 22 (by decide)
      exact tX11_field_127 g1 g2 p1 p2 p3 (Ch.wk (Ch.tr (Ch.tr (Ch.tr hS1c hS69) hS75) hS83) (by decide) (by decide)) (by omega) (by omega) (by
            intro x
            have e46 : S83.2 63 x = S75.2 63 x := congrFun (hS83.2 63 (by decide)) _
            have e47 : S75.2 63 x = S69.2 63 x := congrFun (hS75.2 63 (by decide)) _
            have e48 : S69.2 63 x = S1c.2 63 x := congrFun (hS69.2 63 (by decide)) _
            have e49 := c3 x
            omega) (by omega) (by omega) (by omega) (by omega) (by omega) (by omega) (by omega) (by omega) hK
  · have e50 : S83.1 54 22 = S75.1 54 22 := hS83.1 22 (by decide)
    have e51 : S83.2 63 (6 + (4 * a1 + a2)) = S75.2 63 (6 + (4 * a1 + a2)) := congrFun (hS83.2 63 (by decide)) _
    have e52 : S75.2 63 (6 + (4 * a1 + a2)) = S69.2 63 (6 + (4 * a1 + a2)) := congrFun (hS75.2 63 (by decide)) _
    have e53 : S69.2 63 (6 + (4 * a1 + a2)) = S1c.2 63 (6 + (4 * a1 + a2)) := congrFun (hS69.2 63 (by decide)) _
    have e54 := c3 (6 + (4 * a1 + a2))
    have e55 : S83.1 54 23 = S75.1 54 23 := hS83.1 23 (by decide)
    have e56 : S83.1 54 23 = S75.1 54 23 := hS83.1 23 (by decide)
    have e57 : S83.1 54 22 = S75.1 54 22 := hS83.1 22 (by decide)
    exact tX11_field_127 g1 g2 p1 p2 p3 (Ch.wk (Ch.tr (Ch.tr (Ch.tr hS1c hS69) hS75) hS83) (by decide) (by decide)) (by omega) (by omega) (by
          intro x
          have e58 : S83.2 63 x = S75.2 63 x := congrFun (hS83.2 63 (by decide)) _
          have e59 : S75.2 63 x = S69.2 63 x := congrFun (hS75.2 63 (by decide)) _
          have e60 : S69.2 63 x = S1c.2 63 x := congrFun (hS69.2 63 (by decide)) _
          have e61 := c3 x
          omega) (by omega) (by omega) (by omega) (by omega) (by omega) (by omega) (by omega) (by omega) hK
set_option maxRecDepth 100000 in
set_option maxHeartbeats 4000000 in
theorem tX11_field {a1 a2 : Int} {S : St} {K : Int → St → Prop} (p1 : iv 0 5 a1) (p2 : iv 0 3 a2) (p3 : (S.1 54 22) ≤ (S.1 54 0)) (hK : ∀ (r : Int) (S' : St), Ch [22, 23, 24] [63, 64, 65, 66] S S' → ((S'.1 54 22) ≤ (S.1 54 0)) → ((S'.1 54 23) = 1 ∨ 1 ≤ (S'.2 63) (6 + (4 * a1 + a2))) → (∀ x, x = (6 + (4 * a1 + a2)) ∨ (S'.2 63) x = (S.2 63) x) → ((S'.1 54 23) = 1 ∨ (S'.1 54 23) = (S.1 54 23)) → K r S') : wX11_field a1 a2 S K := by
  unfold wX11_field
  intro g1 g2
  intro x5 hx5
  subst hx5
  refine ⟨by omega, ?_⟩
  refine ⟨by omega, ?_⟩
  refine tX11_name (by omega) (by omega) (by omega) (by omega) (fun r21 S21 hS21 n21_0 n21_1 n21_2 n21_3 => ?_)
  intro q1
  refine ⟨fun h28 => ?_, fun h28 => ?_⟩
  · intro q2
    refine ⟨fun h37 => ?_, fun h37 => ?_⟩
    · unfold wX11_field_64
      have e3 := n21_2 (6 + (4 * a1 + a2))
      exact tX11_field_69 g1 g2 p1 p2 p3 (Ch.wk hS21 (by decide) (by decide)) (by omega) (by omega) (by
            intro x
            have e4 := n21_2 x
            omega) (by omega) (by omega) (by omega) (by omega) (by omega) hK
    · refine tX11_isWord (by omega) (by omega) (fun r46 S46 hS46 n46_0 => ?_)
      refine ⟨by omega, ?_⟩
      refine ⟨fun h49 => ?_, fun h49 => ?_⟩
      · unfold wX11_field_64
        have e5 : S46.1 54 22 = S21.1 54 22 := hS46.1 22 (by decide)
        have e6 : S46.2 63 (6 + (4 * a1 + a2)) = S21.2 63 (6 + (4 * a1 + a2)) := congrFun (hS46.2 63 (by decide)) _
        have e7 := n21_2 (6 + (4 * a1 + a2))
        have e8 : S46.1 54 23 = S21.1 54 23 := hS46.1 23 (by decide)
        have e9 : S46.1 54 23 = S21.1 54 23 := hS46.1 23 (by decide)
        exact tX11_field_69 g1 g2 p1 p2 p3 (Ch.wk (Ch.tr hS21 hS46) (by decide) (by decide)) (by omega) (by omega) (by
              intro x
              have e10 : S46.2 63 x = S21.2 63 x := congrFun (hS46.2 63 (by decide)) _
              have e11 := n21_2 x
              omega) (by omega) (by omega) (by omega) (by omega) (by omega) hK
      · refine tX11_isWord (by omega) (by omega) (fun r58 S58 hS58 n58_0 => ?_)
        refine ⟨by omega, ?_⟩
        refine ⟨fun h61 => ?_, fun h61 => ?_⟩
        · have e12 : S58.1 54 22 = S46.1 54 22 := hS58.1 22 (by decide)
          have e13 : S46.1 54 22 = S21.1 54 22 := hS46.1 22 (by decide)
          have e14 : S58.2 63 (6 + (4 * a1 + a2)) = S46.2 63 (6 + (4 * a1 + a2)) := congrFun (hS58.2 63 (by decide)) _
          have e15 : S46.2 63 (6 + (4 * a1 + a2)) = S21.2 63 (6 + (4 * a1 + a2)) := congrFun (hS46.2 63 (by decide)) _
          have e16 := n21_2 (6 + (4 * a1 + a2))
          have e17 : S58.1 54 23 = S46.1 54 23 := hS58.1 23 (by decide)
          have e18 : S46.1 54 23 = S21.1 54 23 := hS46.1 23 (by decide)
          have e19 : S58.1 54 23 = S46.1 54 23 := hS58.1 23 (by decide)
          have e20 : S46.1 54 23 = S21.1 54 23 := hS46.1 23 (by decide)
          exact tX11_field_69 g1 g2 p1 p2 p3 (Ch.wk (Ch.tr (Ch.tr hS21 hS46) hS58) (by decide) (by decide)) (by omega) (by omega) (by
                intro x
                have e21 : S58.2 63 x = S46.2 63 x := congrFun (hS58.2 63 (by decide)) _
                have e22 : S46.2 63 x = S21.2 63 x := congrFun (hS46.2 63 (by decide)) _
                have e23 := n21_2 x
                omega) (by omega) (by omega) (by omega) (by omega) (by omega) hK
        · unfold wX11_field_64
          have e24 : S58.1 54 22 = S46.1 54 22 := hS58.1 22 (by decide)
          have e25 : S46.1 54 22 = S21.1 54 22 := hS46.1 22 (by decide)
          have e26 : S58.2 63 (6 + (4 * a1 + a2)) = S46.2 63 (6 + (4 * a1 + a2)) := congrFun (hS58.2 63 (by decide)) _
          have e27 : S46.2 63 (6 + (4 * a1 + a2)) = S21.2 63 (6 + (4 * a1 + a2)) := congrFun (hS46.2 63 (by decide)) _
          have e28 := n21_2 (6 + (4 * a1 + a2))
          have e29 : S58.1 54 23 = S46.1 54 23 := hS58.1 23 (by decide)
          have e30 : S46.1 54 23 = S21.1 54 23 := hS46.1 23 (by decide)
          have e31 : S58.1 54 23 = S46.1 54 23 := hS58.1 23 (by decide)
          have e32 : S46.1 54 23 = S21.1 54 23 := hS46.1 23 (by decide)
          exact tX11_field_69 g1 g2 p1 p2 p3 (Ch.wk (Ch.tr (Ch.tr hS21 hS46) hS58) (by decide) (by decide)) (by omega) (by omega) (by
                intro x
                have e33 : S58.2 63 x = S46.2 63 x := congrFun (hS58.2 63 (by decide)) _
                have e34 : S46.2 63 x = S21.2 63 x := congrFun (hS46.2 63 (by decide)) _
                have e35 := n21_2 x
                omega) (by omega) (by omega) (by omega) (by omega) (by omega) hK
  · exact hK (0) S21 (Ch.wk hS21 (by decide) (by decide)) (by omega) (by omega) (by
          intro x
          have e36 := n21_2 x
          omega) (by omega)

set_option maxRecDepth 100000 in
set_option maxHeartbeats 4000000 in
theorem tX11_oneClass_54 {a1 l1 l2 : Int} {S S1c : St} {K : Int → St → Prop} (g1 : rng a1) (p1 : iv 0 5 a1) (p2 : (S.1 54 22) ≤ (S.1 54 0)) (p3 : (S.1 54 23) = 0) (hS1c : Ch [22, 23, 24] [62, 63, 64, 65, 66] S S1c) (c1 : a1 = l1) (c2 : iv 0 1 l2) (c3 : (S1c.1 54 22) ≤ (S.1 54 0)) (c4 : (S1c.2 62) a1 = 0) (c5 : (S1c.1 54 23) = 1 ∨ 1 ≤ (S1c.2 63) a1) (c6 : ∀ x, x = a1 ∨ (S1c.2 63) x = (S.2 63) x) (c7 : ∀ x, x = a1 ∨ (S1c.2 62) x = (S.2 62) x) (c8 : l2 = 0 ∨ (S1c.1 54 23) = 0) (hK : ∀ (r : Int) (S' : St), Ch [22, 23, 24] [62, 63, 64, 65, 66] S S' → ((S'.1 54 22) ≤ (S.1 54 0)) → ((S'.1 54 23) = 1 ∨ 1 ≤ (S'.2 63) a1) → (∀ x, (S'.1 54 23) = 1 ∨ x < 0 ∨ (S'.2 62) a1 ≤ x ∨ 1 ≤ (S'.2 63) (6 + (4 * a1 + x))) → (∀ x, x = a1 ∨ (6 + 4 * a1 ≤ x ∧ x ≤ 9 + 4 * a1) ∨ (S'.2 63) x = (S.2 63) x) → (∀ x, x = a1 ∨ (S'.2 62) x = (S.2 62) x) → K r S') : wX11_oneClass_54 l1 l2 S1c K := by
  unfold wX11_oneClass_54
  have e1 := c7 a1
  have e2 := c6 a1
  have e3 := c7 a1
  refine ⟨fun u1 u2 Sx => Ch [22, 23, 24] [62, 63, 64, 65, 66] S1c Sx ∧ l1 = u1 ∧ (iv 0 1 u2) ∧ ((Sx.1 54 22) ≤ (S.1 54 0)) ∧ (u2 = 0 ∨ (Sx.2 62) a1 ≤ 3) ∧ ((Sx.1 54 23) = 1 ∨ 1 ≤ (Sx.2 63) a1) ∧ (∀ x, (Sx.1 54 23) = 1 ∨ x < 0 ∨ (Sx.2 62) a1 ≤ x ∨ 1 ≤ (Sx.2 63) (6 + (4 * a1 + x))) ∧ (∀ x, x = a1 ∨ (6 + 4 * a1 ≤ x ∧ x ≤ 9 + 4 * a1) ∨ (Sx.2 63) x = (S1c.2 63) x) ∧ (∀ x, x = a1 ∨ (Sx.2 62) x = (S1c.2 62) x) ∧ (u2 = 0 ∨ (Sx.1 54 23) = 0), fun u1 u2 Sx => (5 - (Sx.2 62) a1).toNat, ?_, fun v54_1 v54_2 S54h hI => ?_⟩
  · exact ⟨Ch.re, rfl, by omega, by omega, by omega, by omega, (by
        intro x
        have e4 := c7 a1
        omega), (by
        intro x
        have e5 := c6 x
        omega), (by
        intro x
        have e6 := c7 x
        omega), by omega⟩
  obtain ⟨hS54h, rfl, i54_0, i54_1, i54_2, i54_3, i54_4, i54_5, i54_6, i54_7⟩ := hI
  unfold wX11_oneClass_54'
  refine ⟨by omega, ?_⟩
  refine ⟨fun h55 => ?_, fun h55 => ?_⟩
  · intro q7
    refine ⟨fun h143 => ?_, fun h143 => ?_⟩
    · exact hK (0) S54h (Ch.wk (Ch.tr hS1c hS54h) (by decide) (by decide)) (by omega) (by omega) (by
            intro x
            have e8 := i54_5 (6 + (4 * a1 + x))
            have e9 := c6 (6 + (4 * a1 + x))
            have e10 := i54_6 a1
            have e11 := c7 a1
            have e12 := i54_4 x
            omega) (by
            intro x
            have e13 := i54_5 x
            have e14 := c6 x
            omega) (by
            intro x
            have e15 := i54_6 x
            have e16 := c7 x
            omega)
    · have e17 : S54h.1 54 0 = S1c.1 54 0 := hS54h.1 0 (by decide)
      have e18 : S1c.1 54 0 = S.1 54 0 := hS1c.1 0 (by decide)
      have e19 : S54h.1 54 0 = S1c.1 54 0 := hS54h.1 0 (by decide)
      have e20 : S1c.1 54 0 = S.1 54 0 := hS1c.1 0 (by decide)
      refine tX11_eat (by omega) (by omega) (fun r149 S149 hS149 n149_0 n149_1 => ?_)
      exact hK (0) S149 (Ch.wk (Ch.tr (Ch.tr hS1c hS54h) hS149) (by decide) (by decide)) (by omega) (by omega) (by
            intro x
            have e21 : S149.2 63 (6 + (4 * a1 + x)) = S54h.2 63 (6 + (4 * a1 + x)) := congrFun (hS149.2 63 (by decide)) _
            have e22 := i54_5 (6 + (4 * a1 + x))
            have e23 := c6 (6 + (4 * a1 + x))
            have e24 : S149.2 62 a1 = S54h.2 62 a1 := congrFun (hS149.2 62 (by decide)) _
            have e25 := i54_6 a1
            have e26 := c7 a1
            have e27 := i54_4 x
            omega) (by
            intro x
            have e28 : S149.2 63 x = S54h.2 63 x := congrFun (hS149.2 63 (by decide)) _
            have e29 := i54_5 x
            have e30 := c6 x
            omega) (by
            intro x
            have e31 : S149.2 62 x = S54h.2 62 x := congrFun (hS149.2 62 (by decide)) _
            have e32 := i54_6 x
            have e33 := c7 x
            omega)
  · refine ⟨by omega, by omega, ?_⟩
    intro q34
    have e35 := i54_6 (l1)
    have e36 := c7 (l1)
    refine ⟨by omega, ?_⟩
    have e37 : S54h.1 54 0 = S1c.1 54 0 := hS54h.1 0 (by decide)
    have e38 : S1c.1 54 0 = S.1 54 0 := hS1c.1 0 (by decide)
    have e39 : S54h.1 54 0 = S1c.1 54 0 := hS54h.1 0 (by decide)
    have e40 : S1c.1 54 0 = S.1 54 0 := hS1c.1 0 (by decide)
    refine tX11_field (by omega) (by omega) (by omega) (fun r66 S66 hS66 n66_0 n66_1 n66_2 n66_3 => ?_)
    refine ⟨by omega, by omega, ?_⟩
    intro q41
    have e42 : S66.2 62 (l1) = S54h.2 62 (l1) := congrFun (hS66.2 62 (by decide)) _
    have e43 := i54_6 (l1)
    have e44 := c7 (l1)
    refine ⟨by omega, by omega, ?_⟩
    refine ⟨by omega, ?_⟩
    intro S78 hS78e
    have hS78 : Ch [] [62] S66 S78 := Ch_A hS78e
    have hS78v : ∀ x, S78.2 62 x = if x = l1 then (S66.2 62 (l1) + 1) else S66.2 62 x := pA_at hS78e
    intro q45
    have e46 : S78.1 54 23 = S66.1 54 23 := hS78.1 23 (by decide)
    refine ⟨fun h83 => ?_, fun h83 => ?_⟩
    · unfold wX11_oneClass_113
      unfold wX11_oneClass_114
      refine ⟨fun h117 => ?_, fun h117 => ?_⟩
      · intro q47
        have e48 : S78.1 54 22 = S66.1 54 22 := hS78.1 22 (by decide)
        unfold wX11_oneClass_133
        refine ⟨by omega, ?_⟩
        intro S133 hS133e
        have hS133 : Ch [22] [] S78 S133 := Ch_I hS133e
        have hS133v : S133.1 54 22 = S78.1 54 22 := pI_at hS133e
        have e49 : S133.2 62 a1 = S78.2 62 a1 := congrFun (hS133.2 62 (by decide)) _
        have e50 := hS78v a1
        have e51 : S66.2 62 a1 = S54h.2 62 a1 := congrFun (hS66.2 62 (by decide)) _
        have e52 := i54_6 a1
        have e53 := c7 a1
        have e54 : S133.1 54 23 = S78.1 54 23 := hS133.1 23 (by decide)
        have e55 : S78.1 54 23 = S66.1 54 23 := hS78.1 23 (by decide)
        have e56 : S133.2 63 a1 = S78.2 63 a1 := congrFun (hS133.2 63 (by decide)) _
        have e57 : S78.2 63 a1 = S66.2 63 a1 := congrFun (hS78.2 63 (by decide)) _
        have e58 := n66_2 a1
        have e59 := i54_5 a1
        have e60 := c6 a1
        have e61 : S133.1 54 23 = S78.1 54 23 := hS133.1 23 (by decide)
        have e62 : S78.1 54 23 = S66.1 54 23 := hS78.1 23 (by decide)
        have e63 : S133.2 62 a1 = S78.2 62 a1 := congrFun (hS133.2 62 (by decide)) _
        have e64 := hS78v a1
        have e65 : S66.2 62 a1 = S54h.2 62 a1 := congrFun (hS66.2 62 (by decide)) _
        have e66 := i54_6 a1
        have e67 := c7 a1
        have e68 : S133.1 54 23 = S78.1 54 23 := hS133.1 23 (by decide)
        have e69 : S78.1 54 23 = S66.1 54 23 := hS78.1 23 (by decide)
        have e70 : S133.2 62 a1 = S78.2 62 a1 := congrFun (hS133.2 62 (by decide)) _
        have e71 := hS78v a1
        have e72 : S66.2 62 a1 = S54h.2 62 a1 := congrFun (hS66.2 62 (by decide)) _
        have e73 := i54_6 a1
        have e74 := c7 a1
        exact ⟨⟨(Ch.wk (Ch.tr (Ch.tr (Ch.tr hS54h hS66) hS78) hS133) (by decide) (by decide)), rfl, by omega, by omega, by omega, by omega, (by
              intro x
              have e75 : S133.2 63 (6 + (4 * a1 + x)) = S78.2 63 (6 + (4 * a1 + x)) := congrFun (hS133.2 63 (by decide)) _
              have e76 : S78.2 63 (6 + (4 * a1 + x)) = S66.2 63 (6 + (4 * a1 + x)) := congrFun (hS78.2 63 (by decide)) _
              have e77 := n66_2 (6 + (4 * a1 + x))
              have e78 := i54_5 (6 + (4 * a1 + x))
              have e79 := c6 (6 + (4 * a1 + x))
              have e80 : S133.2 62 a1 = S78.2 62 a1 := congrFun (hS133.2 62 (by decide)) _
              have e81 := hS78v a1
              have e82 : S66.2 62 a1 = S54h.2 62 a1 := congrFun (hS66.2 62 (by decide)) _
              have e83 := i54_6 a1
              have e84 := c7 a1
              have e85 := i54_4 x
              omega), (by
              intro x
              have e86 : S133.2 63 x = S78.2 63 x := congrFun (hS133.2 63 (by decide)) _
              have e87 : S78.2 63 x = S66.2 63 x := congrFun (hS78.2 63 (by decide)) _
              have e88 := n66_2 x
              have e89 := i54_5 x
              have e90 := c6 x
              omega), (by
              intro x
              have e91 : S133.2 62 x = S78.2 62 x := congrFun (hS133.2 62 (by decide)) _
              have e92 := hS78v x
              have e93 : S66.2 62 x = S54h.2 62 x := congrFun (hS66.2 62 (by decide)) _
              have e94 := i54_6 x
              have e95 := c7 x
              omega), by omega⟩, show (5 - (S133.2 62) a1).toNat < (5 - (S54h.2 62) a1).toNat by omega⟩
      · intro q96
        have e97 : S78.1 54 22 = S66.1 54 22 := hS78.1 22 (by decide)
        unfold wX11_oneClass_133
        refine ⟨by omega, ?_⟩
        intro S133 hS133e
        have hS133 : Ch [22] [] S78 S133 := Ch_I hS133e
        have hS133v : S133.1 54 22 = (S78.1 54 22 + 1) := pI_at hS133e
        have e98 : S133.2 62 a1 = S78.2 62 a1 := congrFun (hS133.2 62 (by decide)) _
        have e99 := hS78v a1
        have e100 : S66.2 62 a1 = S54h.2 62 a1 := congrFun (hS66.2 62 (by decide)) _
        have e101 := i54_6 a1
        have e102 := c7 a1
        have e103 : S133.1 54 23 = S78.1 54 23 := hS133.1 23 (by decide)
        have e104 : S78.1 54 23 = S66.1 54 23 := hS78.1 23 (by decide)
        have e105 : S133.2 63 a1 = S78.2 63 a1 := congrFun (hS133.2 63 (by decide)) _
        have e106 : S78.2 63 a1 = S66.2 63 a1 := congrFun (hS78.2 63 (by decide)) _
        have e107 := n66_2 a1
        have e108 := i54_5 a1
        have e109 := c6 a1
        have e110 : S133.1 54 23 = S78.1 54 23 := hS133.1 23 (by decide)
        have e111 : S78.1 54 23 = S66.1 54 23 := hS78.1 23 (by decide)
        have e112 : S133.2 62 a1 = S78.2 62 a1 := congrFun (hS133.2 62 (by decide)) _
        have e113 := hS78v a1
        have e114 : S66.2 62 a1 = S54h.2 62 a1 := congrFun (hS66.2 62 (by decide)) _
        have e115 := i54_6 a1
        have e116 := c7 a1
        have e117 : S133.1 54 23 = S78.1 54 23 := hS133.1 23 (by decide)
        have e118 : S78.1 54 23 = S66.1 54 23 := hS78.1 23 (by decide)
        have e119 : S133.2 62 a1 = S78.2 62 a1 := congrFun (hS133.2 62 (by decide)) _
        have e120 := hS78v a1
        have e121 : S66.2 62 a1 = S54h.2 62 a1 := congrFun (hS66.2 62 (by decide)) _
        have e122 := i54_6 a1
        have e123 := c7 a1
        exact ⟨⟨(Ch.wk (Ch.tr (Ch.tr (Ch.tr hS54h hS66) hS78) hS133) (by decide) (by decide)), rfl, by omega, by omega, by omega, by omega, (by
              intro x
              have e124 : S133.2 63 (6 + (4 * a1 + x)) = S78.2 63 (6 + (4 * a1 + x)) := congrFun (hS133.2 63 (by decide)) _
              have e125 : S78.2 63 (6 + (4 * a1 + x)) = S66.2 63 (6 + (4 * a1 + x)) := congrFun (hS78.2 63 (by decide)) _
              have e126 := n66_2 (6 + (4 * a1 + x))
              have e127 := i54_5 (6 + (4 * a1 + x))
              have e128 := c6 (6 + (4 * a1 + x))
              have e129 : S133.2 62 a1 = S78.2 62 a1 := congrFun (hS133.2 62 (by decide)) _
              have e130 := hS78v a1
              have e131 : S66.2 62 a1 = S54h.2 62 a1 := congrFun (hS66.2 62 (by decide)) _
              have e132 := i54_6 a1
              have e133 := c7 a1
              have e134 := i54_4 x
              omega), (by
              intro x
              have e135 : S133.2 63 x = S78.2 63 x := congrFun (hS133.2 63 (by decide)) _
              have e136 : S78.2 63 x = S66.2 63 x := congrFun (hS78.2 63 (by decide)) _
              have e137 := n66_2 x
              have e138 := i54_5 x
              have e139 := c6 x
              omega), (by
              intro x
              have e140 : S133.2 62 x = S78.2 62 x := congrFun (hS133.2 62 (by decide)) _
              have e141 := hS78v x
              have e142 : S66.2 62 x = S54h.2 62 x := congrFun (hS66.2 62 (by decide)) _
              have e143 := i54_6 x
              have e144 := c7 x
              omega), by omega⟩, show (5 - (S133.2 62) a1).toNat < (5 - (S54h.2 62) a1).toNat by omega⟩
    · refine ⟨by omega, by omega, ?_⟩
      intro q145
      have e146 := hS78v (l1)
      have e147 : S66.2 62 (l1) = S54h.2 62 (l1) := congrFun (hS66.2 62 (by decide)) _
      have e148 := i54_6 (l1)
      have e149 := c7 (l1)
      refine ⟨fun h93 => ?_, fun h93 => ?_⟩
      · unfold wX11_oneClass_113
        unfold wX11_oneClass_114
        refine ⟨fun h117 => ?_, fun h117 => ?_⟩
        · intro q150
          have e151 : S78.1 54 22 = S66.1 54 22 := hS78.1 22 (by decide)
          unfold wX11_oneClass_133
          refine ⟨by omega, ?_⟩
          intro S133 hS133e
          have hS133 : Ch [22] [] S78 S133 := Ch_I hS133e
          have hS133v : S133.1 54 22 = S78.1 54 22 := pI_at hS133e
          have e152 : S133.2 62 a1 = S78.2 62 a1 := congrFun (hS133.2 62 (by decide)) _
          have e153 := hS78v a1
          have e154 : S66.2 62 a1 = S54h.2 62 a1 := congrFun (hS66.2 62 (by decide)) _
          have e155 := i54_6 a1
          have e156 := c7 a1
          have e157 : S133.1 54 23 = S78.1 54 23 := hS133.1 23 (by decide)
          have e158 : S78.1 54 23 = S66.1 54 23 := hS78.1 23 (by decide)
          have e159 : S133.2 63 a1 = S78.2 63 a1 := congrFun (hS133.2 63 (by decide)) _
          have e160 : S78.2 63 a1 = S66.2 63 a1 := congrFun (hS78.2 63 (by decide)) _
          have e161 := n66_2 a1
          have e162 := i54_5 a1
          have e163 := c6 a1
          have e164 : S133.1 54 23 = S78.1 54 23 := hS133.1 23 (by decide)
          have e165 : S78.1 54 23 = S66.1 54 23 := hS78.1 23 (by decide)
          have e166 : S133.2 62 a1 = S78.2 62 a1 := congrFun (hS133.2 62 (by decide)) _
          have e167 := hS78v a1
          have e168 : S66.2 62 a1 = S54h.2 62 a1 := congrFun (hS66.2 62 (by decide)) _
          have e169 := i54_6 a1
          have e170 := c7 a1
          have e171 : S133.1 54 23 = S78.1 54 23 := hS133.1 23 (by decide)
          have e172 : S78.1 54 23 = S66.1 54 23 := hS78.1 23 (by decide)
          have e173 : S133.2 62 a1 = S78.2 62 a1 := congrFun (hS133.2 62 (by decide)) _
          have e174 := hS78v a1
          have e175 : S66.2 62 a1 = S54h.2 62 a1 := congrFun (hS66.2 62 (by decide)) _
          have e176 := i54_6 a1
          have e177 := c7 a1
          exact ⟨⟨(Ch.wk (Ch.tr (Ch.tr (Ch.tr hS54h hS66) hS78) hS133) (by decide) (by decide)), rfl, by omega, by omega, by omega, by omega, (by
                intro x
                have e178 : S133.2 63 (6 + (4 * a1 + x)) = S78.2 63 (6 + (4 * a1 + x)) := congrFun (hS133.2 63 (by decide)) _
                have e179 : S78.2 63 (6 + (4 * a1 + x)) = S66.2 63 (6 + (4 * a1 + x)) := congrFun (hS78.2 63 (by decide)) _
                have e180 := n66_2 (6 + (4 * a1 + x))
                have e181 := i54_5 (6 + (4 * a1 + x))
                have e182 := c6 (6 + (4 * a1 + x))
                have e183 : S133.2 62 a1 = S78.2 62 a1 := congrFun (hS133.2 62 (by decide)) _
                have e184 := hS78v a1
                have e185 : S66.2 62 a1 = S54h.2 62 a1 := congrFun (hS66.2 62 (by decide)) _
                have e186 := i54_6 a1
                have e187 := c7 a1
                have e188 := i54_4 x
                omega), (by
                intro x
                have e189 : S133.2 63 x = S78.2 63 x := congrFun (hS133.2 63 (by decide)) _
                have e190 : S78.2 63 x = S66.2 63 x := congrFun (hS78.2 63 (by decide)) _
                have e191 := n66_2 x
                have e192 := i54_5 x
                have e193 := c6 x
                omega), (by
                intro x
                have e194 : S133.2 62 x = S78.2 62 x := congrFun (hS133.2 62 (by decide)) _
                have e195 := hS78v x
                have e196 : S66.2 62 x = S54h.2 62 x := congrFun (hS66.2 62 (by decide)) _
                have e197 := i54_6 x
                have e198 := c7 x
                omega), by omega⟩, show (5 - (S133.2 62) a1).toNat < (5 - (S54h.2 62) a1).toNat by omega⟩
        · intro q199
          have e200 : S78.1 54 22 = S66.1 54 22 := hS78.1 22 (by decide)
          unfold wX11_oneClass_133
          refine ⟨by omega, ?_⟩
          intro S133 hS133e
          have hS133 : Ch [22] [] S78 S133 := Ch_I hS133e
          have hS133v : S133.1 54 22 = (S78.1 54 22 + 1) := pI_at hS133e
          have e201 : S133.2 62 a1 = S78.2 62 a1 := congrFun (hS133.2 62 (by decide)) _
          have e202 := hS78v a1
          have e203 : S66.2 62 a1 = S54h.2 62 a1 := congrFun (hS66.2 62 (by decide)) _
          have e204 := i54_6 a1
          have e205 := c7 a1
          have e206 : S133.1 54 23 = S78.1 54 23 := hS133.1 23 (by decide)
          have e207 : S78.1 54 23 = S66.1 54 23 := hS78.1 23 (by decide)
          have e208 : S133.2 63 a1 = S78.2 63 a1 := congrFun (hS133.2 63 (by decide)) _
          have e209 : S78.2 63 a1 = S66.2 63 a1 := congrFun (hS78.2 63 (by decide)) _
          have e210 := n66_2 a1
          have e211 := i54_5 a1
          have e212 := c6 a1
          have e213 : S133.1 54 23 = S78.1 54 23 := hS133.1 23 (by decide)
          have e214 : S78.1 54 23 = S66.1 54 23 := hS78.1 23 (by decide)
          have e215 : S133.2 62 a1 = S78.2 62 a1 := congrFun (hS133.2 62 (by decide)) _
          have e216 := hS78v a1
          have e217 : S66.2 62 a1 = S54h.2 62 a1 := congrFun (hS66.2 62 (by decide)) _
          have e218 := i54_6 a1
          have e219 := c7 a1
          have e220 : S133.1 54 23 = S78.1 54 23 := hS133.1 23 (by decide)
          have e221 : S78.1 54 23 = S66.1 54 23 := hS78.1 23 (by decide)
          have e222 : S133.2 62 a1 = S78.2 62 a1 := congrFun (hS133.2 62 (by decide)) _
          have e223 := hS78v a1
          have e224 : S66.2 62 a1 = S54h.2 62 a1 := congrFun (hS66.2 62 (by decide)) _
          have e225 := i54_6 a1
          have e226 := c7 a1
          exact ⟨⟨(Ch.wk (Ch.tr (Ch.tr (Ch.tr hS54h hS66) hS78) hS133) (by decide) (by decide)), rfl, by omega, by omega, by omega, by omega, (by
                intro x
                have e227 : S133.2 63 (6 + (4 * a1 + x)) = S78.2 63 (6 + (4 * a1 + x)) := congrFun (hS133.2 63 (by decide)) _
                have e228 : S78.2 63 (6 + (4 * a1 + x)) = S66.2 63 (6 + (4 * a1 + x)) := congrFun (hS78.2 63 (by decide)) _
                have e229 := n66_2 (6 + (4 * a1 + x))
                have e230 := i54_5 (6 + (4 * a1 + x))
                have e231 := c6 (6 + (4 * a1 + x))
                have e232 : S133.2 62 a1 = S78.2 62 a1 := congrFun (hS133.2 62 (by decide)) _
                have e233 := hS78v a1
                have e234 : S66.2 62 a1 = S54h.2 62 a1 := congrFun (hS66.2 62 (by decide)) _
                have e235 := i54_6 a1
                have e236 := c7 a1
                have e237 := i54_4 x
                omega), (by
                intro x
                have e238 : S133.2 63 x = S78.2 63 x := congrFun (hS133.2 63 (by decide)) _
                have e239 : S78.2 63 x = S66.2 63 x := congrFun (hS78.2 63 (by decide)) _
                have e240 := n66_2 x
                have e241 := i54_5 x
                have e242 := c6 x
                omega), (by
                intro x
                have e243 : S133.2 62 x = S78.2 62 x := congrFun (hS133.2 62 (by decide)) _
                have e244 := hS78v x
                have e245 : S66.2 62 x = S54h.2 62 x := congrFun (hS66.2 62 (by decide)) _
                have e246 := i54_6 x
                have e247 := c7 x
                omega), by omega⟩, show (5 - (S133.2 62) a1).toNat < (5 - (S54h.2 62) a1).toNat by omega⟩
      · intro q248
        have e249 : S78.1 54 22 = S66.1 54 22 := hS78.1 22 (by decide)
        have e250 : S78.1 54 0 = S66.1 54 0 := hS78.1 0 (by decide)
        have e251 : S66.1 54 0 = S54h.1 54 0 := hS66.1 0 (by decide)
        have e252 : S54h.1 54 0 = S1c.1 54 0 := hS54h.1 0 (by decide)
        have e253 : S1c.1 54 0 = S.1 54 0 := hS1c.1 0 (by decide)
        have e254 : S78.2 55 (S78.1 54 22) = S66.2 55 (S78.1 54 22) := congrFun (hS78.2 55 (by decide)) _
        have e255 : S66.2 55 (S78.1 54 22) = S54h.2 55 (S78.1 54 22) := congrFun (hS66.2 55 (by decide)) _
        have e256 : S54h.2 55 (S78.1 54 22) = S1c.2 55 (S78.1 54 22) := congrFun (hS54h.2 55 (by decide)) _
        have e257 : S1c.2 55 (S78.1 54 22) = S.2 55 (S78.1 54 22) := congrFun (hS1c.2 55 (by decide)) _
        refine tX11_signAt (by omega) (fun r101 S101 hS101 n101_0 n101_1 => ?_)
        refine ⟨by omega, ?_⟩
        refine ⟨fun h106 => ?_, fun h106 => ?_⟩
        · unfold wX11_oneClass_113
          unfold wX11_oneClass_114
          refine ⟨fun h117 => ?_, fun h117 => ?_⟩
          · intro q258
            have e259 : S101.1 54 22 = S78.1 54 22 := hS101.1 22 (by decide)
            have e260 : S78.1 54 22 = S66.1 54 22 := hS78.1 22 (by decide)
            unfold wX11_oneClass_133
            refine ⟨by omega, ?_⟩
            intro S133 hS133e
            have hS133 : Ch [22] [] S101 S133 := Ch_I hS133e
            have hS133v : S133.1 54 22 = S101.1 54 22 := pI_at hS133e
            have e261 : S133.2 62 a1 = S101.2 62 a1 := congrFun (hS133.2 62 (by decide)) _
            have e262 : S101.2 62 a1 = S78.2 62 a1 := congrFun (hS101.2 62 (by decide)) _
            have e263 := hS78v a1
            have e264 : S66.2 62 a1 = S54h.2 62 a1 := congrFun (hS66.2 62 (by decide)) _
            have e265 := i54_6 a1
            have e266 := c7 a1
            have e267 : S133.1 54 23 = S101.1 54 23 := hS133.1 23 (by decide)
            have e268 : S101.1 54 23 = S78.1 54 23 := hS101.1 23 (by decide)
            have e269 : S78.1 54 23 = S66.1 54 23 := hS78.1 23 (by decide)
            have e270 : S133.2 63 a1 = S101.2 63 a1 := congrFun (hS133.2 63 (by decide)) _
            have e271 : S101.2 63 a1 = S78.2 63 a1 := congrFun (hS101.2 63 (by decide)) _
            have e272 : S78.2 63 a1 = S66.2 63 a1 := congrFun (hS78.2 63 (by decide)) _
            have e273 := n66_2 a1
            have e274 := i54_5 a1
            have e275 := c6 a1
            have e276 : S133.1 54 23 = S101.1 54 23 := hS133.1 23 (by decide)
            have e277 : S101.1 54 23 = S78.1 54 23 := hS101.1 23 (by decide)
            have e278 : S78.1 54 23 = S66.1 54 23 := hS78.1 23 (by decide)
            have e279 : S133.2 62 a1 = S101.2 62 a1 := congrFun (hS133.2 62 (by decide)) _
            have e280 : S101.2 62 a1 = S78.2 62 a1 := congrFun (hS101.2 62 (by decide)) _
            have e281 := hS78v a1
            have e282 : S66.2 62 a1 = S54h.2 62 a1 := congrFun (hS66.2 62 (by decide)) _
            have e283 := i54_6 a1
            have e284 := c7 a1
            have e285 : S133.1 54 23 = S101.1 54 23 := hS133.1 23 (by decide)
            have e286 : S101.1 54 23 = S78.1 54 23 := hS101.1 23 (by decide)
            have e287 : S78.1 54 23 = S66.1 54 23 := hS78.1 23 (by decide)
            have e288 : S133.2 62 a1 = S101.2 62 a1 := congrFun (hS133.2 62 (by decide)) _
            have e289 : S101.2 62 a1 = S78.2 62 a1 := congrFun (hS101.2 62 (by decide)) _
            have e290 := hS78v a1
            have e291 : S66.2 62 a1 = S54h.2 62 a1 := congrFun (hS66.2 62 (by decide)) _
            have e292 := i54_6 a1
            have e293 := c7 a1
            exact ⟨⟨(Ch.wk (Ch.tr (Ch.tr (Ch.tr (Ch.tr hS54h hS66) hS78) hS101) hS133) (by decide) (by decide)), rfl, by omega, by omega, by omega, by omega, (by
                  intro x
                  have e294 : S133.2 63 (6 + (4 * a1 + x)) = S101.2 63 (6 + (4 * a1 + x)) := congrFun (hS133.2 63 (by decide)) _
                  have e295 : S101.2 63 (6 + (4 * a1 + x)) = S78.2 63 (6 + (4 * a1 + x)) := congrFun (hS101.2 63 (by decide)) _
                  have e296 : S78.2 63 (6 + (4 * a1 + x)) = S66.2 63 (6 + (4 * a1 + x)) := congrFun (hS78.2 63 (by decide)) _
                  have e297 := n66_2 (6 + (4 * a1 + x))
                  have e298 := i54_5 (6 + (4 * a1 + x))
                  have e299 := c6 (6 + (4 * a1 + x))
                  have e300 : S133.2 62 a1 = S101.2 62 a1 := congrFun (hS133.2 62 (by decide)) _
                  have e301 : S101.2 62 a1 = S78.2 62 a1 := congrFun (hS101.2 62 (by decide)) _
                  have e302 := hS78v a1
                  have e303 : S66.2 62 a1 = S54h.2 62 a1 := congrFun (hS66.2 62 (by decide)) _
                  have e304 := i54_6 a1
                  have e305 := c7 a1
                  have e306 := i54_4 x
                  omega), (by
                  intro x
                  have e307 : S133.2 63 x = S101.2 63 x := congrFun (hS133.2 63 (by decide)) _
                  have e308 : S101.2 63 x = S78.2 63 x := congrFun (hS101.2 63 (by decide)) _
                  have e309 : S78.2 63 x = S66.2 63 x := congrFun (hS78.2 63 (by decide)) _
                  have e310 := n66_2 x
                  have e311 := i54_5 x
                  have e312 := c6 x
                  omega), (by
                  intro x
                  have e313 : S133.2 62 x = S101.2 62 x := congrFun (hS133.2 62 (by decide)) _
                  have e314 : S101.2 62 x = S78.2 62 x := congrFun (hS101.2 62 (by decide)) _
                  have e315 := hS78v x
                  have e316 : S66.2 62 x = S54h.2 62 x := congrFun (hS66.2 62 (by decide)) _
                  have e317 := i54_6 x
                  have e318 := c7 x
                  omega), by omega⟩, show (5 - (S133.2 62) a1).toNat < (5 - (S54h.2 62) a1).toNat by omega⟩
          · intro q319
            have e320 : S101.1 54 22 = S78.1 54 22 := hS101.1 22 (by decide)
            have e321 : S78.1 54 22 = S66.1 54 22 := hS78.1 22 (by decide)
            unfold wX11_oneClass_133
            refine ⟨by omega, ?_⟩
            intro S133 hS133e
            have hS133 : Ch [22] [] S101 S133 := Ch_I hS133e
            have hS133v : S133.1 54 22 = (S101.1 54 22 + 1) := pI_at hS133e
            have e322 : S133.2 62 a1 = S101.2 62 a1 := congrFun (hS133.2 62 (by decide)) _
            have e323 : S101.2 62 a1 = S78.2 62 a1 := congrFun (hS101.2 62 (by decide)) _
            have e324 := hS78v a1
            have e325 : S66.2 62 a1 = S54h.2 62 a1 := congrFun (hS66.2 62 (by decide)) _
            have e326 := i54_6 a1
            have e327 := c7 a1
            have e328 : S133.1 54 23 = S101.1 54 23 := hS133.1 23 (by decide)
            have e329 : S101.1 54 23 = S78.1 54 23 := hS101.1 23 (by decide)
            have e330 : S78.1 54 23 = S66.1 54 23 := hS78.1 23 (by decide)
            have e331 : S133.2 63 a1 = S101.2 63 a1 := congrFun (hS133.2 63 (by decide)) _
            have e332 : S101.2 63 a1 = S78.2 63 a1 := congrFun (hS101.2 63 (by decide)) _
            have e333 : S78.2 63 a1 = S66.2 63 a1 := congrFun (hS78.2 63 (by decide)) _
            have e334 := n66_2 a1
            have e335 := i54_5 a1
            have e336 := c6 a1
            have e337 : S133.1 54 23 = S101.1 54 23 := hS133.1 23 (by decide)
            have e338 : S101.1 54 23 = S78.1 54 23 := hS101.1 23 (by decide)
            have e339 : S78.1 54 23 = S66.1 54 23 := hS78.1 23 (by decide)
            have e340 : S133.2 62 a1 = S101.2 62 a1 := congrFun (hS133.2 62 (by decide)) _
            have e341 : S101.2 62 a1 = S78.2 62 a1 := congrFun (hS101.2 62 (by decide)) _
            have e342 := hS78v a1
            have e343 : S66.2 62 a1 = S54h.2 62 a1 := congrFun (hS66.2 62 (by decide)) _
            have e344 := i54_6 a1
            have e345 := c7 a1
            have e346 : S133.1 54 23 = S101.1 54 23 := hS133.1 23 (by decide)
            have e347 : S101.1 54 23 = S78.1 54 23 := hS101.1 23 (by decide)
            have e348 : S78.1 54 23 = S66.1 54 23 := hS78.1 23 (by decide)
            have e349 : S133.2 62 a1 = S101.2 62 a1 := congrFun (hS133.2 62 (by decide)) _
            have e350 : S101.2 62 a1 = S78.2 62 a1 := congrFun (hS101.2 62 (by decide)) _
            have e351 := hS78v a1
            have e352 : S66.2 62 a1 = S54h.2 62 a1 := congrFun (hS66.2 62 (by decide)) _
            have e353 := i54_6 a1
            have e354 := c7 a1
            exact ⟨⟨(Ch.wk (Ch.tr (Ch.tr (Ch.tr (Ch.tr hS54h hS66) hS78) hS101) hS133) (by decide) (by decide)), rfl, by omega, by omega, by omega, by omega, (by
                  intro x
                  have e355 : S133.2 63 (6 + (4 * a1 + x)) = S101.2 63 (6 + (4 * a1 + x)) := congrFun (hS133.2 63 (by decide)) _
                  have e356 : S101.2 63 (6 + (4 * a1 + x)) = S78.2 63 (6 + (4 * a1 + x)) := congrFun (hS101.2 63 (by decide)) _
                  have e357 : S78.2 63 (6 + (4 * a1 + x)) = S66.2 63 (6 + (4 * a1 + x)) := congrFun (hS78.2 63 (by decide)) _
                  have e358 := n66_2 (6 + (4 * a1 + x))
                  have e359 := i54_5 (6 + (4 * a1 + x))
                  have e360 := c6 (6 + (4 * a1 + x))
                  have e361 : S133.2 62 a1 = S101.2 62 a1 := congrFun (hS133.2 62 (by decide)) _
                  have e362 : S101.2 62 a1 = S78.2 62 a1 := congrFun (hS101.2 62 (by decide)) _
                  have e363 := hS78v a1
                  have e364 : S66.2 62 a1 = S54h.2 62 a1 := congrFun (hS66.2 62 (by decide)) _
                  have e365 := i54_6 a1
                  have e366 := c7 a1
                  have e367 := i54_4 x
                  omega), (by
                  intro x
                  have e368 : S133.2 63 x = S101.2 63 x := congrFun (hS133.2 63 (by decide)) _
                  have e369 : S101.2 63 x = S78.2 63 x := congrFun (hS101.2 63 (by decide)) _
                  have e370 : S78.2 63 x = S66.2 63 x := congrFun (hS78.2 63 (by decide)) _
                  have e371 := n66_2 x
                  have e372 := i54_5 x
                  have e373 := c6 x
                  omega), (by
                  intro x
                  have e374 : S133.2 62 x = S101.2 62 x := congrFun (hS133.2 62 (by decide)) _
                  have e375 : S101.2 62 x = S78.2 62 x := congrFun (hS101.2 62 (by decide)) _
                  have e376 := hS78v x
                  have e377 : S66.2 62 x = S54h.2 62 x := congrFun (hS66.2 62 (by decide)) _
                  have e378 := i54_6 x
                  have e379 := c7 x
                  omega), by omega⟩, show (5 - (S133.2 62) a1).toNat < (5 - (S54h.2 62) a1).toNat by omega⟩
        · unfold wX11_oneClass_114
          refine ⟨fun h117 => ?_, fun h117 => ?_⟩
          · intro q380
            have e381 : S101.1 54 22 = S78.1 54 22 := hS101.1 22 (by decide)
            have e382 : S78.1 54 22 = S66.1 54 22 := hS78.1 22 (by decide)
            unfold wX11_oneClass_133
            refine ⟨by omega, ?_⟩
            intro S133 hS133e
            have hS133 : Ch [22] [] S101 S133 := Ch_I hS133e
            have hS133v : S133.1 54 22 = S101.1 54 22 := pI_at hS133e
            have e383 : S133.2 62 a1 = S101.2 62 a1 := congrFun (hS133.2 62 (by decide)) _
            have e384 : S101.2 62 a1 = S78.2 62 a1 := congrFun (hS101.2 62 (by decide)) _
            have e385 := hS78v a1
            have e386 : S66.2 62 a1 = S54h.2 62 a1 := congrFun (hS66.2 62 (by decide)) _
            have e387 := i54_6 a1
            have e388 := c7 a1
            have e389 : S133.1 54 23 = S101.1 54 23 := hS133.1 23 (by decide)
            have e390 : S101.1 54 23 = S78.1 54 23 := hS101.1 23 (by decide)
            have e391 : S78.1 54 23 = S66.1 54 23 := hS78.1 23 (by decide)
            have e392 : S133.2 63 a1 = S101.2 63 a1 := congrFun (hS133.2 63 (by decide)) _
            have e393 : S101.2 63 a1 = S78.2 63 a1 := congrFun (hS101.2 63 (by decide)) _
            have e394 : S78.2 63 a1 = S66.2 63 a1 := congrFun (hS78.2 63 (by decide)) _
            have e395 := n66_2 a1
            have e396 := i54_5 a1
            have e397 := c6 a1
            have e398 : S133.1 54 23 = S101.1 54 23 := hS133.1 23 (by decide)
            have e399 : S101.1 54 23 = S78.1 54 23 := hS101.1 23 (by decide)
            have e400 : S78.1 54 23 = S66.1 54 23 := hS78.1 23 (by decide)
            have e401 : S133.2 62 a1 = S101.2 62 a1 := congrFun (hS133.2 62 (by decide)) _
            have e402 : S101.2 62 a1 = S78.2 62 a1 := congrFun (hS101.2 62 (by decide)) _
            have e403 := hS78v a1
            have e404 : S66.2 62 a1 = S54h.2 62 a1 := congrFun (hS66.2 62 (by decide)) _
            have e405 := i54_6 a1
            have e406 := c7 a1
            have e407 : S133.1 54 23 = S101.1 54 23 := hS133.1 23 (by decide)
            have e408 : S101.1 54 23 = S78.1 54 23 := hS101.1 23 (by decide)
            have e409 : S78.1 54 23 = S66.1 54 23 := hS78.1 23 (by decide)
            have e410 : S133.2 62 a1 = S101.2 62 a1 := congrFun (hS133.2 62 (by decide)) _
            have e411 : S101.2 62 a1 = S78.2 62 a1 := congrFun (hS101.2 62 (by decide)) _
            have e412 := hS78v a1
            have e413 : S66.2 62 a1 = S54h.2 62 a1 := congrFun (hS66.2 62 (by decide)) _
            have e414 := i54_6 a1
            have e415 := c7 a1
            exact ⟨⟨(Ch.wk (Ch.tr (Ch.tr (Ch.tr (Ch.tr hS54h hS66) hS78) hS101) hS133) (by decide) (by decide)), rfl, by omega, by omega, by omega, by omega, (by
                  intro x
                  have e416 : S133.2 63 (6 + (4 * a1 + x)) = S101.2 63 (6 + (4 * a1 + x)) := congrFun (hS133.2 63 (by decide)) _
                  have e417 : S101.2 63 (6 + (4 * a1 + x)) = S78.2 63 (6 + (4 * a1 + x)) := congrFun (hS101.2 63 (by decide)) _
                  have e418 : S78.2 63 (6 + (4 * a1 + x)) = S66.2 63 (6 + (4 * a1 + x)) := congrFun (hS78.2 63 (by decide)) _
                  have e419 := n66_2 (6 + (4 * a1 + x))
                  have e420 := i54_5 (6 + (4 * a1 + x))
                  have e421 := c6 (6 + (4 * a1 + x))
                  have e422 : S133.2 62 a1 = S101.2 62 a1 := congrFun (hS133.2 62 (by decide)) _
                  have e423 : S101.2 62 a1 = S78.2 62 a1 := congrFun (hS101.2 62 (by decide)) _
                  have e424 := hS78v a1
                  have e425 : S66.2 62 a1 = S54h.2 62 a1 := congrFun (hS66.2 62 (by decide)) _
                  have e426 := i54_6 a1
                  have e427 := c7 a1
                  have e428 := i54_4 x
                  omega), (by
                  intro x
                  have e429 : S133.2 63 x = S101.2 63 x := congrFun (hS133.2 63 (by decide)) _
                  have e430 : S101.2 63 x = S78.2 63 x := congrFun (hS101.2 63 (by decide)) _
                  have e431 : S78.2 63 x = S66.2 63 x := congrFun (hS78.2 63 (by decide)) _
                  have e432 := n66_2 x
                  have e433 := i54_5 x
                  have e434 := c6 x
                  omega), (by
                  intro x
                  have e435 : S133.2 62 x = S101.2 62 x := congrFun (hS133.2 62 (by decide)) _
                  have e436 : S101.2 62 x = S78.2 62 x := congrFun (hS101.2 62 (by decide)) _
                  have e437 := hS78v x
                  have e438 : S66.2 62 x = S54h.2 62 x := congrFun (hS66.2 62 (by decide)) _
                  have e439 := i54_6 x
                  have e440 := c7 x
                  omega), by omega⟩, show (5 - (S133.2 62) a1).toNat < (5 - (S54h.2 62) a1).toNat by omega⟩
          · intro q441
            have e442 : S101.1 54 22 = S78.1 54 22 := hS101.1 22 (by decide)
            have e443 : S78.1 54 22 = S66.1 54 22 := hS78.1 22 (by decide)
            unfold wX11_oneClass_133
            refine ⟨by omega, ?_⟩
            intro S133 hS133e
            have hS133 : Ch [22] [] S101 S133 := Ch_I hS133e
            have hS133v : S133.1 54 22 = (S101.1 54 22 + 1) := pI_at hS133e
            have e444 : S133.2 62 a1 = S101.2 62 a1 := congrFun (hS133.2 62 (by decide)) _
            have e445 : S101.2 62 a1 = S78.2 62 a1 := congrFun (hS101.2 62 (by decide)) _
            have e446 := hS78v a1
            have e447 : S66.2 62 a1 = S54h.2 62 a1 := congrFun (hS66.2 62 (by decide)) _
            have e448 := i54_6 a1
            have e449 := c7 a1
            have e450 : S133.1 54 23 = S101.1 54 23 := hS133.1 23 (by decide)
            have e451 : S101.1 54 23 = S78.1 54 23 := hS101.1 23 (by decide)
            have e452 : S78.1 54 23 = S66.1 54 23 := hS78.1 23 (by decide)
            have e453 : S133.2 63 a1 = S101.2 63 a1 := congrFun (hS133.2 63 (by decide)) _
            have e454 : S101.2 63 a1 = S78.2 63 a1 := congrFun (hS101.2 63 (by decide)) _
            have e455 : S78.2 63 a1 = S66.2 63 a1 := congrFun (hS78.2 63 (by decide)) _
            have e456 := n66_2 a1
            have e457 := i54_5 a1
            have e458 := c6 a1
            have e459 : S133.1 54 23 = S101.1 54 23 := hS133.1 23 (by decide)
            have e460 : S101.1 54 23 = S78.1 54 23 := hS101.1 23 (by decide)
            have e461 : S78.1 54 23 = S66.1 54 23 := hS78.1 23 (by decide)
            have e462 : S133.2 62 a1 = S101.2 62 a1 := congrFun (hS133.2 62 (by decide)) _
            have e463 : S101.2 62 a1 = S78.2 62 a1 := congrFun (hS101.2 62 (by decide)) _
            have e464 := hS78v a1
            have e465 : S66.2 62 a1 = S54h.2 62 a1 := congrFun (hS66.2 62 (by decide)) _
            have e466 := i54_6 a1
            have e467 := c7 a1
            have e468 : S133.1 54 23 = S101.1 54 23 := hS133.1 23 (by decide)
            have e469 : S101.1 54 23 = S78.1 54 23 := hS101.1 23 (by decide)
            have e470 : S78.1 54 23 = S66.1 54 23 := hS78.1 23 (by decide)
            have e471 : S133.2 62 a1 = S101.2 62 a1 := congrFun (hS133.2 62 (by decide)) _
            have e472 : S101.2 62 a1 = S78.2 62 a1 := congrFun (hS101.2 62 (by decide)) _
            have e473 := hS78v a1
            have e474 : S66.2 62 a1 = S54h.2 62 a1 := congrFun (hS66.2 62 (by decide)) _
            have e475 := i54_6 a1
            have e476 := c7 a1
            exact ⟨⟨(Ch.wk (Ch.tr (Ch.tr (Ch.tr (Ch.tr hS54h hS66) hS78) hS101) hS133) (by decide) (by decide)), rfl, by omega, by omega, by omega, by omega, (by
                  intro x
                  have e477 : S133.2 63 (6 + (4 * a1 + x)) = S101.2 63 (6 + (4 * a1 + x)) := congrFun (hS133.2 63 (by decide)) _
                  have e478 : S101.2 63 (6 + (4 * a1 + x)) = S78.2 63 (6 + (4 * a1 + x)) := congrFun (hS101.2 63 (by decide)) _
                  have e479 : S78.2 63 (6 + (4 * a1 + x)) = S66.2 63 (6 + (4 * a1 + x)) := congrFun (hS78.2 63 (by decide)) _
                  have e480 := n66_2 (6 + (4 * a1 + x))
                  have e481 := i54_5 (6 + (4 * a1 + x))
                  have e482 := c6 (6 + (4 * a1 + x))
                  have e483 : S133.2 62 a1 = S101.2 62 a1 := congrFun (hS133.2 62 (by decide)) _
                  have e484 : S101.2 62 a1 = S78.2 62 a1 := congrFun (hS101.2 62 (by decide)) _
                  have e485 := hS78v a1
                  have e486 : S66.2 62 a1 = S54h.2 62 a1 := congrFun (hS66.2 62 (by decide)) _
                  have e487 := i54_6 a1
                  have e488 := c7 a1
                  have e489 := i54_4 x
                  omega), (by
                  intro x
                  have e490 : S133.2 63 x = S101.2 63 x := congrFun (hS133.2 63 (by decide)) _
                  have e491 : S101.2 63 x = S78.2 63 x := congrFun (hS101.2 63 (by decide)) _
                  have e492 : S78.2 63 x = S66.2 63 x := congrFun (hS78.2 63 (by decide)) _
                  have e493 := n66_2 x
                  have e494 := i54_5 x
                  have e495 := c6 x
                  omega), (by
                  intro x
                  have e496 : S133.2 62 x = S101.2 62 x := congrFun (hS133.2 62 (by decide)) _
                  have e497 : S101.2 62 x = S78.2 62 x := congrFun (hS101.2 62 (by decide)) _
                  have e498 := hS78v x
                  have e499 : S66.2 62 x = S54h.2 62 x := congrFun (hS66.2 62 (by decide)) _
                  have e500 := i54_6 x
                  have e501 := c7 x
                  omega), by omega⟩, show (5 - (S133.2 62) a1).toNat < (5 - (S54h.2 62) a1).toNat by omega⟩
set_option maxRecDepth 100000 in
set_option maxHeartbeats 4000000 in
theorem tX11_oneClass {a1 : Int} {S : St} {K : Int → St → Prop} (p1 : iv 0 5 a1) (p2 : (S.1 54 22) ≤ (S.1 54 0)) (p3 : (S.1 54 23) = 0) (hK : ∀ (r : Int) (S' : St), Ch [22, 23, 24] [62, 63, 64, 65, 66] S S' → ((S'.1 54 22) ≤ (S.1 54 0)) → ((S'.1 54 23) = 1 ∨ 1 ≤ (S'.2 63) a1) → (∀ x, (S'.1 54 23) = 1 ∨ x < 0 ∨ (S'.2 62) a1 ≤ x ∨ 1 ≤ (S'.2 63) (6 + (4 * a1 + x))) → (∀ x, x = a1 ∨ (6 + 4 * a1 ≤ x ∧ x ≤ 9 + 4 * a1) ∨ (S'.2 63) x = (S.2 63) x) → (∀ x, x = a1 ∨ (S'.2 62) x = (S.2 62) x) → K r S') : wX11_oneClass a1 S K := by
  unfold wX11_oneClass
  intro g1
  refine tX11_name (by omega) (by omega) (by omega) (by omega) (fun r4 S4 hS4 n4_0 n4_1 n4_2 n4_3 => ?_)
  refine ⟨by omega, by omega, ?_⟩
  intro S13 hS13e
  have hS13 : Ch [] [62] S4 S13 := Ch_A hS13e
  have hS13v : ∀ x, S13.2 62 x = if x = a1 then 0 else S4.2 62 x := pA_at hS13e
  intro q1
  have e2 : S13.1 54 23 = S4.1 54 23 := hS13.1 23 (by decide)
  refine ⟨fun h18 => ?_, fun h18 => ?_⟩
  · have e3 : S13.1 54 22 = S4.1 54 22 := hS13.1 22 (by decide)
    have e4 : S13.1 54 0 = S4.1 54 0 := hS13.1 0 (by decide)
    have e5 : S4.1 54 0 = S.1 54 0 := hS4.1 0 (by decide)
    have e6 : S13.1 54 0 = S4.1 54 0 := hS13.1 0 (by decide)
    have e7 : S4.1 54 0 = S.1 54 0 := hS4.1 0 (by decide)
    have e8 : S13.1 54 23 = S4.1 54 23 := hS13.1 23 (by decide)
    refine tX11_eat (by omega) (by omega) (fun r25 S25 hS25 n25_0 n25_1 => ?_)
    intro q9
    refine ⟨fun h32 => ?_, fun h32 => ?_⟩
    · unfold wX11_oneClass_52
      unfold wX11_oneClass_53
      have e10 : S25.2 62 a1 = S13.2 62 a1 := congrFun (hS25.2 62 (by decide)) _
      have e11 := hS13v a1
      have e12 : S4.2 62 a1 = S.2 62 a1 := congrFun (hS4.2 62 (by decide)) _
      have e13 : S25.2 63 a1 = S13.2 63 a1 := congrFun (hS25.2 63 (by decide)) _
      have e14 : S13.2 63 a1 = S4.2 63 a1 := congrFun (hS13.2 63 (by decide)) _
      have e15 := n4_2 a1
      exact tX11_oneClass_54 g1 p1 p2 p3 (Ch.wk (Ch.tr (Ch.tr hS4 hS13) hS25) (by decide) (by decide)) (by omega) (by omega) (by omega) (by omega) (by omega) (by
            intro x
            have e16 : S25.2 63 x = S13.2 63 x := congrFun (hS25.2 63 (by decide)) _
            have e17 : S13.2 63 x = S4.2 63 x := congrFun (hS13.2 63 (by decide)) _
            have e18 := n4_2 x
            omega) (by
            intro x
            have e19 : S25.2 62 x = S13.2 62 x := congrFun (hS25.2 62 (by decide)) _
            have e20 := hS13v x
            have e21 : S4.2 62 x = S.2 62 x := congrFun (hS4.2 62 (by decide)) _
            omega) (by omega) hK
    · intro q22
      have e23 : S25.1 54 0 = S13.1 54 0 := hS25.1 0 (by decide)
      have e24 : S13.1 54 0 = S4.1 54 0 := hS13.1 0 (by decide)
      have e25 : S4.1 54 0 = S.1 54 0 := hS4.1 0 (by decide)
      have e26 : S25.2 55 (S25.1 54 22) = S13.2 55 (S25.1 54 22) := congrFun (hS25.2 55 (by decide)) _
      have e27 : S13.2 55 (S25.1 54 22) = S4.2 55 (S25.1 54 22) := congrFun (hS13.2 55 (by decide)) _
      have e28 : S4.2 55 (S25.1 54 22) = S.2 55 (S25.1 54 22) := congrFun (hS4.2 55 (by decide)) _
      refine tX11_signAt (by omega) (fun r40 S40 hS40 n40_0 n40_1 => ?_)
      refine ⟨by omega, ?_⟩
      refine ⟨fun h45 => ?_, fun h45 => ?_⟩
      · unfold wX11_oneClass_52
        unfold wX11_oneClass_53
        have e29 : S40.1 54 22 = S25.1 54 22 := hS40.1 22 (by decide)
        have e30 : S40.2 62 a1 = S25.2 62 a1 := congrFun (hS40.2 62 (by decide)) _
        have e31 : S25.2 62 a1 = S13.2 62 a1 := congrFun (hS25.2 62 (by decide)) _
        have e32 := hS13v a1
        have e33 : S4.2 62 a1 = S.2 62 a1 := congrFun (hS4.2 62 (by decide)) _
        have e34 : S40.1 54 23 = S25.1 54 23 := hS40.1 23 (by decide)
        have e35 : S40.2 63 a1 = S25.2 63 a1 := congrFun (hS40.2 63 (by decide)) _
        have e36 : S25.2 63 a1 = S13.2 63 a1 := congrFun (hS25.2 63 (by decide)) _
        have e37 : S13.2 63 a1 = S4.2 63 a1 := congrFun (hS13.2 63 (by decide)) _
        have e38 := n4_2 a1
        have e39 : S40.1 54 23 = S25.1 54 23 := hS40.1 23 (by decide)
        exact tX11_oneClass_54 g1 p1 p2 p3 (Ch.wk (Ch.tr (Ch.tr (Ch.tr hS4 hS13) hS25) hS40) (by decide) (by decide)) (by omega) (by omega) (by omega) (by omega) (by omega) (by
              intro x
              have e40 : S40.2 63 x = S25.2 63 x := congrFun (hS40.2 63 (by decide)) _
              have e41 : S25.2 63 x = S13.2 63 x := congrFun (hS25.2 63 (by decide)) _
              have e42 : S13.2 63 x = S4.2 63 x := congrFun (hS13.2 63 (by decide)) _
              have e43 := n4_2 x
              omega) (by
              intro x
              have e44 : S40.2 62 x = S25.2 62 x := congrFun (hS40.2 62 (by decide)) _
              have e45 : S25.2 62 x = S13.2 62 x := congrFun (hS25.2 62 (by decide)) _
              have e46 := hS13v x
              have e47 : S4.2 62 x = S.2 62 x := congrFun (hS4.2 62 (by decide)) _
              omega) (by omega) hK
      · unfold wX11_oneClass_53
        have e48 : S40.1 54 22 = S25.1 54 22 := hS40.1 22 (by decide)
        have e49 : S40.2 62 a1 = S25.2 62 a1 := congrFun (hS40.2 62 (by decide)) _
        have e50 : S25.2 62 a1 = S13.2 62 a1 := congrFun (hS25.2 62 (by decide)) _
        have e51 := hS13v a1
        have e52 : S4.2 62 a1 = S.2 62 a1 := congrFun (hS4.2 62 (by decide)) _
        have e53 : S40.1 54 23 = S25.1 54 23 := hS40.1 23 (by decide)
        have e54 : S40.2 63 a1 = S25.2 63 a1 := congrFun (hS40.2 63 (by decide)) _
        have e55 : S25.2 63 a1 = S13.2 63 a1 := congrFun (hS25.2 63 (by decide)) _
        have e56 : S13.2 63 a1 = S4.2 63 a1 := congrFun (hS13.2 63 (by decide)) _
        have e57 := n4_2 a1
        have e58 : S40.1 54 23 = S25.1 54 23 := hS40.1 23 (by decide)
        exact tX11_oneClass_54 g1 p1 p2 p3 (Ch.wk (Ch.tr (Ch.tr (Ch.tr hS4 hS13) hS25) hS40) (by decide) (by decide)) (by omega) (by omega) (by omega) (by omega) (by omega) (by
              intro x
              have e59 : S40.2 63 x = S25.2 63 x := congrFun (hS40.2 63 (by decide)) _
              have e60 : S25.2 63 x = S13.2 63 x := congrFun (hS25.2 63 (by decide)) _
              have e61 : S13.2 63 x = S4.2 63 x := congrFun (hS13.2 63 (by decide)) _
              have e62 := n4_2 x
              omega) (by
              intro x
              have e63 : S40.2 62 x = S25.2 62 x := congrFun (hS40.2 62 (by decide)) _
              have e64 : S25.2 62 x = S13.2 62 x := congrFun (hS25.2 62 (by decide)) _
              have e65 := hS13v x
              have e66 : S4.2 62 x = S.2 62 x := congrFun (hS4.2 62 (by decide)) _
              omega) (by omega) hK
  · have e75 : S13.1 54 22 = S4.1 54 22 := hS13.1 22 (by decide)
    have e76 : S13.1 54 23 = S4.1 54 23 := hS13.1 23 (by decide)
    have e77 : S13.1 54 23 = S4.1 54 23 := hS13.1 23 (by decide)
    exact hK (0) S13 (Ch.wk (Ch.tr hS4 hS13) (by decide) (by decide)) (by omega) (by omega) (by
          intro x
          have e67 : S13.2 63 (6 + (4 * a1 + x)) = S4.2 63 (6 + (4 * a1 + x)) := congrFun (hS13.2 63 (by decide)) _
          have e68 := n4_2 (6 + (4 * a1 + x))
          have e69 := hS13v a1
          have e70 : S4.2 62 a1 = S.2 62 a1 := congrFun (hS4.2 62 (by decide)) _
          omega) (by
          intro x
          have e71 : S13.2 63 x = S4.2 63 x := congrFun (hS13.2 63 (by decide)) _
          have e72 := n4_2 x
          omega) (by
          intro x
          have e73 := hS13v x
          have e74 : S4.2 62 x = S.2 62 x := congrFun (hS4.2 62 (by decide)) _
          omega)

set_option maxRecDepth 100000 in
set_option maxHeartbeats 4000000 in
theorem tX11_classes_142 {l1 : Int} {S S1c : St} {K : Int → St → Prop}   (hS1c : Ch [0, 2, 18, 20, 22, 23, 24] [56, 57, 58, 59, 60, 61, 62, 63, 64, 65, 66, 67] S S1c) (c1 : iv 1 6 l1) (c2 : (S1c.1 54 22) ≤ (S.1 54 0)) (c3 : (S1c.1 54 23) = 1 ∨ (S1c.1 54 23) = 0) (c4 : Ch [22, 23, 24] [62, 63, 64, 65, 66] S S1c) (c5 : ∀ x, (S1c.1 54 23) = 1 ∨ x < 0 ∨ l1 ≤ x ∨ 1 ≤ (S1c.2 63) x) (c6 : ∀ x y, (S1c.1 54 23) = 1 ∨ x < 0 ∨ l1 ≤ x ∨ y < 0 ∨ 3 < y ∨ (S1c.2 62) x ≤ y ∨ 1 ≤ (S1c.2 63) (6 + (4 * x + y))) (hK : ∀ (r : Int) (S' : St), Ch [0, 2, 18, 20, 22, 23, 24] [56, 57, 58, 59, 60, 61, 62, 63, 64, 65, 66, 67] S S' → (iv (-3001) 6 r) → (r < 0 ∨ ((S'.1 54 2) = r ∧ (S'.1 54 18) = 0 ∧ (S'.2 67) 0 = 0 ∧ (S'.2 67) 1 = 0)) → (0 ≤ r ∨ Ch [0, 22, 23, 24] [62, 63, 64, 65, 66] S S') → (∀ x, r < 0 ∨ x < 0 ∨ r ≤ x ∨ 1 ≤ (S'.2 57) x) → (∀ x y, r < 0 ∨ x < 0 ∨ r ≤ x ∨ y < 0 ∨ 3 < y ∨ (S'.2 56) x ≤ y ∨ 1 ≤ (S'.2 57) (6 + (4 * x + y))) → K r S') : wX11_classes_142 l1 S1c K := by
  unfold wX11_classes_142
  intro S144 hS144e
  have hS144 : Ch [0] [] S1c S144 := Ch_I hS144e
  have hS144v : S144.1 54 0 = 0 := pI_at hS144e
  intro q1
  have e2 : S144.1 54 23 = S1c.1 54 23 := hS144.1 23 (by decide)
  refine ⟨fun h151 => ?_, fun h151 => ?_⟩
  · refine ⟨by omega, ?_⟩
    intro S163 hS163e
    have hS163 : Ch [2] [] S144 S163 := Ch_I hS163e
    have hS163v : S163.1 54 2 = l1 := pI_at hS163e
    unfold wX11_classes_168
    refine ⟨fun u1 u3 Sx => Ch [] [57] S163 Sx ∧ l1 = u1 ∧ (iv 0 30 u3) ∧ (iv 1 6 u1) ∧ (∀ x, x < 0 ∨ u3 ≤ x ∨ (Sx.2 57) x = (S163.2 63) x), fun u1 u3 Sx => (31 - u3).toNat, ?_, fun v168_1 v168_3 S168h hI => ?_⟩
    · exact ⟨Ch.re, rfl, by omega, by omega, (by
          intro x
          omega)⟩
    obtain ⟨hS168h, rfl, i168_0, i168_1, i168_2⟩ := hI
    unfold wX11_classes_168'
    refine ⟨by omega, ?_⟩
    refine ⟨fun h171 => ?_, fun h171 => ?_⟩
    · unfold wX11_classes_194
      refine ⟨fun u1 u3 Sx => Ch [] [58] S168h Sx ∧ l1 = u1 ∧ (iv 0 240 u3), fun u1 u3 Sx => (241 - u3).toNat, ?_, fun v194_1 v194_3 S194h hI => ?_⟩
      · exact ⟨Ch.re, rfl, by omega⟩
      obtain ⟨hS194h, rfl, i194_0⟩ := hI
      unfold wX11_classes_194'
      refine ⟨by omega, ?_⟩
      refine ⟨fun h198 => ?_, fun h198 => ?_⟩
      · unfold wX11_classes_221
        refine ⟨fun u1 u3 Sx => Ch [] [59, 60] S194h Sx ∧ l1 = u1 ∧ (iv 0 24 u3), fun u1 u3 Sx => (25 - u3).toNat, ?_, fun v221_1 v221_3 S221h hI => ?_⟩
        · exact ⟨Ch.re, rfl, by omega⟩
        obtain ⟨hS221h, rfl, i221_0⟩ := hI
        unfold wX11_classes_221'
        refine ⟨by omega, ?_⟩
        refine ⟨fun h224 => ?_, fun h224 => ?_⟩
        · unfold wX11_classes_259
          refine ⟨fun u1 u3 Sx => Ch [] [56, 61] S221h Sx ∧ l1 = u1 ∧ (iv 0 6 u3) ∧ (iv 1 6 u1) ∧ (∀ x, x < 0 ∨ u3 ≤ x ∨ (Sx.2 56) x = (S221h.2 62) x), fun u1 u3 Sx => (7 - u3).toNat, ?_, fun v259_1 v259_3 S259h hI => ?_⟩
          · exact ⟨Ch.re, rfl, by omega, by omega, (by
                intro x
                omega)⟩
          obtain ⟨hS259h, rfl, i259_0, i259_1, i259_2⟩ := hI
          unfold wX11_classes_259'
          refine ⟨by omega, ?_⟩
          refine ⟨fun h262 => ?_, fun h262 => ?_⟩
          · refine ⟨by omega, by omega, ?_⟩
            intro S296 hS296e
            have hS296 : Ch [] [67] S259h S296 := Ch_A hS296e
            have hS296v : ∀ x, S296.2 67 x = if x = 0 then 0 else S259h.2 67 x := pA_at hS296e
            refine ⟨by omega, by omega, ?_⟩
            intro S303 hS303e
            have hS303 : Ch [] [67] S296 S303 := Ch_A hS303e
            have hS303v : ∀ x, S303.2 67 x = if x = 1 then 0 else S296.2 67 x := pA_at hS303e
            intro S306 hS306e
            have hS306 : Ch [18] [] S303 S306 := Ch_I hS306e
            have hS306v : S306.1 54 18 = 0 := pI_at hS306e
            intro S311 hS311e
            have hS311 : Ch [20] [] S306 S311 := Ch_I hS311e
            have hS311v : S311.1 54 20 = 0 := pI_at hS311e
            have e26 : S311.1 54 2 = S306.1 54 2 := hS311.1 2 (by decide)
            have e27 : S306.1 54 2 = S303.1 54 2 := hS306.1 2 (by decide)
            have e28 : S303.1 54 2 = S296.1 54 2 := hS303.1 2 (by decide)
            have e29 : S296.1 54 2 = S259h.1 54 2 := hS296.1 2 (by decide)
            have e30 : S259h.1 54 2 = S221h.1 54 2 := hS259h.1 2 (by decide)
            have e31 : S221h.1 54 2 = S194h.1 54 2 := hS221h.1 2 (by decide)
            have e32 : S194h.1 54 2 = S168h.1 54 2 := hS194h.1 2 (by decide)
            have e33 : S168h.1 54 2 = S163.1 54 2 := hS168h.1 2 (by decide)
            have e34 : S311.2 67 0 = S306.2 67 0 := congrFun (hS311.2 67 (by decide)) _
            have e35 : S306.2 67 0 = S303.2 67 0 := congrFun (hS306.2 67 (by decide)) _
            have e36 := hS303v 0
            have e37 := hS296v 0
            have e38 : S259h.2 67 0 = S221h.2 67 0 := congrFun (hS259h.2 67 (by decide)) _
            have e39 : S221h.2 67 0 = S194h.2 67 0 := congrFun (hS221h.2 67 (by decide)) _
            have e40 : S194h.2 67 0 = S168h.2 67 0 := congrFun (hS194h.2 67 (by decide)) _
            have e41 : S168h.2 67 0 = S163.2 67 0 := congrFun (hS168h.2 67 (by decide)) _
            have e42 : S163.2 67 0 = S144.2 67 0 := congrFun (hS163.2 67 (by decide)) _
            have e43 : S144.2 67 0 = S1c.2 67 0 := congrFun (hS144.2 67 (by decide)) _
            have e44 : S311.2 67 1 = S306.2 67 1 := congrFun (hS311.2 67 (by decide)) _
            have e45 : S306.2 67 1 = S303.2 67 1 := congrFun (hS306.2 67 (by decide)) _
            have e46 := hS303v 1
            have e47 := hS296v 1
            have e48 : S259h.2 67 1 = S221h.2 67 1 := congrFun (hS259h.2 67 (by decide)) _
            have e49 : S221h.2 67 1 = S194h.2 67 1 := congrFun (hS221h.2 67 (by decide)) _
            have e50 : S194h.2 67 1 = S168h.2 67 1 := congrFun (hS194h.2 67 (by decide)) _
            have e51 : S168h.2 67 1 = S163.2 67 1 := congrFun (hS168h.2 67 (by decide)) _
            have e52 : S163.2 67 1 = S144.2 67 1 := congrFun (hS163.2 67 (by decide)) _
            have e53 : S144.2 67 1 = S1c.2 67 1 := congrFun (hS144.2 67 (by decide)) _
            exact hK (l1) S311 (Ch.wk (Ch.tr (Ch.tr (Ch.tr (Ch.tr (Ch.tr (Ch.tr (Ch.tr (Ch.tr (Ch.tr (Ch.tr hS1c hS144) hS163) hS168h) hS194h) hS221h) hS259h) hS296) hS303) hS306) hS311) (by decide) (by decide)) (by omega) (by omega) (Or.inl (by omega)) (by
                  intro x
                  have e3 : S311.2 57 x = S306.2 57 x := congrFun (hS311.2 57 (by decide)) _
                  have e4 : S306.2 57 x = S303.2 57 x := congrFun (hS306.2 57 (by decide)) _
                  have e5 : S303.2 57 x = S296.2 57 x := congrFun (hS303.2 57 (by decide)) _
                  have e6 : S296.2 57 x = S259h.2 57 x := congrFun (hS296.2 57 (by decide)) _
                  have e7 : S259h.2 57 x = S221h.2 57 x := congrFun (hS259h.2 57 (by decide)) _
                  have e8 : S221h.2 57 x = S194h.2 57 x := congrFun (hS221h.2 57 (by decide)) _
                  have e9 : S194h.2 57 x = S168h.2 57 x := congrFun (hS194h.2 57 (by decide)) _
                  have e10 := i168_2 x
                  have e11 := c5 x
                  omega) (by
                  intro x y
                  have e12 : S311.2 57 (6 + (4 * x + y)) = S306.2 57 (6 + (4 * x + y)) := congrFun (hS311.2 57 (by decide)) _
                  have e13 : S306.2 57 (6 + (4 * x + y)) = S303.2 57 (6 + (4 * x + y)) := congrFun (hS306.2 57 (by decide)) _
                  have e14 : S303.2 57 (6 + (4 * x + y)) = S296.2 57 (6 + (4 * x + y)) := congrFun (hS303.2 57 (by decide)) _
                  have e15 : S296.2 57 (6 + (4 * x + y)) = S259h.2 57 (6 + (4 * x + y)) := congrFun (hS296.2 57 (by decide)) _
                  have e16 : S259h.2 57 (6 + (4 * x + y)) = S221h.2 57 (6 + (4 * x + y)) := congrFun (hS259h.2 57 (by decide)) _
                  have e17 : S221h.2 57 (6 + (4 * x + y)) = S194h.2 57 (6 + (4 * x + y)) := congrFun (hS221h.2 57 (by decide)) _
                  have e18 : S194h.2 57 (6 + (4 * x + y)) = S168h.2 57 (6 + (4 * x + y)) := congrFun (hS194h.2 57 (by decide)) _
                  have e19 : S311.2 56 x = S306.2 56 x := congrFun (hS311.2 56 (by decide)) _
                  have e20 : S306.2 56 x = S303.2 56 x := congrFun (hS306.2 56 (by decide)) _
                  have e21 : S303.2 56 x = S296.2 56 x := congrFun (hS303.2 56 (by decide)) _
                  have e22 : S296.2 56 x = S259h.2 56 x := congrFun (hS296.2 56 (by decide)) _
                  have e23 := i168_2 (6 + (4 * x + y))
                  have e24 := i259_2 x
                  have e25 := c6 x y
                  omega)
          · refine ⟨by omega, by omega, ?_⟩
            intro q54
            have e55 : S259h.2 62 (v259_3) = S221h.2 62 (v259_3) := congrFun (hS259h.2 62 (by decide)) _
            have e56 : S221h.2 62 (v259_3) = S194h.2 62 (v259_3) := congrFun (hS221h.2 62 (by decide)) _
            have e57 : S194h.2 62 (v259_3) = S168h.2 62 (v259_3) := congrFun (hS194h.2 62 (by decide)) _
            have e58 : S168h.2 62 (v259_3) = S163.2 62 (v259_3) := congrFun (hS168h.2 62 (by decide)) _
            have e59 : S163.2 62 (v259_3) = S144.2 62 (v259_3) := congrFun (hS163.2 62 (by decide)) _
            have e60 : S144.2 62 (v259_3) = S1c.2 62 (v259_3) := congrFun (hS144.2 62 (by decide)) _
            refine ⟨by omega, by omega, ?_⟩
            intro S276 hS276e
            have hS276 : Ch [] [56] S259h S276 := Ch_A hS276e
            have hS276v : ∀ x, S276.2 56 x = if x = v259_3 then S259h.2 62 (v259_3) else S259h.2 56 x := pA_at hS276e
            refine ⟨by omega, by omega, ?_⟩
            intro S283 hS283e
            have hS283 : Ch [] [61] S276 S283 := Ch_A hS283e
            have hS283v : ∀ x, S283.2 61 x = if x = v259_3 then 0 else S276.2 61 x := pA_at hS283e
            exact ⟨⟨(Ch.wk (Ch.tr (Ch.tr hS259h hS276) hS283) (by decide) (by decide)), rfl, by omega, by omega, (by
                  intro x
                  have e61 : S283.2 56 x = S276.2 56 x := congrFun (hS283.2 56 (by decide)) _
                  have e62 := hS276v x
                  have e63 : S283.2 62 x = S276.2 62 x := congrFun (hS283.2 62 (by decide)) _
                  have e64 : S276.2 62 x = S259h.2 62 x := congrFun (hS276.2 62 (by decide)) _
                  have e65 : S259h.2 62 x = S221h.2 62 x := congrFun (hS259h.2 62 (by decide)) _
                  have e66 : S221h.2 62 x = S194h.2 62 x := congrFun (hS221h.2 62 (by decide)) _
                  have e67 : S194h.2 62 x = S168h.2 62 x := congrFun (hS194h.2 62 (by decide)) _
                  have e68 : S168h.2 62 x = S163.2 62 x := congrFun (hS168h.2 62 (by decide)) _
                  have e69 : S163.2 62 x = S144.2 62 x := congrFun (hS163.2 62 (by decide)) _
                  have e70 : S144.2 62 x = S1c.2 62 x := congrFun (hS144.2 62 (by decide)) _
                  have e71 := i259_2 x
                  omega)⟩, show (7 - ((v259_3 + 1))).toNat < (7 - v259_3).toNat by omega⟩
        · refine ⟨by omega, by omega, ?_⟩
          intro q72
          have e73 : S221h.2 65 (v221_3) = S194h.2 65 (v221_3) := congrFun (hS221h.2 65 (by decide)) _
          have e74 : S194h.2 65 (v221_3) = S168h.2 65 (v221_3) := congrFun (hS194h.2 65 (by decide)) _
          have e75 : S168h.2 65 (v221_3) = S163.2 65 (v221_3) := congrFun (hS168h.2 65 (by decide)) _
          have e76 : S163.2 65 (v221_3) = S144.2 65 (v221_3) := congrFun (hS163.2 65 (by decide)) _
          have e77 : S144.2 65 (v221_3) = S1c.2 65 (v221_3) := congrFun (hS144.2 65 (by decide)) _
          refine ⟨by omega, by omega, ?_⟩
          intro S238 hS238e
          have hS238 : Ch [] [59] S221h S238 := Ch_A hS238e
          have hS238v : ∀ x, S238.2 59 x = if x = v221_3 then S221h.2 65 (v221_3) else S221h.2 59 x := pA_at hS238e
          refine ⟨by omega, by omega, ?_⟩
          intro q78
          have e79 : S238.2 66 (v221_3) = S221h.2 66 (v221_3) := congrFun (hS238.2 66 (by decide)) _
          have e80 : S221h.2 66 (v221_3) = S194h.2 66 (v221_3) := congrFun (hS221h.2 66 (by decide)) _
          have e81 : S194h.2 66 (v221_3) = S168h.2 66 (v221_3) := congrFun (hS194h.2 66 (by decide)) _
          have e82 : S168h.2 66 (v221_3) = S163.2 66 (v221_3) := congrFun (hS168h.2 66 (by decide)) _
          have e83 : S163.2 66 (v221_3) = S144.2 66 (v221_3) := congrFun (hS163.2 66 (by decide)) _
          have e84 : S144.2 66 (v221_3) = S1c.2 66 (v221_3) := congrFun (hS144.2 66 (by decide)) _
          refine ⟨by omega, by omega, ?_⟩
          intro S250 hS250e
          have hS250 : Ch [] [60] S238 S250 := Ch_A hS250e
          have hS250v : ∀ x, S250.2 60 x = if x = v221_3 then S238.2 66 (v221_3) else S238.2 60 x := pA_at hS250e
          exact ⟨⟨(Ch.wk (Ch.tr (Ch.tr hS221h hS238) hS250) (by decide) (by decide)), rfl, by omega⟩, show (25 - ((v221_3 + 1))).toNat < (25 - v221_3).toNat by omega⟩
      · refine ⟨by omega, by omega, ?_⟩
        intro q85
        have e86 : S194h.2 64 (v194_3) = S168h.2 64 (v194_3) := congrFun (hS194h.2 64 (by decide)) _
        have e87 : S168h.2 64 (v194_3) = S163.2 64 (v194_3) := congrFun (hS168h.2 64 (by decide)) _
        have e88 : S163.2 64 (v194_3) = S144.2 64 (v194_3) := congrFun (hS163.2 64 (by decide)) _
        have e89 : S144.2 64 (v194_3) = S1c.2 64 (v194_3) := congrFun (hS144.2 64 (by decide)) _
        refine ⟨by omega, by omega, ?_⟩
        intro S212 hS212e
        have hS212 : Ch [] [58] S194h S212 := Ch_A hS212e
        have hS212v : ∀ x, S212.2 58 x = if x = v194_3 then S194h.2 64 (v194_3) else S194h.2 58 x := pA_at hS212e
        exact ⟨⟨(Ch.wk (Ch.tr hS194h hS212) (by decide) (by decide)), rfl, by omega⟩, show (241 - ((v194_3 + 1))).toNat < (241 - v194_3).toNat by omega⟩
    · refine ⟨by omega, by omega, ?_⟩
      intro q90
      have e91 : S168h.2 63 (v168_3) = S163.2 63 (v168_3) := congrFun (hS168h.2 63 (by decide)) _
      have e92 : S163.2 63 (v168_3) = S144.2 63 (v168_3) := congrFun (hS163.2 63 (by decide)) _
      have e93 : S144.2 63 (v168_3) = S1c.2 63 (v168_3) := congrFun (hS144.2 63 (by decide)) _
      refine ⟨by omega, by omega, ?_⟩
      intro S185 hS185e
      have hS185 : Ch [] [57] S168h S185 := Ch_A hS185e
      have hS185v : ∀ x, S185.2 57 x = if x = v168_3 then S168h.2 63 (v168_3) else S168h.2 57 x := pA_at hS185e
      exact ⟨⟨(Ch.wk (Ch.tr hS168h hS185) (by decide) (by decide)), rfl, by omega, by omega, (by
            intro x
            have e94 := hS185v x
            have e95 : S185.2 63 x = S168h.2 63 x := congrFun (hS185.2 63 (by decide)) _
            have e96 : S168h.2 63 x = S163.2 63 x := congrFun (hS168h.2 63 (by decide)) _
            have e97 : S163.2 63 x = S144.2 63 x := congrFun (hS163.2 63 (by decide)) _
            have e98 : S144.2 63 x = S1c.2 63 x := congrFun (hS144.2 63 (by decide)) _
            have e99 := i168_2 x
            omega)⟩, show (31 - ((v168_3 + 1))).toNat < (31 - v168_3).toNat by omega⟩
  · intro q100
    have e101 : S144.1 54 22 = S1c.1 54 22 := hS144.1 22 (by decide)
    have e102 : S144.1 54 2 = S1c.1 54 2 := hS144.1 2 (by decide)
    have e103 : S144.2 67 0 = S1c.2 67 0 := congrFun (hS144.2 67 (by decide)) _
    have e104 : S144.2 67 1 = S1c.2 67 1 := congrFun (hS144.2 67 (by decide)) _
    exact hK (((-1) - S144.1 54 22)) S144 (Ch.wk (Ch.tr hS1c hS144) (by decide) (by decide)) (by omega) (by omega) (Or.inr (Ch.wk (Ch.tr c4 hS144) (by decide) (by decide))) (fun x => Or.inl (by omega)) (fun x y => Or.inl (by omega))
set_option maxRecDepth 100000 in
set_option maxHeartbeats 4000000 in
theorem tX11_classes {S : St} {K : Int → St → Prop}  (hK : ∀ (r : Int) (S' : St), Ch [0, 2, 18, 20, 22, 23, 24] [56, 57, 58, 59, 60, 61, 62, 63, 64, 65, 66, 67] S S' → (iv (-3001) 6 r) → (r < 0 ∨ ((S'.1 54 2) = r ∧ (S'.1 54 18) = 0 ∧ (S'.2 67) 0 = 0 ∧ (S'.2 67) 1 = 0)) → (0 ≤ r ∨ Ch [0, 22, 23, 24] [62, 63, 64, 65, 66] S S') → (∀ x, r < 0 ∨ x < 0 ∨ r ≤ x ∨ 1 ≤ (S'.2 57) x) → (∀ x y, r < 0 ∨ x < 0 ∨ r ≤ x ∨ y < 0 ∨ 3 < y ∨ (S'.2 56) x ≤ y ∨ 1 ≤ (S'.2 57) (6 + (4 * x + y))) → K r S') : wX11_classes  S K := by
  unfold wX11_classes
  intro S2 hS2e
  have hS2 : Ch [22] [] S S2 := Ch_I hS2e
  have hS2v : S2.1 54 22 = 0 := pI_at hS2e
  intro S7 hS7e
  have hS7 : Ch [23] [] S2 S7 := Ch_I hS7e
  have hS7v : S7.1 54 23 = 0 := pI_at hS7e
  intro S12 hS12e
  have hS12 : Ch [24] [] S7 S12 := Ch_I hS12e
  have hS12v : S12.1 54 24 = 0 := pI_at hS12e
  unfold wX11_classes_19
  have e1 : S12.1 54 22 = S7.1 54 22 := hS12.1 22 (by decide)
  have e2 : S7.1 54 22 = S2.1 54 22 := hS7.1 22 (by decide)
  have e3 : S12.1 54 23 = S7.1 54 23 := hS12.1 23 (by decide)
  have e4 : S12.1 54 23 = S7.1 54 23 := hS12.1 23 (by decide)
  have e5 : S12.1 54 23 = S7.1 54 23 := hS12.1 23 (by decide)
  refine ⟨fun u1 u2 Sx => Ch [22, 23, 24] [62, 63, 64, 65, 66] S12 Sx ∧ (iv 0 1 u2) ∧ (iv 0 6 u1) ∧ (u2 = 0 ∨ u1 ≤ 5) ∧ ((Sx.1 54 22) ≤ (S.1 54 0)) ∧ (u2 = 0 ∨ (Sx.1 54 23) = 0) ∧ (∀ x, (Sx.1 54 23) = 1 ∨ x < 0 ∨ u1 ≤ x ∨ 1 ≤ (Sx.2 63) x) ∧ (∀ x y, (Sx.1 54 23) = 1 ∨ x < 0 ∨ u1 ≤ x ∨ y < 0 ∨ 3 < y ∨ (Sx.2 62) x ≤ y ∨ 1 ≤ (Sx.2 63) (6 + (4 * x + y))) ∧ (u2 = 1 ∨ 1 ≤ u1), fun u1 u2 Sx => (7 - u1).toNat, ?_, fun v19_1 v19_2 S19h hI => ?_⟩
  · exact ⟨Ch.re, by omega, by omega, by omega, by omega, by omega, (by
        intro x
        omega), (by
        intro x y
        omega), by omega⟩
  obtain ⟨hS19h, i19_0, i19_1, i19_2, i19_3, i19_4, i19_5, i19_6, i19_7⟩ := hI
  unfold wX11_classes_19'
  refine ⟨by omega, ?_⟩
  refine ⟨fun h20 => ?_, fun h20 => ?_⟩
  · intro q6
    intro q7
    have e8 : S19h.1 54 0 = S12.1 54 0 := hS19h.1 0 (by decide)
    have e9 : S12.1 54 0 = S7.1 54 0 := hS12.1 0 (by decide)
    have e10 : S7.1 54 0 = S2.1 54 0 := hS7.1 0 (by decide)
    have e11 : S2.1 54 0 = S.1 54 0 := hS2.1 0 (by decide)
    refine ⟨fun h96 => ?_, fun h96 => ?_⟩
    · unfold wX11_classes_104
      refine tX11_want (by omega) (fun r104 S104 hS104 n104_0 => ?_)
      intro q12
      refine ⟨fun h111 => ?_, fun h111 => ?_⟩
      · have e13 : S104.1 54 22 = S19h.1 54 22 := hS104.1 22 (by decide)
        exact tX11_classes_142   (Ch.wk (Ch.tr (Ch.tr (Ch.tr (Ch.tr hS2 hS7) hS12) hS19h) hS104) (by decide) (by decide)) (by omega) (by omega) (by omega) (Ch.wk (Ch.tr (Ch.tr (Ch.tr (Ch.tr hS2 hS7) hS12) hS19h) hS104) (by decide) (by decide)) (by
              intro x
              have e14 : S104.2 63 x = S19h.2 63 x := congrFun (hS104.2 63 (by decide)) _
              have e15 := i19_5 x
              omega) (by
              intro x y
              have e16 : S104.2 63 (6 + (4 * x + y)) = S19h.2 63 (6 + (4 * x + y)) := congrFun (hS104.2 63 (by decide)) _
              have e17 : S104.2 62 x = S19h.2 62 x := congrFun (hS104.2 62 (by decide)) _
              have e18 := i19_6 x y
              omega) hK
      · intro q19
        have e20 : S104.1 54 24 = S19h.1 54 24 := hS104.1 24 (by decide)
        refine ⟨fun h118 => ?_, fun h118 => ?_⟩
        · unfold wX11_classes_129
          intro q21
          have e22 : S104.1 54 0 = S19h.1 54 0 := hS104.1 0 (by decide)
          have e23 : S19h.1 54 0 = S12.1 54 0 := hS19h.1 0 (by decide)
          have e24 : S12.1 54 0 = S7.1 54 0 := hS12.1 0 (by decide)
          have e25 : S7.1 54 0 = S2.1 54 0 := hS7.1 0 (by decide)
          have e26 : S2.1 54 0 = S.1 54 0 := hS2.1 0 (by decide)
          intro S134 hS134e
          have hS134 : Ch [22] [] S104 S134 := Ch_I hS134e
          have hS134v : S134.1 54 22 = S104.1 54 0 := pI_at hS134e
          intro S139 hS139e
          have hS139 : Ch [23] [] S134 S139 := Ch_I hS139e
          have hS139v : S139.1 54 23 = 1 := pI_at hS139e
          have e27 : S139.1 54 22 = S134.1 54 22 := hS139.1 22 (by decide)
          exact tX11_classes_142   (Ch.wk (Ch.tr (Ch.tr (Ch.tr (Ch.tr (Ch.tr (Ch.tr hS2 hS7) hS12) hS19h) hS104) hS134) hS139) (by decide) (by decide)) (by omega) (by omega) (by omega) (Ch.wk (Ch.tr (Ch.tr (Ch.tr (Ch.tr (Ch.tr (Ch.tr hS2 hS7) hS12) hS19h) hS104) hS134) hS139) (by decide) (by decide)) (by
                intro x
                have e28 : S139.2 63 x = S134.2 63 x := congrFun (hS139.2 63 (by decide)) _
                have e29 : S134.2 63 x = S104.2 63 x := congrFun (hS134.2 63 (by decide)) _
                have e30 : S104.2 63 x = S19h.2 63 x := congrFun (hS104.2 63 (by decide)) _
                have e31 := i19_5 x
                omega) (by
                intro x y
                have e32 : S139.2 63 (6 + (4 * x + y)) = S134.2 63 (6 + (4 * x + y)) := congrFun (hS139.2 63 (by decide)) _
                have e33 : S134.2 63 (6 + (4 * x + y)) = S104.2 63 (6 + (4 * x + y)) := congrFun (hS134.2 63 (by decide)) _
                have e34 : S104.2 63 (6 + (4 * x + y)) = S19h.2 63 (6 + (4 * x + y)) := congrFun (hS104.2 63 (by decide)) _
                have e35 : S139.2 62 x = S134.2 62 x := congrFun (hS139.2 62 (by decide)) _
                have e36 : S134.2 62 x = S104.2 62 x := congrFun (hS134.2 62 (by decide)) _
                have e37 : S104.2 62 x = S19h.2 62 x := congrFun (hS104.2 62 (by decide)) _
                have e38 := i19_6 x y
                omega) hK
        · refine ⟨by omega, ?_⟩
          refine tX11_isMixed (by omega) (fun r123 S123 hS123 n123_0 => ?_)
          refine ⟨by omega, ?_⟩
          refine ⟨fun h126 => ?_, fun h126 => ?_⟩
          · have e39 : S123.1 54 22 = S104.1 54 22 := hS123.1 22 (by decide)
            have e40 : S104.1 54 22 = S19h.1 54 22 := hS104.1 22 (by decide)
            have e41 : S123.1 54 23 = S104.1 54 23 := hS123.1 23 (by decide)
            have e42 : S123.1 54 23 = S104.1 54 23 := hS123.1 23 (by decide)
            have e43 : S123.1 54 23 = S104.1 54 23 := hS123.1 23 (by decide)
            exact tX11_classes_142   (Ch.wk (Ch.tr (Ch.tr (Ch.tr (Ch.tr (Ch.tr hS2 hS7) hS12) hS19h) hS104) hS123) (by decide) (by decide)) (by omega) (by omega) (by omega) (Ch.wk (Ch.tr (Ch.tr (Ch.tr (Ch.tr (Ch.tr hS2 hS7) hS12) hS19h) hS104) hS123) (by decide) (by decide)) (by
                  intro x
                  have e44 : S123.2 63 x = S104.2 63 x := congrFun (hS123.2 63 (by decide)) _
                  have e45 : S104.2 63 x = S19h.2 63 x := congrFun (hS104.2 63 (by decide)) _
                  have e46 := i19_5 x
                  omega) (by
                  intro x y
                  have e47 : S123.2 63 (6 + (4 * x + y)) = S104.2 63 (6 + (4 * x + y)) := congrFun (hS123.2 63 (by decide)) _
                  have e48 : S104.2 63 (6 + (4 * x + y)) = S19h.2 63 (6 + (4 * x + y)) := congrFun (hS104.2 63 (by decide)) _
                  have e49 : S123.2 62 x = S104.2 62 x := congrFun (hS123.2 62 (by decide)) _
                  have e50 : S104.2 62 x = S19h.2 62 x := congrFun (hS104.2 62 (by decide)) _
                  have e51 := i19_6 x y
                  omega) hK
          · unfold wX11_classes_129
            intro q52
            have e53 : S123.1 54 0 = S104.1 54 0 := hS123.1 0 (by decide)
            have e54 : S104.1 54 0 = S19h.1 54 0 := hS104.1 0 (by decide)
            have e55 : S19h.1 54 0 = S12.1 54 0 := hS19h.1 0 (by decide)
            have e56 : S12.1 54 0 = S7.1 54 0 := hS12.1 0 (by decide)
            have e57 : S7.1 54 0 = S2.1 54 0 := hS7.1 0 (by decide)
            have e58 : S2.1 54 0 = S.1 54 0 := hS2.1 0 (by decide)
            intro S134 hS134e
            have hS134 : Ch [22] [] S123 S134 := Ch_I hS134e
            have hS134v : S134.1 54 22 = S123.1 54 0 := pI_at hS134e
            intro S139 hS139e
            have hS139 : Ch [23] [] S134 S139 := Ch_I hS139e
            have hS139v : S139.1 54 23 = 1 := pI_at hS139e
            have e59 : S139.1 54 22 = S134.1 54 22 := hS139.1 22 (by decide)
            exact tX11_classes_142   (Ch.wk (Ch.tr (Ch.tr (Ch.tr (Ch.tr (Ch.tr (Ch.tr (Ch.tr hS2 hS7) hS12) hS19h) hS104) hS123) hS134) hS139) (by decide) (by decide)) (by omega) (by omega) (by omega) (Ch.wk (Ch.tr (Ch.tr (Ch.tr (Ch.tr (Ch.tr (Ch.tr (Ch.tr hS2 hS7) hS12) hS19h) hS104) hS123) hS134) hS139) (by decide) (by decide)) (by
                  intro x
                  have e60 : S139.2 63 x = S134.2 63 x := congrFun (hS139.2 63 (by decide)) _
                  have e61 : S134.2 63 x = S123.2 63 x := congrFun (hS134.2 63 (by decide)) _
                  have e62 : S123.2 63 x = S104.2 63 x := congrFun (hS123.2 63 (by decide)) _
                  have e63 : S104.2 63 x = S19h.2 63 x := congrFun (hS104.2 63 (by decide)) _
                  have e64 := i19_5 x
                  omega) (by
                  intro x y
                  have e65 : S139.2 63 (6 + (4 * x + y)) = S134.2 63 (6 + (4 * x + y)) := congrFun (hS139.2 63 (by decide)) _
                  have e66 : S134.2 63 (6 + (4 * x + y)) = S123.2 63 (6 + (4 * x + y)) := congrFun (hS134.2 63 (by decide)) _
                  have e67 : S123.2 63 (6 + (4 * x + y)) = S104.2 63 (6 + (4 * x + y)) := congrFun (hS123.2 63 (by decide)) _
                  have e68 : S104.2 63 (6 + (4 * x + y)) = S19h.2 63 (6 + (4 * x + y)) := congrFun (hS104.2 63 (by decide)) _
                  have e69 : S139.2 62 x = S134.2 62 x := congrFun (hS139.2 62 (by decide)) _
                  have e70 : S134.2 62 x = S123.2 62 x := congrFun (hS134.2 62 (by decide)) _
                  have e71 : S123.2 62 x = S104.2 62 x := congrFun (hS123.2 62 (by decide)) _
                  have e72 : S104.2 62 x = S19h.2 62 x := congrFun (hS104.2 62 (by decide)) _
                  have e73 := i19_6 x y
                  omega) hK
    · unfold wX11_classes_104
      refine tX11_want (by omega) (fun r104 S104 hS104 n104_0 => ?_)
      intro q74
      refine ⟨fun h111 => ?_, fun h111 => ?_⟩
      · have e75 : S104.1 54 22 = S19h.1 54 22 := hS104.1 22 (by decide)
        exact tX11_classes_142   (Ch.wk (Ch.tr (Ch.tr (Ch.tr (Ch.tr hS2 hS7) hS12) hS19h) hS104) (by decide) (by decide)) (by omega) (by omega) (by omega) (Ch.wk (Ch.tr (Ch.tr (Ch.tr (Ch.tr hS2 hS7) hS12) hS19h) hS104) (by decide) (by decide)) (by
              intro x
              have e76 : S104.2 63 x = S19h.2 63 x := congrFun (hS104.2 63 (by decide)) _
              have e77 := i19_5 x
              omega) (by
              intro x y
              have e78 : S104.2 63 (6 + (4 * x + y)) = S19h.2 63 (6 + (4 * x + y)) := congrFun (hS104.2 63 (by decide)) _
              have e79 : S104.2 62 x = S19h.2 62 x := congrFun (hS104.2 62 (by decide)) _
              have e80 := i19_6 x y
              omega) hK
      · intro q81
        have e82 : S104.1 54 24 = S19h.1 54 24 := hS104.1 24 (by decide)
        refine ⟨fun h118 => ?_, fun h118 => ?_⟩
        · unfold wX11_classes_129
          intro q83
          have e84 : S104.1 54 0 = S19h.1 54 0 := hS104.1 0 (by decide)
          have e85 : S19h.1 54 0 = S12.1 54 0 := hS19h.1 0 (by decide)
          have e86 : S12.1 54 0 = S7.1 54 0 := hS12.1 0 (by decide)
          have e87 : S7.1 54 0 = S2.1 54 0 := hS7.1 0 (by decide)
          have e88 : S2.1 54 0 = S.1 54 0 := hS2.1 0 (by decide)
          intro S134 hS134e
          have hS134 : Ch [22] [] S104 S134 := Ch_I hS134e
          have hS134v : S134.1 54 22 = S104.1 54 0 := pI_at hS134e
          intro S139 hS139e
          have hS139 : Ch [23] [] S134 S139 := Ch_I hS139e
          have hS139v : S139.1 54 23 = 1 := pI_at hS139e
          have e89 : S139.1 54 22 = S134.1 54 22 := hS139.1 22 (by decide)
          exact tX11_classes_142   (Ch.wk (Ch.tr (Ch.tr (Ch.tr (Ch.tr (Ch.tr (Ch.tr hS2 hS7) hS12) hS19h) hS104) hS134) hS139) (by decide) (by decide)) (by omega) (by omega) (by omega) (Ch.wk (Ch.tr (Ch.tr (Ch.tr (Ch.tr (Ch.tr (Ch.tr hS2 hS7) hS12) hS19h) hS104) hS134) hS139) (by decide) (by decide)) (by
                intro x
                have e90 : S139.2 63 x = S134.2 63 x := congrFun (hS139.2 63 (by decide)) _
                have e91 : S134.2 63 x = S104.2 63 x := congrFun (hS134.2 63 (by decide)) _
                have e92 : S104.2 63 x = S19h.2 63 x := congrFun (hS104.2 63 (by decide)) _
                have e93 := i19_5 x
                omega) (by
                intro x y
                have e94 : S139.2 63 (6 + (4 * x + y)) = S134.2 63 (6 + (4 * x + y)) := congrFun (hS139.2 63 (by decide)) _
                have e95 : S134.2 63 (6 + (4 * x + y)) = S104.2 63 (6 + (4 * x + y)) := congrFun (hS134.2 63 (by decide)) _
                have e96 : S104.2 63 (6 + (4 * x + y)) = S19h.2 63 (6 + (4 * x + y)) := congrFun (hS104.2 63 (by decide)) _
                have e97 : S139.2 62 x = S134.2 62 x := congrFun (hS139.2 62 (by decide)) _
                have e98 : S134.2 62 x = S104.2 62 x := congrFun (hS134.2 62 (by decide)) _
                have e99 : S104.2 62 x = S19h.2 62 x := congrFun (hS104.2 62 (by decide)) _
                have e100 := i19_6 x y
                omega) hK
        · refine ⟨by omega, ?_⟩
          refine tX11_isMixed (by omega) (fun r123 S123 hS123 n123_0 => ?_)
          refine ⟨by omega, ?_⟩
          refine ⟨fun h126 => ?_, fun h126 => ?_⟩
          · have e101 : S123.1 54 22 = S104.1 54 22 := hS123.1 22 (by decide)
            have e102 : S104.1 54 22 = S19h.1 54 22 := hS104.1 22 (by decide)
            have e103 : S123.1 54 23 = S104.1 54 23 := hS123.1 23 (by decide)
            have e104 : S123.1 54 23 = S104.1 54 23 := hS123.1 23 (by decide)
            have e105 : S123.1 54 23 = S104.1 54 23 := hS123.1 23 (by decide)
            exact tX11_classes_142   (Ch.wk (Ch.tr (Ch.tr (Ch.tr (Ch.tr (Ch.tr hS2 hS7) hS12) hS19h) hS104) hS123) (by decide) (by decide)) (by omega) (by omega) (by omega) (Ch.wk (Ch.tr (Ch.tr (Ch.tr (Ch.tr (Ch.tr hS2 hS7) hS12) hS19h) hS104) hS123) (by decide) (by decide)) (by
                  intro x
                  have e106 : S123.2 63 x = S104.2 63 x := congrFun (hS123.2 63 (by decide)) _
                  have e107 : S104.2 63 x = S19h.2 63 x := congrFun (hS104.2 63 (by decide)) _
                  have e108 := i19_5 x
                  omega) (by
                  intro x y
                  have e109 : S123.2 63 (6 + (4 * x + y)) = S104.2 63 (6 + (4 * x + y)) := congrFun (hS123.2 63 (by decide)) _
                  have e110 : S104.2 63 (6 + (4 * x + y)) = S19h.2 63 (6 + (4 * x + y)) := congrFun (hS104.2 63 (by decide)) _
                  have e111 : S123.2 62 x = S104.2 62 x := congrFun (hS123.2 62 (by decide)) _
                  have e112 : S104.2 62 x = S19h.2 62 x := congrFun (hS104.2 62 (by decide)) _
                  have e113 := i19_6 x y
                  omega) hK
          · unfold wX11_classes_129
            intro q114
            have e115 : S123.1 54 0 = S104.1 54 0 := hS123.1 0 (by decide)
            have e116 : S104.1 54 0 = S19h.1 54 0 := hS104.1 0 (by decide)
            have e117 : S19h.1 54 0 = S12.1 54 0 := hS19h.1 0 (by decide)
            have e118 : S12.1 54 0 = S7.1 54 0 := hS12.1 0 (by decide)
            have e119 : S7.1 54 0 = S2.1 54 0 := hS7.1 0 (by decide)
            have e120 : S2.1 54 0 = S.1 54 0 := hS2.1 0 (by decide)
            intro S134 hS134e
            have hS134 : Ch [22] [] S123 S134 := Ch_I hS134e
            have hS134v : S134.1 54 22 = S123.1 54 0 := pI_at hS134e
            intro S139 hS139e
            have hS139 : Ch [23] [] S134 S139 := Ch_I hS139e
            have hS139v : S139.1 54 23 = 1 := pI_at hS139e
            have e121 : S139.1 54 22 = S134.1 54 22 := hS139.1 22 (by decide)
            exact tX11_classes_142   (Ch.wk (Ch.tr (Ch.tr (Ch.tr (Ch.tr (Ch.tr (Ch.tr (Ch.tr hS2 hS7) hS12) hS19h) hS104) hS123) hS134) hS139) (by decide) (by decide)) (by omega) (by omega) (by omega) (Ch.wk (Ch.tr (Ch.tr (Ch.tr (Ch.tr (Ch.tr (Ch.tr (Ch.tr hS2 hS7) hS12) hS19h) hS104) hS123) hS134) hS139) (by decide) (by decide)) (by
                  intro x
                  have e122 : S139.2 63 x = S134.2 63 x := congrFun (hS139.2 63 (by decide)) _
                  have e123 : S134.2 63 x = S123.2 63 x := congrFun (hS134.2 63 (by decide)) _
                  have e124 : S123.2 63 x = S104.2 63 x := congrFun (hS123.2 63 (by decide)) _
                  have e125 : S104.2 63 x = S19h.2 63 x := congrFun (hS104.2 63 (by decide)) _
                  have e126 := i19_5 x
                  omega) (by
                  intro x y
                  have e127 : S139.2 63 (6 + (4 * x + y)) = S134.2 63 (6 + (4 * x + y)) := congrFun (hS139.2 63 (by decide)) _
                  have e128 : S134.2 63 (6 + (4 * x + y)) = S123.2 63 (6 + (4 * x + y)) := congrFun (hS134.2 63 (by decide)) _
                  have e129 : S123.2 63 (6 + (4 * x + y)) = S104.2 63 (6 + (4 * x + y)) := congrFun (hS123.2 63 (by decide)) _
                  have e130 : S104.2 63 (6 + (4 * x + y)) = S19h.2 63 (6 + (4 * x + y)) := congrFun (hS104.2 63 (by decide)) _
                  have e131 : S139.2 62 x = S134.2 62 x := congrFun (hS139.2 62 (by decide)) _
                  have e132 : S134.2 62 x = S123.2 62 x := congrFun (hS134.2 62 (by decide)) _
                  have e133 : S123.2 62 x = S104.2 62 x := congrFun (hS123.2 62 (by decide)) _
                  have e134 : S104.2 62 x = S19h.2 62 x := congrFun (hS104.2 62 (by decide)) _
                  have e135 := i19_6 x y
                  omega) hK
  · refine ⟨by omega, ?_⟩
    have e136 : S19h.1 54 0 = S12.1 54 0 := hS19h.1 0 (by decide)
    have e137 : S12.1 54 0 = S7.1 54 0 := hS12.1 0 (by decide)
    have e138 : S7.1 54 0 = S2.1 54 0 := hS7.1 0 (by decide)
    have e139 : S2.1 54 0 = S.1 54 0 := hS2.1 0 (by decide)
    have e140 : S19h.1 54 0 = S12.1 54 0 := hS19h.1 0 (by decide)
    have e141 : S12.1 54 0 = S7.1 54 0 := hS12.1 0 (by decide)
    have e142 : S7.1 54 0 = S2.1 54 0 := hS7.1 0 (by decide)
    have e143 : S2.1 54 0 = S.1 54 0 := hS2.1 0 (by decide)
    refine tX11_oneClass (by omega) (by omega) (by omega) (fun r25 S25 hS25 n25_0 n25_1 n25_2 n25_3 n25_4 => ?_)
    intro q144
    refine ⟨fun h35 => ?_, fun h35 => ?_⟩
    · unfold wX11_classes_61
      unfold wX11_classes_62
      refine ⟨fun h65 => ?_, fun h65 => ?_⟩
      · intro q145
        unfold wX11_classes_81
        refine ⟨by omega, ?_⟩
        intro S81 hS81e
        have hS81 : Ch [22] [] S25 S81 := Ch_I hS81e
        have hS81v : S81.1 54 22 = S25.1 54 22 := pI_at hS81e
        have e146 : S81.1 54 23 = S25.1 54 23 := hS81.1 23 (by decide)
        have e147 : S81.1 54 23 = S25.1 54 23 := hS81.1 23 (by decide)
        have e148 : S81.1 54 23 = S25.1 54 23 := hS81.1 23 (by decide)
        exact ⟨⟨(Ch.wk (Ch.tr (Ch.tr hS19h hS25) hS81) (by decide) (by decide)), by omega, by omega, by omega, by omega, by omega, (by
              intro x
              have e149 : S81.2 63 x = S25.2 63 x := congrFun (hS81.2 63 (by decide)) _
              have e150 := n25_3 x
              have e151 := i19_5 x
              have e152 := n25_1
              omega), (by
              intro x y
              have e153 : S81.2 63 (6 + (4 * x + y)) = S25.2 63 (6 + (4 * x + y)) := congrFun (hS81.2 63 (by decide)) _
              have e154 := n25_3 (6 + (4 * x + y))
              have e155 : S81.2 62 x = S25.2 62 x := congrFun (hS81.2 62 (by decide)) _
              have e156 := n25_4 x
              have e157 := i19_6 x y
              have e158 := n25_2 y
              omega), by omega⟩, show (7 - ((v19_1 + 1))).toNat < (7 - v19_1).toNat by omega⟩
      · intro q159
        unfold wX11_classes_81
        refine ⟨by omega, ?_⟩
        intro S81 hS81e
        have hS81 : Ch [22] [] S25 S81 := Ch_I hS81e
        have hS81v : S81.1 54 22 = (S25.1 54 22 + 1) := pI_at hS81e
        have e160 : S81.1 54 23 = S25.1 54 23 := hS81.1 23 (by decide)
        have e161 : S81.1 54 23 = S25.1 54 23 := hS81.1 23 (by decide)
        have e162 : S81.1 54 23 = S25.1 54 23 := hS81.1 23 (by decide)
        exact ⟨⟨(Ch.wk (Ch.tr (Ch.tr hS19h hS25) hS81) (by decide) (by decide)), by omega, by omega, by omega, by omega, by omega, (by
              intro x
              have e163 : S81.2 63 x = S25.2 63 x := congrFun (hS81.2 63 (by decide)) _
              have e164 := n25_3 x
              have e165 := i19_5 x
              have e166 := n25_1
              omega), (by
              intro x y
              have e167 : S81.2 63 (6 + (4 * x + y)) = S25.2 63 (6 + (4 * x + y)) := congrFun (hS81.2 63 (by decide)) _
              have e168 := n25_3 (6 + (4 * x + y))
              have e169 : S81.2 62 x = S25.2 62 x := congrFun (hS81.2 62 (by decide)) _
              have e170 := n25_4 x
              have e171 := i19_6 x y
              have e172 := n25_2 y
              omega), by omega⟩, show (7 - ((v19_1 + 1))).toNat < (7 - v19_1).toNat by omega⟩
    · refine ⟨by omega, ?_⟩
      refine ⟨fun h41 => ?_, fun h41 => ?_⟩
      · unfold wX11_classes_61
        unfold wX11_classes_62
        refine ⟨fun h65 => ?_, fun h65 => ?_⟩
        · intro q173
          unfold wX11_classes_81
          refine ⟨by omega, ?_⟩
          intro S81 hS81e
          have hS81 : Ch [22] [] S25 S81 := Ch_I hS81e
          have hS81v : S81.1 54 22 = S25.1 54 22 := pI_at hS81e
          have e174 : S81.1 54 23 = S25.1 54 23 := hS81.1 23 (by decide)
          have e175 : S81.1 54 23 = S25.1 54 23 := hS81.1 23 (by decide)
          have e176 : S81.1 54 23 = S25.1 54 23 := hS81.1 23 (by decide)
          exact ⟨⟨(Ch.wk (Ch.tr (Ch.tr hS19h hS25) hS81) (by decide) (by decide)), by omega, by omega, by omega, by omega, by omega, (by
                intro x
                have e177 : S81.2 63 x = S25.2 63 x := congrFun (hS81.2 63 (by decide)) _
                have e178 := n25_3 x
                have e179 := i19_5 x
                have e180 := n25_1
                omega), (by
                intro x y
                have e181 : S81.2 63 (6 + (4 * x + y)) = S25.2 63 (6 + (4 * x + y)) := congrFun (hS81.2 63 (by decide)) _
                have e182 := n25_3 (6 + (4 * x + y))
                have e183 : S81.2 62 x = S25.2 62 x := congrFun (hS81.2 62 (by decide)) _
                have e184 := n25_4 x
                have e185 := i19_6 x y
                have e186 := n25_2 y
                omega), by omega⟩, show (7 - ((v19_1 + 1))).toNat < (7 - v19_1).toNat by omega⟩
        · intro q187
          unfold wX11_classes_81
          refine ⟨by omega, ?_⟩
          intro S81 hS81e
          have hS81 : Ch [22] [] S25 S81 := Ch_I hS81e
          have hS81v : S81.1 54 22 = (S25.1 54 22 + 1) := pI_at hS81e
          have e188 : S81.1 54 23 = S25.1 54 23 := hS81.1 23 (by decide)
          have e189 : S81.1 54 23 = S25.1 54 23 := hS81.1 23 (by decide)
          have e190 : S81.1 54 23 = S25.1 54 23 := hS81.1 23 (by decide)
          exact ⟨⟨(Ch.wk (Ch.tr (Ch.tr hS19h hS25) hS81) (by decide) (by decide)), by omega, by omega, by omega, by omega, by omega, (by
                intro x
                have e191 : S81.2 63 x = S25.2 63 x := congrFun (hS81.2 63 (by decide)) _
                have e192 := n25_3 x
                have e193 := i19_5 x
                have e194 := n25_1
                omega), (by
                intro x y
                have e195 : S81.2 63 (6 + (4 * x + y)) = S25.2 63 (6 + (4 * x + y)) := congrFun (hS81.2 63 (by decide)) _
                have e196 := n25_3 (6 + (4 * x + y))
                have e197 : S81.2 62 x = S25.2 62 x := congrFun (hS81.2 62 (by decide)) _
                have e198 := n25_4 x
                have e199 := i19_6 x y
                have e200 := n25_2 y
                omega), by omega⟩, show (7 - ((v19_1 + 1))).toNat < (7 - v19_1).toNat by omega⟩
      · intro q201
        have e202 : S25.1 54 0 = S19h.1 54 0 := hS25.1 0 (by decide)
        have e203 : S19h.1 54 0 = S12.1 54 0 := hS19h.1 0 (by decide)
        have e204 : S12.1 54 0 = S7.1 54 0 := hS12.1 0 (by decide)
        have e205 : S7.1 54 0 = S2.1 54 0 := hS7.1 0 (by decide)
        have e206 : S2.1 54 0 = S.1 54 0 := hS2.1 0 (by decide)
        have e207 : S25.2 55 (S25.1 54 22) = S19h.2 55 (S25.1 54 22) := congrFun (hS25.2 55 (by decide)) _
        have e208 : S19h.2 55 (S25.1 54 22) = S12.2 55 (S25.1 54 22) := congrFun (hS19h.2 55 (by decide)) _
        have e209 : S12.2 55 (S25.1 54 22) = S7.2 55 (S25.1 54 22) := congrFun (hS12.2 55 (by decide)) _
        have e210 : S7.2 55 (S25.1 54 22) = S2.2 55 (S25.1 54 22) := congrFun (hS7.2 55 (by decide)) _
        have e211 : S2.2 55 (S25.1 54 22) = S.2 55 (S25.1 54 22) := congrFun (hS2.2 55 (by decide)) _
        refine tX11_signAt (by omega) (fun r49 S49 hS49 n49_0 n49_1 => ?_)
        refine ⟨by omega, ?_⟩
        refine ⟨fun h54 => ?_, fun h54 => ?_⟩
        · unfold wX11_classes_61
          unfold wX11_classes_62
          refine ⟨fun h65 => ?_, fun h65 => ?_⟩
          · intro q212
            have e213 : S49.1 54 22 = S25.1 54 22 := hS49.1 22 (by decide)
            unfold wX11_classes_81
            refine ⟨by omega, ?_⟩
            intro S81 hS81e
            have hS81 : Ch [22] [] S49 S81 := Ch_I hS81e
            have hS81v : S81.1 54 22 = S49.1 54 22 := pI_at hS81e
            have e214 : S81.1 54 23 = S49.1 54 23 := hS81.1 23 (by decide)
            have e215 : S49.1 54 23 = S25.1 54 23 := hS49.1 23 (by decide)
            have e216 : S81.1 54 23 = S49.1 54 23 := hS81.1 23 (by decide)
            have e217 : S49.1 54 23 = S25.1 54 23 := hS49.1 23 (by decide)
            have e218 : S81.1 54 23 = S49.1 54 23 := hS81.1 23 (by decide)
            have e219 : S49.1 54 23 = S25.1 54 23 := hS49.1 23 (by decide)
            exact ⟨⟨(Ch.wk (Ch.tr (Ch.tr (Ch.tr hS19h hS25) hS49) hS81) (by decide) (by decide)), by omega, by omega, by omega, by omega, by omega, (by
                  intro x
                  have e220 : S81.2 63 x = S49.2 63 x := congrFun (hS81.2 63 (by decide)) _
                  have e221 : S49.2 63 x = S25.2 63 x := congrFun (hS49.2 63 (by decide)) _
                  have e222 := n25_3 x
                  have e223 := i19_5 x
                  have e224 := n25_1
                  omega), (by
                  intro x y
                  have e225 : S81.2 63 (6 + (4 * x + y)) = S49.2 63 (6 + (4 * x + y)) := congrFun (hS81.2 63 (by decide)) _
                  have e226 : S49.2 63 (6 + (4 * x + y)) = S25.2 63 (6 + (4 * x + y)) := congrFun (hS49.2 63 (by decide)) _
                  have e227 := n25_3 (6 + (4 * x + y))
                  have e228 : S81.2 62 x = S49.2 62 x := congrFun (hS81.2 62 (by decide)) _
                  have e229 : S49.2 62 x = S25.2 62 x := congrFun (hS49.2 62 (by decide)) _
                  have e230 := n25_4 x
                  have e231 := i19_6 x y
                  have e232 := n25_2 y
                  omega), by omega⟩, show (7 - ((v19_1 + 1))).toNat < (7 - v19_1).toNat by omega⟩
          · intro q233
            have e234 : S49.1 54 22 = S25.1 54 22 := hS49.1 22 (by decide)
            unfold wX11_classes_81
            refine ⟨by omega, ?_⟩
            intro S81 hS81e
            have hS81 : Ch [22] [] S49 S81 := Ch_I hS81e
            have hS81v : S81.1 54 22 = (S49.1 54 22 + 1) := pI_at hS81e
            have e235 : S81.1 54 23 = S49.1 54 23 := hS81.1 23 (by decide)
            have e236 : S49.1 54 23 = S25.1 54 23 := hS49.1 23 (by decide)
            have e237 : S81.1 54 23 = S49.1 54 23 := hS81.1 23 (by decide)
            have e238 : S49.1 54 23 = S25.1 54 23 := hS49.1 23 (by decide)
            have e239 : S81.1 54 23 = S49.1 54 23 := hS81.1 23 (by decide)
            have e240 : S49.1 54 23 = S25.1 54 23 := hS49.1 23 (by decide)
            exact ⟨⟨(Ch.wk (Ch.tr (Ch.tr (Ch.tr hS19h hS25) hS49) hS81) (by decide) (by decide)), by omega, by omega, by omega, by omega, by omega, (by
                  intro x
                  have e241 : S81.2 63 x = S49.2 63 x := congrFun (hS81.2 63 (by decide)) _
                  have e242 : S49.2 63 x = S25.2 63 x := congrFun (hS49.2 63 (by decide)) _
                  have e243 := n25_3 x
                  have e244 := i19_5 x
                  have e245 := n25_1
                  omega), (by
                  intro x y
                  have e246 : S81.2 63 (6 + (4 * x + y)) = S49.2 63 (6 + (4 * x + y)) := congrFun (hS81.2 63 (by decide)) _
                  have e247 : S49.2 63 (6 + (4 * x + y)) = S25.2 63 (6 + (4 * x + y)) := congrFun (hS49.2 63 (by decide)) _
                  have e248 := n25_3 (6 + (4 * x + y))
                  have e249 : S81.2 62 x = S49.2 62 x := congrFun (hS81.2 62 (by decide)) _
                  have e250 : S49.2 62 x = S25.2 62 x := congrFun (hS49.2 62 (by decide)) _
                  have e251 := n25_4 x
                  have e252 := i19_6 x y
                  have e253 := n25_2 y
                  omega), by omega⟩, show (7 - ((v19_1 + 1))).toNat < (7 - v19_1).toNat by omega⟩
        · unfold wX11_classes_62
          refine ⟨fun h65 => ?_, fun h65 => ?_⟩
          · intro q254
            have e255 : S49.1 54 22 = S25.1 54 22 := hS49.1 22 (by decide)
            unfold wX11_classes_81
            refine ⟨by omega, ?_⟩
            intro S81 hS81e
            have hS81 : Ch [22] [] S49 S81 := Ch_I hS81e
            have hS81v : S81.1 54 22 = S49.1 54 22 := pI_at hS81e
            have e256 : S81.1 54 23 = S49.1 54 23 := hS81.1 23 (by decide)
            have e257 : S49.1 54 23 = S25.1 54 23 := hS49.1 23 (by decide)
            have e258 : S81.1 54 23 = S49.1 54 23 := hS81.1 23 (by decide)
            have e259 : S49.1 54 23 = S25.1 54 23 := hS49.1 23 (by decide)
            have e260 : S81.1 54 23 = S49.1 54 23 := hS81.1 23 (by decide)
            have e261 : S49.1 54 23 = S25.1 54 23 := hS49.1 23 (by decide)
            exact ⟨⟨(Ch.wk (Ch.tr (Ch.tr (Ch.tr hS19h hS25) hS49) hS81) (by decide) (by decide)), by omega, by omega, by omega, by omega, by omega, (by
                  intro x
                  have e262 : S81.2 63 x = S49.2 63 x := congrFun (hS81.2 63 (by decide)) _
                  have e263 : S49.2 63 x = S25.2 63 x := congrFun (hS49.2 63 (by decide)) _
                  have e264 := n25_3 x
                  have e265 := i19_5 x
                  have e266 := n25_1
                  omega), (by
                  intro x y
                  have e267 : S81.2 63 (6 + (4 * x + y)) = S49.2 63 (6 + (4 * x + y)) := congrFun (hS81.2 63 (by decide)) _
                  have e268 : S49.2 63 (6 + (4 * x + y)) = S25.2 63 (6 + (4 * x + y)) := congrFun (hS49.2 63 (by decide)) _
                  have e269 := n25_3 (6 + (4 * x + y))
                  have e270 : S81.2 62 x = S49.2 62 x := congrFun (hS81.2 62 (by decide)) _
                  have e271 : S49.2 62 x = S25.2 62 x := congrFun (hS49.2 62 (by decide)) _
                  have e272 := n25_4 x
                  have e273 := i19_6 x y
                  have e274 := n25_2 y
                  omega), by omega⟩, show (7 - ((v19_1 + 1))).toNat < (7 - v19_1).toNat by omega⟩
          · intro q275
            have e276 : S49.1 54 22 = S25.1 54 22 := hS49.1 22 (by decide)
            unfold wX11_classes_81
            refine ⟨by omega, ?_⟩
            intro S81 hS81e
            have hS81 : Ch [22] [] S49 S81 := Ch_I hS81e
            have hS81v : S81.1 54 22 = (S49.1 54 22 + 1) := pI_at hS81e
            have e277 : S81.1 54 23 = S49.1 54 23 := hS81.1 23 (by decide)
            have e278 : S49.1 54 23 = S25.1 54 23 := hS49.1 23 (by decide)
            have e279 : S81.1 54 23 = S49.1 54 23 := hS81.1 23 (by decide)
            have e280 : S49.1 54 23 = S25.1 54 23 := hS49.1 23 (by decide)
            have e281 : S81.1 54 23 = S49.1 54 23 := hS81.1 23 (by decide)
            have e282 : S49.1 54 23 = S25.1 54 23 := hS49.1 23 (by decide)
            exact ⟨⟨(Ch.wk (Ch.tr (Ch.tr (Ch.tr hS19h hS25) hS49) hS81) (by decide) (by decide)), by omega, by omega, by omega, by omega, by omega, (by
                  intro x
                  have e283 : S81.2 63 x = S49.2 63 x := congrFun (hS81.2 63 (by decide)) _
                  have e284 : S49.2 63 x = S25.2 63 x := congrFun (hS49.2 63 (by decide)) _
                  have e285 := n25_3 x
                  have e286 := i19_5 x
                  have e287 := n25_1
                  omega), (by
                  intro x y
                  have e288 : S81.2 63 (6 + (4 * x + y)) = S49.2 63 (6 + (4 * x + y)) := congrFun (hS81.2 63 (by decide)) _
                  have e289 : S49.2 63 (6 + (4 * x + y)) = S25.2 63 (6 + (4 * x + y)) := congrFun (hS49.2 63 (by decide)) _
                  have e290 := n25_3 (6 + (4 * x + y))
                  have e291 : S81.2 62 x = S49.2 62 x := congrFun (hS81.2 62 (by decide)) _
                  have e292 : S49.2 62 x = S25.2 62 x := congrFun (hS49.2 62 (by decide)) _
                  have e293 := n25_4 x
                  have e294 := i19_6 x y
                  have e295 := n25_2 y
                  omega), by omega⟩, show (7 - ((v19_1 + 1))).toNat < (7 - v19_1).toNat by omega⟩

set_option maxRecDepth 100000 in
set_option maxHeartbeats 4000000 in
theorem tX11_count {a1 : Int} {S : St} {K : Int → St → Prop}  (hK : ∀ (r : Int) (S' : St), Ch [] [] S S' → (rng r) → K r S') : wX11_count a1 S K := by
  unfold wX11_count
  intro g1
  unfold wX11_count_4
  refine ⟨fun u1 u2 u3 Sx => Ch [] [] S Sx ∧ a1 = u1 ∧ (iv 0 6 u3) ∧ (iv 0 6 u2) ∧ (u2 ≤ u3), fun u1 u2 u3 Sx => (7 - u3).toNat, ?_, fun v4_1 v4_2 v4_3 S4h hI => ?_⟩
  · exact ⟨Ch.re, rfl, by omega, by omega, by omega⟩
  obtain ⟨hS4h, rfl, i4_0, i4_1, i4_2⟩ := hI
  unfold wX11_count_4'
  intro q1
  have e2 : S4h.1 54 2 = S.1 54 2 := hS4h.1 2 (by decide)
  refine ⟨by omega, ?_⟩
  refine ⟨fun h9 => ?_, fun h9 => ?_⟩
  · refine ⟨by omega, ?_⟩
    refine ⟨fun h3 => ?_, fun h3 => ?_, fun h3 => ?_, fun h3 => ?_, fun h3 => ?_, fun h3 => ?_, fun h3 => ?_⟩
    · exact hK ((-1)) S4h (Ch.wk hS4h (by decide) (by decide)) (by omega)
    · exact hK (S4h.1 54 2) S4h (Ch.wk hS4h (by decide) (by decide)) (by omega)
    · refine ⟨by omega, by omega, ?_⟩
      intro q4
      have e5 : S4h.2 67 (0) = S.2 67 (0) := congrFun (hS4h.2 67 (by decide)) _
      exact hK (S4h.2 67 (0)) S4h (Ch.wk hS4h (by decide) (by decide)) (by omega)
    · refine ⟨by omega, by omega, ?_⟩
      intro q6
      have e7 : S4h.2 67 (1) = S.2 67 (1) := congrFun (hS4h.2 67 (by decide)) _
      exact hK (S4h.2 67 (1)) S4h (Ch.wk hS4h (by decide) (by decide)) (by omega)
    · intro q8
      have e9 : S4h.1 54 20 = S.1 54 20 := hS4h.1 20 (by decide)
      exact hK (S4h.1 54 20) S4h (Ch.wk hS4h (by decide) (by decide)) (by omega)
    · intro q10
      have e11 : S4h.1 54 0 = S.1 54 0 := hS4h.1 0 (by decide)
      exact hK (S4h.1 54 0) S4h (Ch.wk hS4h (by decide) (by decide)) (by omega)
    · exact hK (v4_2) S4h (Ch.wk hS4h (by decide) (by decide)) (by omega)
  · refine ⟨by omega, by omega, ?_⟩
    intro q12
    have e13 : S4h.2 61 (v4_3) = S.2 61 (v4_3) := congrFun (hS4h.2 61 (by decide)) _
    refine ⟨fun h18 => ?_, fun h18 => ?_⟩
    · unfold wX11_count_28
      exact ⟨⟨(Ch.wk hS4h (by decide) (by decide)), rfl, by omega, by omega, by omega⟩, show (7 - ((v4_3 + 1))).toNat < (7 - v4_3).toNat by omega⟩
    · unfold wX11_count_28
      exact ⟨⟨(Ch.wk hS4h (by decide) (by decide)), rfl, by omega, by omega, by omega⟩, show (7 - ((v4_3 + 1))).toNat < (7 - v4_3).toNat by omega⟩

set_option maxRecDepth 100000 in
set_option maxHeartbeats 4000000 in
theorem tX11_forbid {a1 a2 : Int} {S : St} {K : Int → St → Prop} (p1 : iv 0 1 a2) (hK : ∀ (r : Int) (S' : St), Ch [] [61] S S' → (iv 0 1 r) → K r S') : wX11_forbid a1 a2 S K := by
  unfold wX11_forbid
  intro g1 g2
  intro q1
  refine ⟨by omega, ?_⟩
  refine tX11_in  (fun r8 S8 hS8 n8_0 => ?_)
  refine ⟨by omega, ?_⟩
  refine ⟨fun h11 => ?_, fun h11 => ?_⟩
  · refine ⟨by omega, by omega, ?_⟩
    intro q2
    have e3 : S8.2 61 (a1) = S.2 61 (a1) := congrFun (hS8.2 61 (by decide)) _
    intro x22 hx22
    subst hx22
    refine ⟨by omega, by omega, ?_⟩
    refine ⟨by omega, ?_⟩
    intro S29 hS29e
    have hS29 : Ch [] [61] S8 S29 := Ch_A hS29e
    have hS29v : ∀ x, S29.2 61 x = if x = a1 then a2 else S8.2 61 x := pA_at hS29e
    exact hK ((S8.2 61 (a1))) S29 (Ch.wk (Ch.tr hS8 hS29) (by decide) (by decide)) (by omega)
  · exact hK (0) S8 (Ch.wk hS8 (by decide) (by decide)) (by omega)

set_option maxRecDepth 100000 in
set_option maxHeartbeats 4000000 in
theorem tX11_wordSign {a1 a2 : Int} {S : St} {K : Int → St → Prop} (p1 : 0 ≤ a2) (hK : ∀ (r : Int) (S' : St), Ch [] [] S S' → (0 ≤ r ∧ r ≤ 127) → (r = 0 ∨ a2 ≤ 8) → K r S') : wX11_wordSign a1 a2 S K := by
  unfold wX11_wordSign
  intro g1 g2
  refine ⟨fun h1 => ?_, fun h1 => ?_⟩
  · refine ⟨fun h47 => ?_, fun h47 => ?_⟩
    · refine ⟨fun h1 => ?_, fun h1 => ?_, fun h1 => ?_, fun h1 => ?_, fun h1 => ?_, fun h1 => ?_, fun h1 => ?_, fun h1 => ?_, fun h1 => ?_, fun h1 => ?_⟩
      · exact hK (0) S (Ch.wk Ch.rf (by decide) (by decide)) (by omega) (by omega)
      · exact hK (114) S (Ch.wk Ch.rf (by decide) (by decide)) (by omega) (by omega)
      · exact hK (101) S (Ch.wk Ch.rf (by decide) (by decide)) (by omega) (by omega)
      · exact hK (102) S (Ch.wk Ch.rf (by decide) (by decide)) (by omega) (by omega)
      · exact hK (101) S (Ch.wk Ch.rf (by decide) (by decide)) (by omega) (by omega)
      · exact hK (114) S (Ch.wk Ch.rf (by decide) (by decide)) (by omega) (by omega)
      · exact hK (101) S (Ch.wk Ch.rf (by decide) (by decide)) (by omega) (by omega)
      · exact hK (110) S (Ch.wk Ch.rf (by decide) (by decide)) (by omega) (by omega)
      · exact hK (99) S (Ch.wk Ch.rf (by decide) (by decide)) (by omega) (by omega)
      · exact hK (101) S (Ch.wk Ch.rf (by decide) (by decide)) (by omega) (by omega)
    · refine ⟨fun h51 => ?_, fun h51 => ?_⟩
      · refine ⟨fun h61 => ?_, fun h61 => ?_⟩
        · exact hK (0) S (Ch.wk Ch.rf (by decide) (by decide)) (by omega) (by omega)
        · exact hK (100) S (Ch.wk Ch.rf (by decide) (by decide)) (by omega) (by omega)
      · exact hK (105) S (Ch.wk Ch.rf (by decide) (by decide)) (by omega) (by omega)
  · refine ⟨fun h5 => ?_, fun h5 => ?_⟩
    · refine ⟨fun h15 => ?_, fun h15 => ?_⟩
      · refine ⟨fun h25 => ?_, fun h25 => ?_⟩
        · refine ⟨fun h35 => ?_, fun h35 => ?_⟩
          · exact hK (0) S (Ch.wk Ch.rf (by decide) (by decide)) (by omega) (by omega)
          · exact hK (115) S (Ch.wk Ch.rf (by decide) (by decide)) (by omega) (by omega)
        · exact hK (97) S (Ch.wk Ch.rf (by decide) (by decide)) (by omega) (by omega)
      · exact hK (108) S (Ch.wk Ch.rf (by decide) (by decide)) (by omega) (by omega)
    · exact hK (99) S (Ch.wk Ch.rf (by decide) (by decide)) (by omega) (by omega)

set_option maxRecDepth 100000 in
set_option maxHeartbeats 4000000 in
theorem tX11_object {a1 a2 : Int} {S : St} {K : Int → St → Prop} (p1 : iv 0 2 a1) (p2 : iv 0 5 a2) (p3 : (S.2 67) a1 ≤ 29) (hK : ∀ (r : Int) (S' : St), Ch [] [67, 68, 69] S S' → (r = 30 * a1 + (S.2 67) a1) → (iv 0 89 r) → (∀ x, (x = a1 ∧ (S'.2 67) x = (S.2 67) x + 1) ∨ (¬ x = a1 ∧ (S'.2 67) x = (S.2 67) x)) → (∀ x, (x = r ∧ (S'.2 68) x = a2) ∨ (¬ x = r ∧ (S'.2 68) x = (S.2 68) x)) → (∀ x, (4 * r ≤ x ∧ x ≤ 4 * r + 3 ∧ (((S.2 59) (4 * a2 + (x - 4 * r)) = 2 ∧ (S'.2 69) x = -2) ∨ (¬ (S.2 59) (4 * a2 + (x - 4 * r)) = 2 ∧ (S'.2 69) x = 0))) ∨ ((x < 4 * r ∨ 4 * r + 3 < x) ∧ (S'.2 69) x = (S.2 69) x)) → K r S') : wX11_object a1 a2 S K := by
  unfold wX11_object
  intro g1 g2
  refine ⟨by omega, by omega, ?_⟩
  intro q1
  intro x11 hx11
  subst hx11
  refine ⟨by omega, by omega, ?_⟩
  intro q2
  refine ⟨by omega, by omega, ?_⟩
  refine ⟨by omega, ?_⟩
  intro S21 hS21e
  have hS21 : Ch [] [67] S S21 := Ch_A hS21e
  have hS21v : ∀ x, S21.2 67 x = if x = a1 then (S.2 67 (a1) + 1) else S.2 67 x := pA_at hS21e
  refine ⟨by omega, by omega, ?_⟩
  refine ⟨by omega, ?_⟩
  intro S28 hS28e
  have hS28 : Ch [] [68] S21 S28 := Ch_A hS28e
  have hS28v : ∀ x, S28.2 68 x = if x = (((30 * a1) + S.2 67 (a1))) then a2 else S21.2 68 x := pA_at hS28e
  unfold wX11_object_32
  refine ⟨fun u2 u3 u4 Sx => Ch [] [69] S28 Sx ∧ a2 = u2 ∧ (((30 * a1) + S.2 67 (a1))) = u3 ∧ (iv 0 4 u4) ∧ (iv 0 89 u3) ∧ (∀ x, (4 * u3 ≤ x ∧ x < 4 * u3 + u4 ∧ (((S.2 59) (4 * a2 + (x - 4 * u3)) = 2 ∧ (Sx.2 69) x = -2) ∨ (¬ (S.2 59) (4 * a2 + (x - 4 * u3)) = 2 ∧ (Sx.2 69) x = 0))) ∨ ((x < 4 * u3 ∨ 4 * u3 + u4 ≤ x) ∧ (Sx.2 69) x = (S28.2 69) x)), fun u2 u3 u4 Sx => (5 - u4).toNat, ?_, fun v32_2 v32_3 v32_4 S32h hI => ?_⟩
  · exact ⟨Ch.re, rfl, rfl, by omega, by omega, (by
        intro x
        omega)⟩
  obtain ⟨hS32h, rfl, rfl, i32_0, i32_1, i32_2⟩ := hI
  unfold wX11_object_32'
  refine ⟨by omega, ?_⟩
  refine ⟨fun h35 => ?_, fun h35 => ?_⟩
  · exact hK ((((30 * a1) + S.2 67 (a1)))) S32h (Ch.wk (Ch.tr (Ch.tr hS21 hS28) hS32h) (by decide) (by decide)) (by omega) (by omega) (by
          intro x
          have e3 : S32h.2 67 x = S28.2 67 x := congrFun (hS32h.2 67 (by decide)) _
          have e4 : S28.2 67 x = S21.2 67 x := congrFun (hS28.2 67 (by decide)) _
          have e5 := hS21v x
          omega) (by
          intro x
          have e6 : S32h.2 68 x = S28.2 68 x := congrFun (hS32h.2 68 (by decide)) _
          have e7 := hS28v x
          have e8 : S21.2 68 x = S.2 68 x := congrFun (hS21.2 68 (by decide)) _
          omega) (by
          intro x
          have e9 := i32_2 x
          omega)
  · refine ⟨by omega, by omega, ?_⟩
    intro q10
    have e11 : S32h.2 59 (((4 * a2) + v32_4)) = S28.2 59 (((4 * a2) + v32_4)) := congrFun (hS32h.2 59 (by decide)) _
    have e12 : S28.2 59 (((4 * a2) + v32_4)) = S21.2 59 (((4 * a2) + v32_4)) := congrFun (hS28.2 59 (by decide)) _
    have e13 : S21.2 59 (((4 * a2) + v32_4)) = S.2 59 (((4 * a2) + v32_4)) := congrFun (hS21.2 59 (by decide)) _
    refine ⟨fun h50 => ?_, fun h50 => ?_⟩
    · unfold wX11_object_58
      refine ⟨fun h72 => ?_, fun h72 => ?_⟩
      · unfold wX11_object_81
        refine ⟨by omega, by omega, ?_⟩
        intro S81 hS81e
        have hS81 : Ch [] [69] S32h S81 := Ch_A hS81e
        have hS81v : ∀ x, S81.2 69 x = if x = ((4 * (((30 * a1) + S.2 67 (a1)))) + v32_4) then 0 else S32h.2 69 x := pA_at hS81e
        exact ⟨⟨(Ch.wk (Ch.tr hS32h hS81) (by decide) (by decide)), rfl, rfl, by omega, by omega, (by
              intro x
              have e14 := hS81v x
              have e15 := i32_2 x
              by_cases hx : x = 4 * ((((30 * a1) + S.2 67 (a1)))) + v32_4
              · subst hx
                rw [show 4 * a2 + (4 * ((((30 * a1) + S.2 67 (a1)))) + v32_4 - 4 * ((((30 * a1) + S.2 67 (a1))))) = 4 * a2 + v32_4 by omega]
                omega
              · omega)⟩, show (5 - ((v32_4 + 1))).toNat < (5 - v32_4).toNat by omega⟩
      · unfold wX11_object_81
        refine ⟨by omega, by omega, ?_⟩
        intro S81 hS81e
        have hS81 : Ch [] [69] S32h S81 := Ch_A hS81e
        have hS81v : ∀ x, S81.2 69 x = if x = ((4 * (((30 * a1) + S.2 67 (a1)))) + v32_4) then (-2) else S32h.2 69 x := pA_at hS81e
        exact ⟨⟨(Ch.wk (Ch.tr hS32h hS81) (by decide) (by decide)), rfl, rfl, by omega, by omega, (by
              intro x
              have e16 := hS81v x
              have e17 := i32_2 x
              by_cases hx : x = 4 * ((((30 * a1) + S.2 67 (a1)))) + v32_4
              · subst hx
                rw [show 4 * a2 + (4 * ((((30 * a1) + S.2 67 (a1)))) + v32_4 - 4 * ((((30 * a1) + S.2 67 (a1))))) = 4 * a2 + v32_4 by omega]
                omega
              · omega)⟩, show (5 - ((v32_4 + 1))).toNat < (5 - v32_4).toNat by omega⟩
    · unfold wX11_object_58
      refine ⟨fun h72 => ?_, fun h72 => ?_⟩
      · unfold wX11_object_81
        refine ⟨by omega, by omega, ?_⟩
        intro S81 hS81e
        have hS81 : Ch [] [69] S32h S81 := Ch_A hS81e
        have hS81v : ∀ x, S81.2 69 x = if x = ((4 * (((30 * a1) + S.2 67 (a1)))) + v32_4) then 0 else S32h.2 69 x := pA_at hS81e
        exact ⟨⟨(Ch.wk (Ch.tr hS32h hS81) (by decide) (by decide)), rfl, rfl, by omega, by omega, (by
              intro x
              have e18 := hS81v x
              have e19 := i32_2 x
              by_cases hx : x = 4 * ((((30 * a1) + S.2 67 (a1)))) + v32_4
              · subst hx
                rw [show 4 * a2 + (4 * ((((30 * a1) + S.2 67 (a1)))) + v32_4 - 4 * ((((30 * a1) + S.2 67 (a1))))) = 4 * a2 + v32_4 by omega]
                omega
              · omega)⟩, show (5 - ((v32_4 + 1))).toNat < (5 - v32_4).toNat by omega⟩
      · unfold wX11_object_81
        refine ⟨by omega, by omega, ?_⟩
        intro S81 hS81e
        have hS81 : Ch [] [69] S32h S81 := Ch_A hS81e
        have hS81v : ∀ x, S81.2 69 x = if x = ((4 * (((30 * a1) + S.2 67 (a1)))) + v32_4) then (-2) else S32h.2 69 x := pA_at hS81e
        exact ⟨⟨(Ch.wk (Ch.tr hS32h hS81) (by decide) (by decide)), rfl, rfl, by omega, by omega, (by
              intro x
              have e20 := hS81v x
              have e21 := i32_2 x
              by_cases hx : x = 4 * ((((30 * a1) + S.2 67 (a1)))) + v32_4
              · subst hx
                rw [show 4 * a2 + (4 * ((((30 * a1) + S.2 67 (a1)))) + v32_4 - 4 * ((((30 * a1) + S.2 67 (a1))))) = 4 * a2 + v32_4 by omega]
                omega
              · omega)⟩, show (5 - ((v32_4 + 1))).toNat < (5 - v32_4).toNat by omega⟩

set_option maxRecDepth 100000 in
set_option maxHeartbeats 4000000 in
theorem tX11_kind {a1 a2 : Int} {S : St} {K : Int → St → Prop}  (hK : ∀ (r : Int) (S' : St), Ch [] [] S S' → (rng r) → K r S') : wX11_kind a1 a2 S K := by
  unfold wX11_kind
  intro g1 g2
  refine tX11_in  (fun r3 S3 hS3 n3_0 => ?_)
  refine ⟨by omega, ?_⟩
  refine ⟨fun h6 => ?_, fun h6 => ?_⟩
  · exact hK ((-1)) S3 (Ch.wk hS3 (by decide) (by decide)) (by omega)
  · have e1 : S3.2 67 (a1) = S.2 67 (a1) := congrFun (hS3.2 67 (by decide)) _
    refine tX11_isObject (by omega) (fun r12 S12 hS12 n12_0 => ?_)
    refine ⟨by omega, ?_⟩
    refine ⟨fun h15 => ?_, fun h15 => ?_⟩
    · exact hK ((-1)) S12 (Ch.wk (Ch.tr hS3 hS12) (by decide) (by decide)) (by omega)
    · refine ⟨by omega, by omega, ?_⟩
      intro q2
      have e3 : S12.2 68 (((30 * a1) + a2)) = S3.2 68 (((30 * a1) + a2)) := congrFun (hS12.2 68 (by decide)) _
      have e4 : S3.2 68 (((30 * a1) + a2)) = S.2 68 (((30 * a1) + a2)) := congrFun (hS3.2 68 (by decide)) _
      exact hK (S12.2 68 (((30 * a1) + a2))) S12 (Ch.wk (Ch.tr hS3 hS12) (by decide) (by decide)) (by omega)

set_option maxRecDepth 100000 in
set_option maxHeartbeats 4000000 in
theorem tX11_limit {a1 : Int} {S : St} {K : Int → St → Prop}  (hK : ∀ (r : Int) (S' : St), Ch [19] [] S S' → ((iv 1 20 a1 ∧ r = (S.1 54 19) ∧ (S'.1 54 19) = a1) ∨ (¬ iv 1 20 a1 ∧ r = -1 ∧ (S'.1 54 19) = (S.1 54 19))) → K r S') : wX11_limit a1 S K := by
  unfold wX11_limit
  intro g1
  refine tX11_in  (fun r4 S4 hS4 n4_0 => ?_)
  refine ⟨by omega, ?_⟩
  refine ⟨fun h7 => ?_, fun h7 => ?_⟩
  · intro q1
    have e2 : S4.1 54 19 = S.1 54 19 := hS4.1 19 (by decide)
    refine ⟨by omega, ?_⟩
    intro S19 hS19e
    have hS19 : Ch [19] [] S4 S19 := Ch_I hS19e
    have hS19v : S19.1 54 19 = a1 := pI_at hS19e
    exact hK (S4.1 54 19) S19 (Ch.wk (Ch.tr hS4 hS19) (by decide) (by decide)) (by omega)
  · have e3 : S4.1 54 19 = S.1 54 19 := hS4.1 19 (by decide)
    exact hK ((-1)) S4 (Ch.wk hS4 (by decide) (by decide)) (by omega)

set_option maxRecDepth 100000 in
set_option maxHeartbeats 4000000 in
theorem tX11_openerSign {a1 a2 : Int} {S : St} {K : Int → St → Prop} (p1 : 0 ≤ a2) (hK : ∀ (r : Int) (S' : St), Ch [] [] S S' → (0 ≤ r ∧ r ≤ 127) → (r = 0 ∨ a2 ≤ 7) → K r S') : wX11_openerSign a1 a2 S K := by
  unfold wX11_openerSign
  intro g1 g2
  refine ⟨fun h1 => ?_, fun h1 => ?_⟩
  · refine ⟨fun h1 => ?_, fun h1 => ?_, fun h1 => ?_, fun h1 => ?_, fun h1 => ?_, fun h1 => ?_, fun h1 => ?_, fun h1 => ?_, fun h1 => ?_⟩
    · exact hK (0) S (Ch.wk Ch.rf (by decide) (by decide)) (by omega) (by omega)
    · exact hK (33) S (Ch.wk Ch.rf (by decide) (by decide)) (by omega) (by omega)
    · exact hK (91) S (Ch.wk Ch.rf (by decide) (by decide)) (by omega) (by omega)
    · exact hK (67) S (Ch.wk Ch.rf (by decide) (by decide)) (by omega) (by omega)
    · exact hK (68) S (Ch.wk Ch.rf (by decide) (by decide)) (by omega) (by omega)
    · exact hK (65) S (Ch.wk Ch.rf (by decide) (by decide)) (by omega) (by omega)
    · exact hK (84) S (Ch.wk Ch.rf (by decide) (by decide)) (by omega) (by omega)
    · exact hK (65) S (Ch.wk Ch.rf (by decide) (by decide)) (by omega) (by omega)
    · exact hK (91) S (Ch.wk Ch.rf (by decide) (by decide)) (by omega) (by omega)
  · refine ⟨fun h5 => ?_, fun h5 => ?_⟩
    · refine ⟨fun h15 => ?_, fun h15 => ?_⟩
      · exact hK (0) S (Ch.wk Ch.rf (by decide) (by decide)) (by omega) (by omega)
      · exact hK (45) S (Ch.wk Ch.rf (by decide) (by decide)) (by omega) (by omega)
    · exact hK (33) S (Ch.wk Ch.rf (by decide) (by decide)) (by omega) (by omega)

set_option maxRecDepth 100000 in
set_option maxHeartbeats 4000000 in
theorem tX11_sign {a1 : Int} {S : St} {K : Int → St → Prop}  (hK : ∀ (r : Int) (S' : St), Ch [] [] S S' → (rng r) → K r S') : wX11_sign a1 S K := by
  unfold wX11_sign
  intro g1
  intro q1
  refine ⟨by omega, ?_⟩
  refine tX11_in  (fun r8 S8 hS8 n8_0 => ?_)
  refine ⟨by omega, ?_⟩
  refine ⟨fun h11 => ?_, fun h11 => ?_⟩
  · exact hK ((-1)) S8 (Ch.wk hS8 (by decide) (by decide)) (by omega)
  · refine ⟨by omega, by omega, ?_⟩
    intro q2
    have e3 : S8.2 71 (a1) = S.2 71 (a1) := congrFun (hS8.2 71 (by decide)) _
    exact hK (S8.2 71 (a1)) S8 (Ch.wk hS8 (by decide) (by decide)) (by omega)

set_option maxRecDepth 100000 in
set_option maxHeartbeats 4000000 in
theorem tX11_take {S : St} {K : Int → St → Prop}  (hK : ∀ (r : Int) (S' : St), Ch [0] [55] S S' → (iv 0 3000 r) → K r S') : wX11_take  S K := by
  unfold wX11_take
  intro q1
  intro S5 hS5e
  have hS5 : Ch [0] [] S S5 := Ch_I hS5e
  have hS5v : S5.1 54 0 = S.1 54 20 := pI_at hS5e
  unfold wX11_take_10
  refine ⟨fun u1 Sx => Ch [] [55] S5 Sx ∧ (iv 0 3000 u1), fun u1 Sx => (3001 - u1).toNat, ?_, fun v10_1 S10h hI => ?_⟩
  · exact ⟨Ch.re, by omega⟩
  obtain ⟨hS10h, i10_0⟩ := hI
  unfold wX11_take_10'
  intro q2
  have e3 : S10h.1 54 20 = S5.1 54 20 := hS10h.1 20 (by decide)
  have e4 : S5.1 54 20 = S.1 54 20 := hS5.1 20 (by decide)
  refine ⟨by omega, ?_⟩
  refine ⟨fun h15 => ?_, fun h15 => ?_⟩
  · exact hK (S10h.1 54 20) S10h (Ch.wk (Ch.tr hS5 hS10h) (by decide) (by decide)) (by omega)
  · refine ⟨by omega, by omega, ?_⟩
    intro q5
    have e6 : S10h.2 71 (v10_1) = S5.2 71 (v10_1) := congrFun (hS10h.2 71 (by decide)) _
    have e7 : S5.2 71 (v10_1) = S.2 71 (v10_1) := congrFun (hS5.2 71 (by decide)) _
    refine ⟨by omega, by omega, ?_⟩
    intro S29 hS29e
    have hS29 : Ch [] [55] S10h S29 := Ch_A hS29e
    have hS29v : ∀ x, S29.2 55 x = if x = v10_1 then S10h.2 71 (v10_1) else S10h.2 55 x := pA_at hS29e
    exact ⟨⟨(Ch.wk (Ch.tr hS10h hS29) (by decide) (by decide)), by omega⟩, show (3001 - ((v10_1 + 1))).toNat < (3001 - v10_1).toNat by omega⟩

set_option maxRecDepth 100000 in
set_option maxHeartbeats 4000000 in
theorem tX11_unit {a1 : Int} {S : St} {K : Int → St → Prop}  (hK : ∀ (r : Int) (S' : St), Ch [0] [55] S S' → K r S') : wX11_unit a1 S K := by
  unfold wX11_unit
  intro g1
  intro q1
  refine ⟨fun h7 => ?_, fun h7 => ?_⟩
  · exact hK (0) S (Ch.wk Ch.rf (by decide) (by decide)) 
  · refine tX11_in  (fun r15 S15 hS15 n15_0 => ?_)
    refine ⟨by omega, ?_⟩
    refine ⟨fun h18 => ?_, fun h18 => ?_⟩
    · unfold wX11_unit_30
      intro q2
      have e3 : S15.1 54 0 = S.1 54 0 := hS15.1 0 (by decide)
      refine ⟨by omega, by omega, ?_⟩
      refine ⟨by omega, ?_⟩
      intro S39 hS39e
      have hS39 : Ch [] [55] S15 S39 := Ch_A hS39e
      have hS39v : ∀ x, S39.2 55 x = if x = S15.1 54 0 then a1 else S15.2 55 x := pA_at hS39e
      intro q4
      have e5 : S39.1 54 0 = S15.1 54 0 := hS39.1 0 (by decide)
      have e6 : S15.1 54 0 = S.1 54 0 := hS15.1 0 (by decide)
      refine ⟨by omega, ?_⟩
      intro S47 hS47e
      have hS47 : Ch [0] [] S39 S47 := Ch_I hS47e
      have hS47v : S47.1 54 0 = (S39.1 54 0 + 1) := pI_at hS47e
      exact hK (1) S47 (Ch.wk (Ch.tr (Ch.tr hS15 hS39) hS47) (by decide) (by decide)) 
    · refine tX11_isBlank  (fun r22 S22 hS22 n22_0 => ?_)
      refine ⟨by omega, ?_⟩
      refine ⟨fun h25 => ?_, fun h25 => ?_⟩
      · unfold wX11_unit_30
        intro q7
        have e8 : S22.1 54 0 = S15.1 54 0 := hS22.1 0 (by decide)
        have e9 : S15.1 54 0 = S.1 54 0 := hS15.1 0 (by decide)
        refine ⟨by omega, by omega, ?_⟩
        refine ⟨by omega, ?_⟩
        intro S39 hS39e
        have hS39 : Ch [] [55] S22 S39 := Ch_A hS39e
        have hS39v : ∀ x, S39.2 55 x = if x = S22.1 54 0 then a1 else S22.2 55 x := pA_at hS39e
        intro q10
        have e11 : S39.1 54 0 = S22.1 54 0 := hS39.1 0 (by decide)
        have e12 : S22.1 54 0 = S15.1 54 0 := hS22.1 0 (by decide)
        have e13 : S15.1 54 0 = S.1 54 0 := hS15.1 0 (by decide)
        refine ⟨by omega, ?_⟩
        intro S47 hS47e
        have hS47 : Ch [0] [] S39 S47 := Ch_I hS47e
        have hS47v : S47.1 54 0 = (S39.1 54 0 + 1) := pI_at hS47e
        exact hK (1) S47 (Ch.wk (Ch.tr (Ch.tr (Ch.tr hS15 hS22) hS39) hS47) (by decide) (by decide)) 
      · exact hK (0) S22 (Ch.wk (Ch.tr hS15 hS22) (by decide) (by decide)) 
