/-! WHAT A CALL LEAVES ALONE: only the fields fs and the arrays xs of the model may have changed -/
def Ch (fs xs : List Nat) (S S' : St) : Prop := (∀ j, j ∉ fs → S'.1 54 j = S.1 54 j) ∧ ∀ a, a ∉ xs → S'.2 a = S.2 a
theorem Ch.rf {S : St} : Ch [] [] S S := ⟨fun _ _ => rfl, fun _ _ => rfl⟩
theorem Ch.re {fs xs : List Nat} {S : St} : Ch fs xs S S := ⟨fun _ _ => rfl, fun _ _ => rfl⟩
theorem Ch.tr {f g x y : List Nat} {S S1 S2 : St} (h : Ch f x S S1) (k : Ch g y S1 S2) : Ch (f ++ g) (x ++ y) S S2 :=
  ⟨fun j hj => (k.1 j fun q => hj (List.mem_append_right _ q)).trans (h.1 j fun q => hj (List.mem_append_left _ q)), fun a ha => (k.2 a fun q => ha (List.mem_append_right _ q)).trans (h.2 a fun q => ha (List.mem_append_left _ q))⟩
theorem Ch.wk {f g x y : List Nat} {S S1 : St} (h : Ch f x S S1) (hf : ∀ j ∈ f, j ∈ g) (hx : ∀ j ∈ x, j ∈ y) : Ch g y S S1 := ⟨fun j hj => h.1 j fun q => hj (hf j q), fun a ha => h.2 a fun q => ha (hx a q)⟩
theorem Ch_I {S S2 : St} {j : Nat} {v : Int} (h : S2 = pI S 54 j v) : Ch [j] [] S S2 := by
  subst h
  refine ⟨fun k hk => ?_, fun _ _ => rfl⟩
  show (if 54 = 54 ∧ k = j then v else S.1 54 k) = _
  rw [if_neg fun q => hk (by rw [q.2]; exact List.mem_singleton_self j)]
theorem Ch_A {S S2 : St} {c : Nat} {i v : Int} (h : S2 = pA S c i v) : Ch [] [c] S S2 := by
  subst h
  refine ⟨fun _ _ => rfl, fun a ha => ?_⟩
  funext k
  show (if a = c ∧ k = i then v else S.2 a k) = _
  rw [if_neg fun q => ha (by rw [q.1]; exact List.mem_singleton_self c)]
theorem pI_at {S S2 : St} {j : Nat} {v : Int} (h : S2 = pI S 54 j v) : S2.1 54 j = v := by
  subst h
  show (if 54 = 54 ∧ j = j then v else S.1 54 j) = v
  rw [if_pos ⟨rfl, rfl⟩]
theorem pA_at {S S2 : St} {c : Nat} {i v : Int} (h : S2 = pA S c i v) : ∀ x, S2.2 c x = if x = i then v else S.2 c x := by
  subst h
  intro x
  show (if c = c ∧ x = i then v else S.2 c x) = _
  by_cases q : x = i
  · rw [if_pos ⟨rfl, q⟩, if_pos q]
  · rw [if_neg fun r => q r.2, if_neg q]

set_option maxRecDepth 100000 in
set_option maxHeartbeats 4000000 in
theorem tX11_isObject {a1 a2 : Int} {S : St} {K : Int → St → Prop} (p1 : iv 0 2 a1) (hK : ∀ (r : Int) (S' : St), Ch [] [] S S' → ((0 ≤ a2 ∧ a2 < (S.2 67) a1 ∧ r = 1) ∨ ((a2 < 0 ∨ (S.2 67) a1 ≤ a2) ∧ r = 0)) → K r S') : wX11_isObject a1 a2 S K := by
  unfold wX11_isObject
  intro g1 g2
  refine ⟨fun h1 => ?_, fun h1 => ?_⟩
  · exact hK (0) S (Ch.wk Ch.rf (by decide) (by decide)) (by omega)
  · refine ⟨by omega, by omega, ?_⟩
    intro q2
    refine ⟨fun h3 => ?_, fun h3 => ?_⟩
    · exact hK (0) S (Ch.wk Ch.rf (by decide) (by decide)) (by omega)
    · exact hK (1) S (Ch.wk Ch.rf (by decide) (by decide)) (by omega)

set_option maxRecDepth 100000 in
set_option maxHeartbeats 4000000 in
theorem tX11_in {a1 a2 a3 : Int} {S : St} {K : Int → St → Prop}  (hK : ∀ (r : Int) (S' : St), Ch [] [] S S' → ((a2 ≤ a1 ∧ a1 ≤ a3 ∧ r = 1) ∨ ((a1 < a2 ∨ a3 < a1) ∧ r = 0)) → K r S') : wX11_in a1 a2 a3 S K := by
  unfold wX11_in
  intro g1 g2 g3
  refine ⟨fun h1 => ?_, fun h1 => ?_⟩
  · exact hK (0) S (Ch.wk Ch.rf (by decide) (by decide)) (by omega)
  · refine ⟨fun h2 => ?_, fun h2 => ?_⟩
    · exact hK (0) S (Ch.wk Ch.rf (by decide) (by decide)) (by omega)
    · exact hK (1) S (Ch.wk Ch.rf (by decide) (by decide)) (by omega)

set_option maxRecDepth 100000 in
set_option maxHeartbeats 4000000 in
theorem tX11_areAlike {a1 a2 : Int} {S : St} {K : Int → St → Prop} (p1 : iv 0 29 a1) (p2 : iv 0 29 a2) (hK : ∀ (r : Int) (S' : St), Ch [] [] S S' → (iv 0 1 r) → K r S') : wX11_areAlike a1 a2 S K := by
  unfold wX11_areAlike
  intro g1 g2
  refine ⟨by omega, by omega, ?_⟩
  intro q1
  refine ⟨by omega, by omega, ?_⟩
  intro q2
  refine ⟨fun h3 => ?_, fun h3 => ?_⟩
  · unfold wX11_areAlike_20
    unfold wX11_areAlike_24
    refine ⟨fun l1 l2 l3 l4 Sx => Ch [] [] S Sx ∧ a1 = l1 ∧ a2 = l2 ∧ (iv 0 8 l4) ∧ (iv 0 1 l3), fun l1 l2 l3 l4 Sx => (9 - l4).toNat, ?_, fun v5 v6 v7 v8 S4 hI => ?_⟩
    · exact ⟨Ch.re, rfl, rfl, by omega, by omega⟩
    obtain ⟨hS4, rfl, rfl, i9, i10⟩ := hI
    unfold wX11_areAlike_24'
    refine ⟨by omega, by omega, ?_⟩
    intro q11
    have e12 : S4.2 63 (a1) = S.2 63 (a1) := congrFun (hS4.2 63 (by decide)) _
    refine ⟨by omega, ?_⟩
    refine ⟨fun h13 => ?_, fun h13 => ?_⟩
    · refine ⟨by omega, ?_⟩
      exact hK (v7) S4 (Ch.wk hS4 (by decide) (by decide)) (by omega)
    · refine ⟨by omega, ?_⟩
      refine ⟨fun h14 => ?_, fun h14 => ?_⟩
      · refine ⟨by omega, ?_⟩
        exact hK (v7) S4 (Ch.wk hS4 (by decide) (by decide)) (by omega)
      · refine ⟨by omega, by omega, ?_⟩
        intro q15
        have e16 : S4.2 64 (((8 * a1) + v8)) = S.2 64 (((8 * a1) + v8)) := congrFun (hS4.2 64 (by decide)) _
        refine ⟨by omega, by omega, ?_⟩
        intro q17
        have e18 : S4.2 64 (((8 * a2) + v8)) = S.2 64 (((8 * a2) + v8)) := congrFun (hS4.2 64 (by decide)) _
        refine ⟨fun h19 => ?_, fun h19 => ?_⟩
        · unfold wX11_areAlike_71
          exact ⟨⟨(Ch.wk hS4 (by decide) (by decide)), rfl, rfl, by omega, by omega⟩, show (9 - (v8 + 1)).toNat < (9 - v8).toNat by omega⟩
        · unfold wX11_areAlike_71
          exact ⟨⟨(Ch.wk hS4 (by decide) (by decide)), rfl, rfl, by omega, by omega⟩, show (9 - (v8 + 1)).toNat < (9 - v8).toNat by omega⟩
  · unfold wX11_areAlike_20
    unfold wX11_areAlike_24
    refine ⟨fun l1 l2 l3 l4 Sx => Ch [] [] S Sx ∧ a1 = l1 ∧ a2 = l2 ∧ (iv 0 8 l4) ∧ (iv 0 1 l3), fun l1 l2 l3 l4 Sx => (9 - l4).toNat, ?_, fun v21 v22 v23 v24 S20 hI => ?_⟩
    · exact ⟨Ch.re, rfl, rfl, by omega, by omega⟩
    obtain ⟨hS20, rfl, rfl, i25, i26⟩ := hI
    unfold wX11_areAlike_24'
    refine ⟨by omega, by omega, ?_⟩
    intro q27
    have e28 : S20.2 63 (a1) = S.2 63 (a1) := congrFun (hS20.2 63 (by decide)) _
    refine ⟨by omega, ?_⟩
    refine ⟨fun h29 => ?_, fun h29 => ?_⟩
    · refine ⟨by omega, ?_⟩
      exact hK (v23) S20 (Ch.wk hS20 (by decide) (by decide)) (by omega)
    · refine ⟨by omega, ?_⟩
      refine ⟨fun h30 => ?_, fun h30 => ?_⟩
      · refine ⟨by omega, ?_⟩
        exact hK (v23) S20 (Ch.wk hS20 (by decide) (by decide)) (by omega)
      · refine ⟨by omega, by omega, ?_⟩
        intro q31
        have e32 : S20.2 64 (((8 * a1) + v24)) = S.2 64 (((8 * a1) + v24)) := congrFun (hS20.2 64 (by decide)) _
        refine ⟨by omega, by omega, ?_⟩
        intro q33
        have e34 : S20.2 64 (((8 * a2) + v24)) = S.2 64 (((8 * a2) + v24)) := congrFun (hS20.2 64 (by decide)) _
        refine ⟨fun h35 => ?_, fun h35 => ?_⟩
        · unfold wX11_areAlike_71
          exact ⟨⟨(Ch.wk hS20 (by decide) (by decide)), rfl, rfl, by omega, by omega⟩, show (9 - (v24 + 1)).toNat < (9 - v24).toNat by omega⟩
        · unfold wX11_areAlike_71
          exact ⟨⟨(Ch.wk hS20 (by decide) (by decide)), rfl, rfl, by omega, by omega⟩, show (9 - (v24 + 1)).toNat < (9 - v24).toNat by omega⟩

set_option maxRecDepth 100000 in
set_option maxHeartbeats 4000000 in
theorem tX11_isLetter {a1 : Int} {S : St} {K : Int → St → Prop}  (hK : ∀ (r : Int) (S' : St), Ch [] [] S S' → ((((97 ≤ a1 ∧ a1 ≤ 122) ∨ (65 ≤ a1 ∧ a1 ≤ 90)) ∧ r = 1) ∨ (¬ ((97 ≤ a1 ∧ a1 ≤ 122) ∨ (65 ≤ a1 ∧ a1 ≤ 90)) ∧ r = 0)) → K r S') : wX11_isLetter a1 S K := by
  unfold wX11_isLetter
  intro g1
  refine ⟨fun h1 => ?_, fun h1 => ?_⟩
  · unfold wX11_isLetter_12
    refine ⟨by omega, ?_⟩
    refine ⟨fun h2 => ?_, fun h2 => ?_⟩
    · exact hK (0) S (Ch.wk Ch.rf (by decide) (by decide)) (by omega)
    · refine ⟨fun h3 => ?_, fun h3 => ?_⟩
      · exact hK (0) S (Ch.wk Ch.rf (by decide) (by decide)) (by omega)
      · exact hK (1) S (Ch.wk Ch.rf (by decide) (by decide)) (by omega)
  · refine ⟨fun h4 => ?_, fun h4 => ?_⟩
    · exact hK (1) S (Ch.wk Ch.rf (by decide) (by decide)) (by omega)
    · unfold wX11_isLetter_12
      refine ⟨by omega, ?_⟩
      refine ⟨fun h5 => ?_, fun h5 => ?_⟩
      · exact hK (0) S (Ch.wk Ch.rf (by decide) (by decide)) (by omega)
      · refine ⟨fun h6 => ?_, fun h6 => ?_⟩
        · exact hK (0) S (Ch.wk Ch.rf (by decide) (by decide)) (by omega)
        · exact hK (1) S (Ch.wk Ch.rf (by decide) (by decide)) (by omega)

set_option maxRecDepth 100000 in
set_option maxHeartbeats 4000000 in
theorem tX11_beginsName {a1 : Int} {S : St} {K : Int → St → Prop}  (hK : ∀ (r : Int) (S' : St), Ch [] [] S S' → (((((97 ≤ a1 ∧ a1 ≤ 122) ∨ (65 ≤ a1 ∧ a1 ≤ 90)) ∨ a1 = 95) ∧ r = 1) ∨ (¬ (((97 ≤ a1 ∧ a1 ≤ 122) ∨ (65 ≤ a1 ∧ a1 ≤ 90)) ∨ a1 = 95) ∧ r = 0)) → K r S') : wX11_beginsName a1 S K := by
  unfold wX11_beginsName
  intro g1
  refine tX11_isLetter  (fun r1 S2 hS2 n3 => ?_)
  refine ⟨by omega, ?_⟩
  refine ⟨fun h4 => ?_, fun h4 => ?_⟩
  · exact hK (1) S2 (Ch.wk hS2 (by decide) (by decide)) (by omega)
  · refine ⟨fun h5 => ?_, fun h5 => ?_⟩
    · exact hK (0) S2 (Ch.wk hS2 (by decide) (by decide)) (by omega)
    · exact hK (1) S2 (Ch.wk hS2 (by decide) (by decide)) (by omega)

set_option maxRecDepth 100000 in
set_option maxHeartbeats 4000000 in
theorem tX11_isDigit {a1 : Int} {S : St} {K : Int → St → Prop}  (hK : ∀ (r : Int) (S' : St), Ch [] [] S S' → ((48 ≤ a1 ∧ a1 ≤ 57 ∧ r = 1) ∨ ((a1 < 48 ∨ 57 < a1) ∧ r = 0)) → K r S') : wX11_isDigit a1 S K := by
  unfold wX11_isDigit
  intro g1
  refine ⟨fun h1 => ?_, fun h1 => ?_⟩
  · exact hK (0) S (Ch.wk Ch.rf (by decide) (by decide)) (by omega)
  · refine ⟨fun h2 => ?_, fun h2 => ?_⟩
    · exact hK (0) S (Ch.wk Ch.rf (by decide) (by decide)) (by omega)
    · exact hK (1) S (Ch.wk Ch.rf (by decide) (by decide)) (by omega)

set_option maxRecDepth 100000 in
set_option maxHeartbeats 4000000 in
theorem tX11_inName {a1 : Int} {S : St} {K : Int → St → Prop}  (hK : ∀ (r : Int) (S' : St), Ch [] [] S S' → (((((97 ≤ a1 ∧ a1 ≤ 122) ∨ (65 ≤ a1 ∧ a1 ≤ 90)) ∨ a1 = 95 ∨ (48 ≤ a1 ∧ a1 ≤ 57) ∨ a1 = 45 ∨ a1 = 46) ∧ r = 1) ∨ (¬ (((97 ≤ a1 ∧ a1 ≤ 122) ∨ (65 ≤ a1 ∧ a1 ≤ 90)) ∨ a1 = 95 ∨ (48 ≤ a1 ∧ a1 ≤ 57) ∨ a1 = 45 ∨ a1 = 46) ∧ r = 0)) → K r S') : wX11_inName a1 S K := by
  unfold wX11_inName
  intro g1
  refine tX11_beginsName  (fun r1 S2 hS2 n3 => ?_)
  refine ⟨by omega, ?_⟩
  refine ⟨fun h4 => ?_, fun h4 => ?_⟩
  · exact hK (1) S2 (Ch.wk hS2 (by decide) (by decide)) (by omega)
  · refine tX11_isDigit  (fun r5 S6 hS6 n7 => ?_)
    refine ⟨by omega, ?_⟩
    refine ⟨fun h8 => ?_, fun h8 => ?_⟩
    · exact hK (1) S6 (Ch.wk (Ch.tr hS2 hS6) (by decide) (by decide)) (by omega)
    · refine ⟨fun h9 => ?_, fun h9 => ?_⟩
      · exact hK (1) S6 (Ch.wk (Ch.tr hS2 hS6) (by decide) (by decide)) (by omega)
      · refine ⟨fun h10 => ?_, fun h10 => ?_⟩
        · exact hK (0) S6 (Ch.wk (Ch.tr hS2 hS6) (by decide) (by decide)) (by omega)
        · exact hK (1) S6 (Ch.wk (Ch.tr hS2 hS6) (by decide) (by decide)) (by omega)

set_option maxRecDepth 100000 in
set_option maxHeartbeats 4000000 in
theorem tX11_entity {a1 : Int} {S : St} {K : Int → St → Prop}  (hK : ∀ (r : Int) (S' : St), Ch [] [] S S' → (0 ≤ r ∧ r ≤ 127) → K r S') : wX11_entity a1 S K := by
  unfold wX11_entity
  intro g1
  refine ⟨fun h1 => ?_, fun h1 => ?_⟩
  · refine ⟨fun h2 => ?_, fun h2 => ?_⟩
    · refine ⟨fun h3 => ?_, fun h3 => ?_⟩
      · refine ⟨fun h4 => ?_, fun h4 => ?_⟩
        · exact hK (39) S (Ch.wk Ch.rf (by decide) (by decide)) (by omega)
        · exact hK (34) S (Ch.wk Ch.rf (by decide) (by decide)) (by omega)
      · exact hK (62) S (Ch.wk Ch.rf (by decide) (by decide)) (by omega)
    · exact hK (60) S (Ch.wk Ch.rf (by decide) (by decide)) (by omega)
  · exact hK (38) S (Ch.wk Ch.rf (by decide) (by decide)) (by omega)

set_option maxRecDepth 100000 in
set_option maxHeartbeats 4000000 in
theorem tX11_entitySign {a1 a2 : Int} {S : St} {K : Int → St → Prop} (p1 : iv 0 4 a1) (p2 : iv 0 5 a2) (hK : ∀ (r : Int) (S' : St), Ch [] [] S S' → (0 ≤ r ∧ r ≤ 127) → K r S') : wX11_entitySign a1 a2 S K := by
  unfold wX11_entitySign
  intro g1 g2
  refine ⟨by omega, ?_⟩
  refine ⟨fun h1 => ?_, fun h1 => ?_, fun h1 => ?_, fun h1 => ?_, fun h1 => ?_, fun h1 => ?_, fun h1 => ?_, fun h1 => ?_, fun h1 => ?_, fun h1 => ?_, fun h1 => ?_, fun h1 => ?_, fun h1 => ?_, fun h1 => ?_, fun h1 => ?_, fun h1 => ?_, fun h1 => ?_, fun h1 => ?_, fun h1 => ?_, fun h1 => ?_, fun h1 => ?_, fun h1 => ?_, fun h1 => ?_, fun h1 => ?_, fun h1 => ?_, fun h1 => ?_⟩
  · exact hK (0) S (Ch.wk Ch.rf (by decide) (by decide)) (by omega)
  · exact hK (97) S (Ch.wk Ch.rf (by decide) (by decide)) (by omega)
  · exact hK (109) S (Ch.wk Ch.rf (by decide) (by decide)) (by omega)
  · exact hK (112) S (Ch.wk Ch.rf (by decide) (by decide)) (by omega)
  · exact hK (59) S (Ch.wk Ch.rf (by decide) (by decide)) (by omega)
  · exact hK (0) S (Ch.wk Ch.rf (by decide) (by decide)) (by omega)
  · exact hK (108) S (Ch.wk Ch.rf (by decide) (by decide)) (by omega)
  · exact hK (116) S (Ch.wk Ch.rf (by decide) (by decide)) (by omega)
  · exact hK (59) S (Ch.wk Ch.rf (by decide) (by decide)) (by omega)
  · exact hK (0) S (Ch.wk Ch.rf (by decide) (by decide)) (by omega)
  · exact hK (0) S (Ch.wk Ch.rf (by decide) (by decide)) (by omega)
  · exact hK (103) S (Ch.wk Ch.rf (by decide) (by decide)) (by omega)
  · exact hK (116) S (Ch.wk Ch.rf (by decide) (by decide)) (by omega)
  · exact hK (59) S (Ch.wk Ch.rf (by decide) (by decide)) (by omega)
  · exact hK (0) S (Ch.wk Ch.rf (by decide) (by decide)) (by omega)
  · exact hK (0) S (Ch.wk Ch.rf (by decide) (by decide)) (by omega)
  · exact hK (113) S (Ch.wk Ch.rf (by decide) (by decide)) (by omega)
  · exact hK (117) S (Ch.wk Ch.rf (by decide) (by decide)) (by omega)
  · exact hK (111) S (Ch.wk Ch.rf (by decide) (by decide)) (by omega)
  · exact hK (116) S (Ch.wk Ch.rf (by decide) (by decide)) (by omega)
  · exact hK (59) S (Ch.wk Ch.rf (by decide) (by decide)) (by omega)
  · exact hK (97) S (Ch.wk Ch.rf (by decide) (by decide)) (by omega)
  · exact hK (112) S (Ch.wk Ch.rf (by decide) (by decide)) (by omega)
  · exact hK (111) S (Ch.wk Ch.rf (by decide) (by decide)) (by omega)
  · exact hK (115) S (Ch.wk Ch.rf (by decide) (by decide)) (by omega)
  · exact hK (59) S (Ch.wk Ch.rf (by decide) (by decide)) (by omega)

set_option maxRecDepth 100000 in
set_option maxHeartbeats 4000000 in
theorem tX11_figure {a1 a2 : Int} {S : St} {K : Int → St → Prop}  (hK : ∀ (r : Int) (S' : St), Ch [] [] S S' → (r = -2 ∨ (0 ≤ r ∧ r ≤ 15 ∧ 48 ≤ a1)) → K r S') : wX11_figure a1 a2 S K := by
  unfold wX11_figure
  intro g1 g2
  refine tX11_isDigit  (fun r1 S2 hS2 n3 => ?_)
  refine ⟨by omega, ?_⟩
  refine ⟨fun h4 => ?_, fun h4 => ?_⟩
  · refine ⟨fun h5 => ?_, fun h5 => ?_⟩
    · unfold wX11_figure_40
      refine ⟨by omega, ?_⟩
      refine ⟨fun h6 => ?_, fun h6 => ?_⟩
      · exact hK ((-2)) S2 (Ch.wk hS2 (by decide) (by decide)) (by omega)
      · refine ⟨by omega, ?_⟩
        refine ⟨fun h7 => ?_, fun h7 => ?_⟩
        · exact hK ((-2)) S2 (Ch.wk hS2 (by decide) (by decide)) (by omega)
        · refine ⟨fun h8 => ?_, fun h8 => ?_⟩
          · exact hK ((-2)) S2 (Ch.wk hS2 (by decide) (by decide)) (by omega)
          · exact hK (((a1 - 65) + 10)) S2 (Ch.wk hS2 (by decide) (by decide)) (by omega)
    · refine ⟨fun h9 => ?_, fun h9 => ?_⟩
      · unfold wX11_figure_40
        refine ⟨by omega, ?_⟩
        refine ⟨fun h10 => ?_, fun h10 => ?_⟩
        · exact hK ((-2)) S2 (Ch.wk hS2 (by decide) (by decide)) (by omega)
        · refine ⟨by omega, ?_⟩
          refine ⟨fun h11 => ?_, fun h11 => ?_⟩
          · exact hK ((-2)) S2 (Ch.wk hS2 (by decide) (by decide)) (by omega)
          · refine ⟨fun h12 => ?_, fun h12 => ?_⟩
            · exact hK ((-2)) S2 (Ch.wk hS2 (by decide) (by decide)) (by omega)
            · exact hK (((a1 - 65) + 10)) S2 (Ch.wk hS2 (by decide) (by decide)) (by omega)
      · refine ⟨fun h13 => ?_, fun h13 => ?_⟩
        · unfold wX11_figure_40
          refine ⟨by omega, ?_⟩
          refine ⟨fun h14 => ?_, fun h14 => ?_⟩
          · exact hK ((-2)) S2 (Ch.wk hS2 (by decide) (by decide)) (by omega)
          · refine ⟨by omega, ?_⟩
            refine ⟨fun h15 => ?_, fun h15 => ?_⟩
            · exact hK ((-2)) S2 (Ch.wk hS2 (by decide) (by decide)) (by omega)
            · refine ⟨fun h16 => ?_, fun h16 => ?_⟩
              · exact hK ((-2)) S2 (Ch.wk hS2 (by decide) (by decide)) (by omega)
              · exact hK (((a1 - 65) + 10)) S2 (Ch.wk hS2 (by decide) (by decide)) (by omega)
        · exact hK (((a1 - 97) + 10)) S2 (Ch.wk hS2 (by decide) (by decide)) (by omega)
  · exact hK ((a1 - 48)) S2 (Ch.wk hS2 (by decide) (by decide)) (by omega)

set_option maxRecDepth 100000 in
set_option maxHeartbeats 4000000 in
theorem tX11_sameName {a1 a2 : Int} {S : St} {K : Int → St → Prop} (p1 : iv 0 29 a1) (p2 : iv 0 29 a2) (hK : ∀ (r : Int) (S' : St), Ch [] [] S S' → (iv 0 1 r) → K r S') : wX11_sameName a1 a2 S K := by
  unfold wX11_sameName
  intro g1 g2
  refine ⟨by omega, by omega, ?_⟩
  intro q1
  refine ⟨by omega, by omega, ?_⟩
  intro q2
  refine ⟨fun h3 => ?_, fun h3 => ?_⟩
  · unfold wX11_sameName_20
    unfold wX11_sameName_24
    refine ⟨fun l1 l2 l3 l4 Sx => Ch [] [] S Sx ∧ a1 = l1 ∧ a2 = l2 ∧ (iv 0 8 l4) ∧ (iv 0 1 l3), fun l1 l2 l3 l4 Sx => (9 - l4).toNat, ?_, fun v5 v6 v7 v8 S4 hI => ?_⟩
    · exact ⟨Ch.re, rfl, rfl, by omega, by omega⟩
    obtain ⟨hS4, rfl, rfl, i9, i10⟩ := hI
    unfold wX11_sameName_24'
    refine ⟨by omega, by omega, ?_⟩
    intro q11
    have e12 : S4.2 57 (a1) = S.2 57 (a1) := congrFun (hS4.2 57 (by decide)) _
    refine ⟨by omega, ?_⟩
    refine ⟨fun h13 => ?_, fun h13 => ?_⟩
    · refine ⟨by omega, ?_⟩
      exact hK (v7) S4 (Ch.wk hS4 (by decide) (by decide)) (by omega)
    · refine ⟨by omega, ?_⟩
      refine ⟨fun h14 => ?_, fun h14 => ?_⟩
      · refine ⟨by omega, ?_⟩
        exact hK (v7) S4 (Ch.wk hS4 (by decide) (by decide)) (by omega)
      · refine ⟨by omega, by omega, ?_⟩
        intro q15
        have e16 : S4.2 58 (((8 * a1) + v8)) = S.2 58 (((8 * a1) + v8)) := congrFun (hS4.2 58 (by decide)) _
        refine ⟨by omega, by omega, ?_⟩
        intro q17
        have e18 : S4.2 58 (((8 * a2) + v8)) = S.2 58 (((8 * a2) + v8)) := congrFun (hS4.2 58 (by decide)) _
        refine ⟨fun h19 => ?_, fun h19 => ?_⟩
        · unfold wX11_sameName_71
          exact ⟨⟨(Ch.wk hS4 (by decide) (by decide)), rfl, rfl, by omega, by omega⟩, show (9 - (v8 + 1)).toNat < (9 - v8).toNat by omega⟩
        · unfold wX11_sameName_71
          exact ⟨⟨(Ch.wk hS4 (by decide) (by decide)), rfl, rfl, by omega, by omega⟩, show (9 - (v8 + 1)).toNat < (9 - v8).toNat by omega⟩
  · unfold wX11_sameName_20
    unfold wX11_sameName_24
    refine ⟨fun l1 l2 l3 l4 Sx => Ch [] [] S Sx ∧ a1 = l1 ∧ a2 = l2 ∧ (iv 0 8 l4) ∧ (iv 0 1 l3), fun l1 l2 l3 l4 Sx => (9 - l4).toNat, ?_, fun v21 v22 v23 v24 S20 hI => ?_⟩
    · exact ⟨Ch.re, rfl, rfl, by omega, by omega⟩
    obtain ⟨hS20, rfl, rfl, i25, i26⟩ := hI
    unfold wX11_sameName_24'
    refine ⟨by omega, by omega, ?_⟩
    intro q27
    have e28 : S20.2 57 (a1) = S.2 57 (a1) := congrFun (hS20.2 57 (by decide)) _
    refine ⟨by omega, ?_⟩
    refine ⟨fun h29 => ?_, fun h29 => ?_⟩
    · refine ⟨by omega, ?_⟩
      exact hK (v23) S20 (Ch.wk hS20 (by decide) (by decide)) (by omega)
    · refine ⟨by omega, ?_⟩
      refine ⟨fun h30 => ?_, fun h30 => ?_⟩
      · refine ⟨by omega, ?_⟩
        exact hK (v23) S20 (Ch.wk hS20 (by decide) (by decide)) (by omega)
      · refine ⟨by omega, by omega, ?_⟩
        intro q31
        have e32 : S20.2 58 (((8 * a1) + v24)) = S.2 58 (((8 * a1) + v24)) := congrFun (hS20.2 58 (by decide)) _
        refine ⟨by omega, by omega, ?_⟩
        intro q33
        have e34 : S20.2 58 (((8 * a2) + v24)) = S.2 58 (((8 * a2) + v24)) := congrFun (hS20.2 58 (by decide)) _
        refine ⟨fun h35 => ?_, fun h35 => ?_⟩
        · unfold wX11_sameName_71
          exact ⟨⟨(Ch.wk hS20 (by decide) (by decide)), rfl, rfl, by omega, by omega⟩, show (9 - (v24 + 1)).toNat < (9 - v24).toNat by omega⟩
        · unfold wX11_sameName_71
          exact ⟨⟨(Ch.wk hS20 (by decide) (by decide)), rfl, rfl, by omega, by omega⟩, show (9 - (v24 + 1)).toNat < (9 - v24).toNat by omega⟩

set_option maxRecDepth 100000 in
set_option maxHeartbeats 4000000 in
theorem tX11_put {a1 : Int} {S : St} {K : Int → St → Prop}  (hK : ∀ (r : Int) (S' : St), Ch [39] [83] S S' → (((S.1 54 39) ≤ 3000 ∧ (S'.1 54 39) = (S.1 54 39) + 1) ∨ ((S.1 54 39) = 3001 ∧ (S'.1 54 39) = 3001)) → K r S') : wX11_put a1 S K := by
  unfold wX11_put
  intro g1
  intro q1
  refine ⟨fun h2 => ?_, fun h2 => ?_⟩
  · exact hK (0) S (Ch.wk Ch.rf (by decide) (by decide)) (by omega)
  · refine ⟨by omega, by omega, ?_⟩
    refine ⟨by omega, ?_⟩
    intro S3 hS3e
    have hS3 : Ch [] [83] S S3 := Ch_A hS3e
    have hS3v : ∀ x, S3.2 83 x = if x = S.1 54 39 then a1 else S.2 83 x := pA_at hS3e
    intro q4
    have e5 : S3.1 54 39 = S.1 54 39 := hS3.1 39 (by decide)
    refine ⟨by omega, ?_⟩
    intro S6 hS6e
    have hS6 : Ch [39] [] S3 S6 := Ch_I hS6e
    have hS6v : S6.1 54 39 = (S3.1 54 39 + 1) := pI_at hS6e
    exact hK (0) S6 (Ch.wk (Ch.tr hS3 hS6) (by decide) (by decide)) (by omega)

set_option maxRecDepth 100000 in
set_option maxHeartbeats 4000000 in
theorem tX11_putWord {a1 a2 a3 a4 : Int} {S : St} {K : Int → St → Prop}  (hK : ∀ (r : Int) (S' : St), Ch [39] [83] S S' → ((S.1 54 39) ≤ (S'.1 54 39)) → ((S'.1 54 39) = 3001 ∨ (S.1 54 39) + 2 ≤ (S'.1 54 39)) → K r S') : wX11_putWord a1 a2 a3 a4 S K := by
  unfold wX11_putWord
  intro g1 g2 g3 g4
  refine tX11_put  (fun r1 S2 hS2 n3 => ?_)
  refine tX11_put  (fun r4 S5 hS5 n6 => ?_)
  refine ⟨fun h7 => ?_, fun h7 => ?_⟩
  · unfold wX11_putWord_19
    refine ⟨by omega, ?_⟩
    refine ⟨fun h8 => ?_, fun h8 => ?_⟩
    · exact hK (0) S5 (Ch.wk (Ch.tr hS2 hS5) (by decide) (by decide)) (by omega) (by omega)
    · refine tX11_put  (fun r9 S10 hS10 n11 => ?_)
      exact hK (0) S10 (Ch.wk (Ch.tr (Ch.tr hS2 hS5) hS10) (by decide) (by decide)) (by omega) (by omega)
  · refine tX11_put  (fun r12 S13 hS13 n14 => ?_)
    unfold wX11_putWord_19
    refine ⟨by omega, ?_⟩
    refine ⟨fun h15 => ?_, fun h15 => ?_⟩
    · exact hK (0) S13 (Ch.wk (Ch.tr (Ch.tr hS2 hS5) hS13) (by decide) (by decide)) (by omega) (by omega)
    · refine tX11_put  (fun r16 S17 hS17 n18 => ?_)
      exact hK (0) S17 (Ch.wk (Ch.tr (Ch.tr (Ch.tr hS2 hS5) hS13) hS17) (by decide) (by decide)) (by omega) (by omega)

set_option maxRecDepth 100000 in
set_option maxHeartbeats 4000000 in
theorem tX11_putAttribute {a1 a2 a3 a4 : Int} {S : St} {K : Int → St → Prop}  (hK : ∀ (r : Int) (S' : St), Ch [39] [83] S S' → ((S.1 54 39) ≤ (S'.1 54 39)) → ((S'.1 54 39) = 3001 ∨ (S.1 54 39) + 3 ≤ (S'.1 54 39)) → K r S') : wX11_putAttribute a1 a2 a3 a4 S K := by
  unfold wX11_putAttribute
  intro g1 g2 g3 g4
  refine tX11_put  (fun r1 S2 hS2 n3 => ?_)
  refine tX11_putWord  (fun r4 S5 hS5 n6 n7 => ?_)
  exact hK (0) S5 (Ch.wk (Ch.tr hS2 hS5) (by decide) (by decide)) (by omega) (by omega)

set_option maxRecDepth 100000 in
set_option maxHeartbeats 4000000 in
theorem tX11_putName {a1 : Int} {S : St} {K : Int → St → Prop} (p1 : iv 0 29 a1) (hK : ∀ (r : Int) (S' : St), Ch [39] [83] S S' → ((S.1 54 39) ≤ (S'.1 54 39)) → K r S') : wX11_putName a1 S K := by
  unfold wX11_putName
  intro g1
  unfold wX11_putName_2
  refine ⟨fun l1 l2 Sx => Ch [39] [83] S Sx ∧ a1 = l1 ∧ (iv 0 8 l2) ∧ ((S.1 54 39) ≤ (Sx.1 54 39)) ∧ (l2 = 0 ∨ (Sx.1 54 39) = 3001 ∨ (S.1 54 39) + 1 ≤ (Sx.1 54 39)), fun l1 l2 Sx => (9 - l2).toNat, ?_, fun v2 v3 S1 hI => ?_⟩
  · exact ⟨Ch.re, rfl, by omega, by omega, by omega⟩
  obtain ⟨hS1, rfl, i4, i5, i6⟩ := hI
  unfold wX11_putName_2'
  refine ⟨by omega, by omega, ?_⟩
  intro q7
  have e8 : S1.2 57 (a1) = S.2 57 (a1) := congrFun (hS1.2 57 (by decide)) _
  refine ⟨by omega, ?_⟩
  refine ⟨fun h9 => ?_, fun h9 => ?_⟩
  · exact hK (0) S1 (Ch.wk hS1 (by decide) (by decide)) (by omega)
  · refine ⟨by omega, by omega, ?_⟩
    intro q10
    have e11 : S1.2 58 (((8 * a1) + v3)) = S.2 58 (((8 * a1) + v3)) := congrFun (hS1.2 58 (by decide)) _
    refine ⟨fun h12 => ?_, fun h12 => ?_⟩
    · unfold wX11_putName_37
      refine ⟨by omega, ?_⟩
      refine tX11_put  (fun r13 S14 hS14 n15 => ?_)
      refine ⟨fun h16 => ?_, fun h16 => ?_⟩
      · unfold wX11_putName_52
        refine ⟨by omega, ?_⟩
        refine ⟨fun h17 => ?_, fun h17 => ?_⟩
        · unfold wX11_putName_64
          exact ⟨⟨(Ch.wk (Ch.tr hS1 hS14) (by decide) (by decide)), rfl, by omega, by omega, by omega⟩, show (9 - (v3 + 1)).toNat < (9 - v3).toNat by omega⟩
        · refine tX11_put  (fun r18 S19 hS19 n20 => ?_)
          unfold wX11_putName_64
          exact ⟨⟨(Ch.wk (Ch.tr (Ch.tr hS1 hS14) hS19) (by decide) (by decide)), rfl, by omega, by omega, by omega⟩, show (9 - (v3 + 1)).toNat < (9 - v3).toNat by omega⟩
      · refine tX11_put  (fun r21 S22 hS22 n23 => ?_)
        unfold wX11_putName_52
        refine ⟨by omega, ?_⟩
        refine ⟨fun h24 => ?_, fun h24 => ?_⟩
        · unfold wX11_putName_64
          exact ⟨⟨(Ch.wk (Ch.tr (Ch.tr hS1 hS14) hS22) (by decide) (by decide)), rfl, by omega, by omega, by omega⟩, show (9 - (v3 + 1)).toNat < (9 - v3).toNat by omega⟩
        · refine tX11_put  (fun r25 S26 hS26 n27 => ?_)
          unfold wX11_putName_64
          exact ⟨⟨(Ch.wk (Ch.tr (Ch.tr (Ch.tr hS1 hS14) hS22) hS26) (by decide) (by decide)), rfl, by omega, by omega, by omega⟩, show (9 - (v3 + 1)).toNat < (9 - v3).toNat by omega⟩
    · unfold wX11_putName_37
      refine tX11_put  (fun r28 S29 hS29 n30 => ?_)
      refine ⟨by omega, ?_⟩
      refine ⟨fun h31 => ?_, fun h31 => ?_⟩
      · unfold wX11_putName_52
        refine ⟨by omega, ?_⟩
        refine ⟨fun h32 => ?_, fun h32 => ?_⟩
        · unfold wX11_putName_64
          exact ⟨⟨(Ch.wk (Ch.tr hS1 hS29) (by decide) (by decide)), rfl, by omega, by omega, by omega⟩, show (9 - (v3 + 1)).toNat < (9 - v3).toNat by omega⟩
        · refine tX11_put  (fun r33 S34 hS34 n35 => ?_)
          unfold wX11_putName_64
          exact ⟨⟨(Ch.wk (Ch.tr (Ch.tr hS1 hS29) hS34) (by decide) (by decide)), rfl, by omega, by omega, by omega⟩, show (9 - (v3 + 1)).toNat < (9 - v3).toNat by omega⟩
      · refine tX11_put  (fun r36 S37 hS37 n38 => ?_)
        unfold wX11_putName_52
        refine ⟨by omega, ?_⟩
        refine ⟨fun h39 => ?_, fun h39 => ?_⟩
        · unfold wX11_putName_64
          exact ⟨⟨(Ch.wk (Ch.tr (Ch.tr hS1 hS29) hS37) (by decide) (by decide)), rfl, by omega, by omega, by omega⟩, show (9 - (v3 + 1)).toNat < (9 - v3).toNat by omega⟩
        · refine tX11_put  (fun r40 S41 hS41 n42 => ?_)
          unfold wX11_putName_64
          exact ⟨⟨(Ch.wk (Ch.tr (Ch.tr (Ch.tr hS1 hS29) hS37) hS41) (by decide) (by decide)), rfl, by omega, by omega, by omega⟩, show (9 - (v3 + 1)).toNat < (9 - v3).toNat by omega⟩

set_option maxRecDepth 100000 in
set_option maxHeartbeats 4000000 in
theorem tX11_isBlank {a1 : Int} {S : St} {K : Int → St → Prop}  (hK : ∀ (r : Int) (S' : St), Ch [] [] S S' → (((a1 = 32 ∨ a1 = 9 ∨ a1 = 10 ∨ a1 = 13) ∧ r = 1) ∨ (¬ (a1 = 32 ∨ a1 = 9 ∨ a1 = 10 ∨ a1 = 13) ∧ r = 0)) → K r S') : wX11_isBlank a1 S K := by
  unfold wX11_isBlank
  intro g1
  refine ⟨fun h1 => ?_, fun h1 => ?_⟩
  · exact hK (1) S (Ch.wk Ch.rf (by decide) (by decide)) (by omega)
  · refine ⟨fun h2 => ?_, fun h2 => ?_⟩
    · exact hK (1) S (Ch.wk Ch.rf (by decide) (by decide)) (by omega)
    · refine ⟨fun h3 => ?_, fun h3 => ?_⟩
      · exact hK (1) S (Ch.wk Ch.rf (by decide) (by decide)) (by omega)
      · refine ⟨fun h4 => ?_, fun h4 => ?_⟩
        · exact hK (0) S (Ch.wk Ch.rf (by decide) (by decide)) (by omega)
        · exact hK (1) S (Ch.wk Ch.rf (by decide) (by decide)) (by omega)

set_option maxRecDepth 100000 in
set_option maxHeartbeats 4000000 in
theorem tX11_signAt {a1 : Int} {S : St} {K : Int → St → Prop} (p1 : 0 ≤ a1) (hK : ∀ (r : Int) (S' : St), Ch [] [] S S' → ((a1 < (S.1 54 0) ∧ r = (S.2 55) a1) ∨ ((S.1 54 0) ≤ a1 ∧ r = 0)) → (rng r) → K r S') : wX11_signAt a1 S K := by
  unfold wX11_signAt
  intro g1
  intro q1
  refine ⟨fun h2 => ?_, fun h2 => ?_⟩
  · exact hK (0) S (Ch.wk Ch.rf (by decide) (by decide)) (by omega) (by omega)
  · refine ⟨by omega, by omega, ?_⟩
    intro q3
    exact hK (S.2 55 (a1)) S (Ch.wk Ch.rf (by decide) (by decide)) (by omega) (by omega)

set_option maxRecDepth 100000 in
set_option maxHeartbeats 4000000 in
theorem tX11_want {a1 : Int} {S : St} {K : Int → St → Prop} (p1 : iv 0 1 a1) (hK : ∀ (r : Int) (S' : St), Ch [23] [] S S' → (((S'.1 54 23) = 0 ∧ (S.1 54 23) = 0 ∧ a1 = 1) ∨ ((S'.1 54 23) = 1 ∧ ((S.1 54 23) = 1 ∨ a1 = 0))) → K r S') : wX11_want a1 S K := by
  unfold wX11_want
  intro g1
  intro q1
  refine ⟨fun h2 => ?_, fun h2 => ?_⟩
  · intro S3 hS3e
    have hS3 : Ch [23] [] S S3 := Ch_I hS3e
    have hS3v : S3.1 54 23 = 1 := pI_at hS3e
    exact hK (0) S3 (Ch.wk hS3 (by decide) (by decide)) (by omega)
  · refine ⟨fun h4 => ?_, fun h4 => ?_⟩
    · intro S5 hS5e
      have hS5 : Ch [23] [] S S5 := Ch_I hS5e
      have hS5v : S5.1 54 23 = 0 := pI_at hS5e
      exact hK (0) S5 (Ch.wk hS5 (by decide) (by decide)) (by omega)
    · intro S6 hS6e
      have hS6 : Ch [23] [] S S6 := Ch_I hS6e
      have hS6v : S6.1 54 23 = 1 := pI_at hS6e
      exact hK (0) S6 (Ch.wk hS6 (by decide) (by decide)) (by omega)

set_option maxRecDepth 100000 in
set_option maxHeartbeats 4000000 in
theorem tX11_eat {a1 : Int} {S : St} {K : Int → St → Prop} (p1 : ¬ a1 = 0) (p2 : (S.1 54 22) ≤ (S.1 54 0)) (hK : ∀ (r : Int) (S' : St), Ch [22, 23] [] S S' → ((S'.1 54 22) ≤ (S.1 54 0)) → K r S') : wX11_eat a1 S K := by
  unfold wX11_eat
  intro g1
  intro q1
  refine tX11_signAt (by omega) (fun r2 S3 hS3 n4 n5 => ?_)
  refine ⟨by omega, ?_⟩
  refine ⟨fun h6 => ?_, fun h6 => ?_⟩
  · unfold wX11_eat_18
    have e9 : S3.1 54 23 = S.1 54 23 := hS3.1 23 (by decide)
    refine tX11_want (by omega) (fun r7 S8 hS8 n10 => ?_)
    intro q11
    refine ⟨fun h12 => ?_, fun h12 => ?_⟩
    · intro q13
      have e14 : S8.1 54 22 = S3.1 54 22 := hS8.1 22 (by decide)
      have e15 : S3.1 54 22 = S.1 54 22 := hS3.1 22 (by decide)
      refine ⟨by omega, ?_⟩
      intro S16 hS16e
      have hS16 : Ch [22] [] S8 S16 := Ch_I hS16e
      have hS16v : S16.1 54 22 = (S8.1 54 22 + 1) := pI_at hS16e
      exact hK (0) S16 (Ch.wk (Ch.tr (Ch.tr hS3 hS8) hS16) (by decide) (by decide)) (by omega)
    · intro q17
      have e18 : S8.1 54 22 = S3.1 54 22 := hS8.1 22 (by decide)
      have e19 : S3.1 54 22 = S.1 54 22 := hS3.1 22 (by decide)
      intro S20 hS20e
      have hS20 : Ch [22] [] S8 S20 := Ch_I hS20e
      have hS20v : S20.1 54 22 = S8.1 54 22 := pI_at hS20e
      exact hK (0) S20 (Ch.wk (Ch.tr (Ch.tr hS3 hS8) hS20) (by decide) (by decide)) (by omega)
  · unfold wX11_eat_18
    have e23 : S3.1 54 23 = S.1 54 23 := hS3.1 23 (by decide)
    refine tX11_want (by omega) (fun r21 S22 hS22 n24 => ?_)
    intro q25
    refine ⟨fun h26 => ?_, fun h26 => ?_⟩
    · intro q27
      have e28 : S22.1 54 22 = S3.1 54 22 := hS22.1 22 (by decide)
      have e29 : S3.1 54 22 = S.1 54 22 := hS3.1 22 (by decide)
      refine ⟨by omega, ?_⟩
      intro S30 hS30e
      have hS30 : Ch [22] [] S22 S30 := Ch_I hS30e
      have hS30v : S30.1 54 22 = (S22.1 54 22 + 1) := pI_at hS30e
      exact hK (0) S30 (Ch.wk (Ch.tr (Ch.tr hS3 hS22) hS30) (by decide) (by decide)) (by omega)
    · intro q31
      have e32 : S22.1 54 22 = S3.1 54 22 := hS22.1 22 (by decide)
      have e33 : S3.1 54 22 = S.1 54 22 := hS3.1 22 (by decide)
      intro S34 hS34e
      have hS34 : Ch [22] [] S22 S34 := Ch_I hS34e
      have hS34v : S34.1 54 22 = S22.1 54 22 := pI_at hS34e
      exact hK (0) S34 (Ch.wk (Ch.tr (Ch.tr hS3 hS22) hS34) (by decide) (by decide)) (by omega)

set_option maxRecDepth 100000 in
set_option maxHeartbeats 4000000 in
theorem tX11_letterOf {a1 a2 : Int} {S : St} {K : Int → St → Prop}  (hK : ∀ (r : Int) (S' : St), Ch [] [] S S' → (0 ≤ r ∧ r ≤ 127) → K r S') : wX11_letterOf a1 a2 S K := by
  unfold wX11_letterOf
  intro g1 g2
  refine ⟨fun h1 => ?_, fun h1 => ?_⟩
  · refine ⟨fun h2 => ?_, fun h2 => ?_⟩
    · exact hK (100) S (Ch.wk Ch.rf (by decide) (by decide)) (by omega)
    · exact hK (105) S (Ch.wk Ch.rf (by decide) (by decide)) (by omega)
  · refine ⟨fun h3 => ?_, fun h3 => ?_⟩
    · refine ⟨fun h4 => ?_, fun h4 => ?_⟩
      · refine ⟨fun h5 => ?_, fun h5 => ?_⟩
        · exact hK (115) S (Ch.wk Ch.rf (by decide) (by decide)) (by omega)
        · exact hK (97) S (Ch.wk Ch.rf (by decide) (by decide)) (by omega)
      · exact hK (108) S (Ch.wk Ch.rf (by decide) (by decide)) (by omega)
    · exact hK (99) S (Ch.wk Ch.rf (by decide) (by decide)) (by omega)

set_option maxRecDepth 100000 in
set_option maxHeartbeats 4000000 in
theorem tX11_isWord {a1 a2 : Int} {S : St} {K : Int → St → Prop} (p1 : iv 0 29 a1) (p2 : iv 0 1 a2) (hK : ∀ (r : Int) (S' : St), Ch [] [] S S' → (iv 0 1 r) → K r S') : wX11_isWord a1 a2 S K := by
  unfold wX11_isWord
  intro g1 g2
  refine ⟨fun h1 => ?_, fun h1 => ?_⟩
  · unfold wX11_isWord_9
    refine ⟨by omega, by omega, ?_⟩
    intro q2
    refine ⟨fun h3 => ?_, fun h3 => ?_⟩
    · unfold wX11_isWord_25
      unfold wX11_isWord_30
      refine ⟨fun l1 l2 l3 l4 l5 Sx => Ch [] [] S Sx ∧ a1 = l1 ∧ a2 = l2 ∧ 2 = l3 ∧ (iv 0 5 l5) ∧ (iv 0 1 l4), fun l1 l2 l3 l4 l5 Sx => (6 - l5).toNat, ?_, fun v5 v6 v7 v8 v9 S4 hI => ?_⟩
      · exact ⟨Ch.re, rfl, rfl, rfl, by omega, by omega⟩
      obtain ⟨hS4, rfl, rfl, rfl, i10, i11⟩ := hI
      unfold wX11_isWord_30'
      refine ⟨by omega, ?_⟩
      refine ⟨fun h12 => ?_, fun h12 => ?_⟩
      · refine ⟨by omega, ?_⟩
        exact hK (v8) S4 (Ch.wk hS4 (by decide) (by decide)) (by omega)
      · refine ⟨by omega, ?_⟩
        refine ⟨fun h13 => ?_, fun h13 => ?_⟩
        · refine ⟨by omega, ?_⟩
          exact hK (v8) S4 (Ch.wk hS4 (by decide) (by decide)) (by omega)
        · refine ⟨by omega, by omega, ?_⟩
          intro q14
          have e15 : S4.2 64 (((8 * a1) + v9)) = S.2 64 (((8 * a1) + v9)) := congrFun (hS4.2 64 (by decide)) _
          refine ⟨by omega, ?_⟩
          refine tX11_letterOf  (fun r16 S17 hS17 n18 => ?_)
          refine ⟨by omega, ?_⟩
          refine ⟨fun h19 => ?_, fun h19 => ?_⟩
          · unfold wX11_isWord_67
            exact ⟨⟨(Ch.wk (Ch.tr hS4 hS17) (by decide) (by decide)), rfl, rfl, rfl, by omega, by omega⟩, show (6 - (v9 + 1)).toNat < (6 - v9).toNat by omega⟩
          · unfold wX11_isWord_67
            exact ⟨⟨(Ch.wk (Ch.tr hS4 hS17) (by decide) (by decide)), rfl, rfl, rfl, by omega, by omega⟩, show (6 - (v9 + 1)).toNat < (6 - v9).toNat by omega⟩
    · unfold wX11_isWord_25
      unfold wX11_isWord_30
      refine ⟨fun l1 l2 l3 l4 l5 Sx => Ch [] [] S Sx ∧ a1 = l1 ∧ a2 = l2 ∧ 2 = l3 ∧ (iv 0 5 l5) ∧ (iv 0 1 l4), fun l1 l2 l3 l4 l5 Sx => (6 - l5).toNat, ?_, fun v21 v22 v23 v24 v25 S20 hI => ?_⟩
      · exact ⟨Ch.re, rfl, rfl, rfl, by omega, by omega⟩
      obtain ⟨hS20, rfl, rfl, rfl, i26, i27⟩ := hI
      unfold wX11_isWord_30'
      refine ⟨by omega, ?_⟩
      refine ⟨fun h28 => ?_, fun h28 => ?_⟩
      · refine ⟨by omega, ?_⟩
        exact hK (v24) S20 (Ch.wk hS20 (by decide) (by decide)) (by omega)
      · refine ⟨by omega, ?_⟩
        refine ⟨fun h29 => ?_, fun h29 => ?_⟩
        · refine ⟨by omega, ?_⟩
          exact hK (v24) S20 (Ch.wk hS20 (by decide) (by decide)) (by omega)
        · refine ⟨by omega, by omega, ?_⟩
          intro q30
          have e31 : S20.2 64 (((8 * a1) + v25)) = S.2 64 (((8 * a1) + v25)) := congrFun (hS20.2 64 (by decide)) _
          refine ⟨by omega, ?_⟩
          refine tX11_letterOf  (fun r32 S33 hS33 n34 => ?_)
          refine ⟨by omega, ?_⟩
          refine ⟨fun h35 => ?_, fun h35 => ?_⟩
          · unfold wX11_isWord_67
            exact ⟨⟨(Ch.wk (Ch.tr hS20 hS33) (by decide) (by decide)), rfl, rfl, rfl, by omega, by omega⟩, show (6 - (v25 + 1)).toNat < (6 - v25).toNat by omega⟩
          · unfold wX11_isWord_67
            exact ⟨⟨(Ch.wk (Ch.tr hS20 hS33) (by decide) (by decide)), rfl, rfl, rfl, by omega, by omega⟩, show (6 - (v25 + 1)).toNat < (6 - v25).toNat by omega⟩
  · unfold wX11_isWord_9
    refine ⟨by omega, by omega, ?_⟩
    intro q36
    refine ⟨fun h37 => ?_, fun h37 => ?_⟩
    · unfold wX11_isWord_25
      unfold wX11_isWord_30
      refine ⟨fun l1 l2 l3 l4 l5 Sx => Ch [] [] S Sx ∧ a1 = l1 ∧ a2 = l2 ∧ 5 = l3 ∧ (iv 0 5 l5) ∧ (iv 0 1 l4), fun l1 l2 l3 l4 l5 Sx => (6 - l5).toNat, ?_, fun v39 v40 v41 v42 v43 S38 hI => ?_⟩
      · exact ⟨Ch.re, rfl, rfl, rfl, by omega, by omega⟩
      obtain ⟨hS38, rfl, rfl, rfl, i44, i45⟩ := hI
      unfold wX11_isWord_30'
      refine ⟨by omega, ?_⟩
      refine ⟨fun h46 => ?_, fun h46 => ?_⟩
      · refine ⟨by omega, ?_⟩
        exact hK (v42) S38 (Ch.wk hS38 (by decide) (by decide)) (by omega)
      · refine ⟨by omega, ?_⟩
        refine ⟨fun h47 => ?_, fun h47 => ?_⟩
        · refine ⟨by omega, ?_⟩
          exact hK (v42) S38 (Ch.wk hS38 (by decide) (by decide)) (by omega)
        · refine ⟨by omega, by omega, ?_⟩
          intro q48
          have e49 : S38.2 64 (((8 * a1) + v43)) = S.2 64 (((8 * a1) + v43)) := congrFun (hS38.2 64 (by decide)) _
          refine ⟨by omega, ?_⟩
          refine tX11_letterOf  (fun r50 S51 hS51 n52 => ?_)
          refine ⟨by omega, ?_⟩
          refine ⟨fun h53 => ?_, fun h53 => ?_⟩
          · unfold wX11_isWord_67
            exact ⟨⟨(Ch.wk (Ch.tr hS38 hS51) (by decide) (by decide)), rfl, rfl, rfl, by omega, by omega⟩, show (6 - (v43 + 1)).toNat < (6 - v43).toNat by omega⟩
          · unfold wX11_isWord_67
            exact ⟨⟨(Ch.wk (Ch.tr hS38 hS51) (by decide) (by decide)), rfl, rfl, rfl, by omega, by omega⟩, show (6 - (v43 + 1)).toNat < (6 - v43).toNat by omega⟩
    · unfold wX11_isWord_25
      unfold wX11_isWord_30
      refine ⟨fun l1 l2 l3 l4 l5 Sx => Ch [] [] S Sx ∧ a1 = l1 ∧ a2 = l2 ∧ 5 = l3 ∧ (iv 0 5 l5) ∧ (iv 0 1 l4), fun l1 l2 l3 l4 l5 Sx => (6 - l5).toNat, ?_, fun v55 v56 v57 v58 v59 S54 hI => ?_⟩
      · exact ⟨Ch.re, rfl, rfl, rfl, by omega, by omega⟩
      obtain ⟨hS54, rfl, rfl, rfl, i60, i61⟩ := hI
      unfold wX11_isWord_30'
      refine ⟨by omega, ?_⟩
      refine ⟨fun h62 => ?_, fun h62 => ?_⟩
      · refine ⟨by omega, ?_⟩
        exact hK (v58) S54 (Ch.wk hS54 (by decide) (by decide)) (by omega)
      · refine ⟨by omega, ?_⟩
        refine ⟨fun h63 => ?_, fun h63 => ?_⟩
        · refine ⟨by omega, ?_⟩
          exact hK (v58) S54 (Ch.wk hS54 (by decide) (by decide)) (by omega)
        · refine ⟨by omega, by omega, ?_⟩
          intro q64
          have e65 : S54.2 64 (((8 * a1) + v59)) = S.2 64 (((8 * a1) + v59)) := congrFun (hS54.2 64 (by decide)) _
          refine ⟨by omega, ?_⟩
          refine tX11_letterOf  (fun r66 S67 hS67 n68 => ?_)
          refine ⟨by omega, ?_⟩
          refine ⟨fun h69 => ?_, fun h69 => ?_⟩
          · unfold wX11_isWord_67
            exact ⟨⟨(Ch.wk (Ch.tr hS54 hS67) (by decide) (by decide)), rfl, rfl, rfl, by omega, by omega⟩, show (6 - (v59 + 1)).toNat < (6 - v59).toNat by omega⟩
          · unfold wX11_isWord_67
            exact ⟨⟨(Ch.wk (Ch.tr hS54 hS67) (by decide) (by decide)), rfl, rfl, rfl, by omega, by omega⟩, show (6 - (v59 + 1)).toNat < (6 - v59).toNat by omega⟩

set_option maxRecDepth 100000 in
set_option maxHeartbeats 4000000 in
theorem tX11_nameAt {a1 a2 : Int} {S : St} {K : Int → St → Prop} (p1 : iv 0 3000 a1) (p2 : iv 0 29 a2) (hK : ∀ (r : Int) (S' : St), Ch [] [63, 64] S S' → (r = -2 ∨ (r = -10 ∧ a1 + 8 ≤ (S.1 54 0)) ∨ (1 ≤ r ∧ r ≤ 8 ∧ a1 + r ≤ (S.1 54 0))) → K r S') : wX11_nameAt a1 a2 S K := by
  unfold wX11_nameAt
  intro g1 g2
  refine tX11_signAt (by omega) (fun r1 S2 hS2 n3 n4 => ?_)
  unfold wX11_nameAt_9
  refine ⟨fun l1 l2 l3 l4 Sx => Ch [] [64] S2 Sx ∧ a1 = l1 ∧ a2 = l2 ∧ (iv 0 8 l3) ∧ (rng l4) ∧ (l4 = 0 ∨ a1 + l3 < (S.1 54 0)) ∧ (l3 = 0 ∨ a1 + l3 ≤ (S.1 54 0)), fun l1 l2 l3 l4 Sx => (9 - l3).toNat, ?_, fun v6 v7 v8 v9 S5 hI => ?_⟩
  · exact ⟨Ch.re, rfl, rfl, by omega, by omega, by omega, by omega⟩
  obtain ⟨hS5, rfl, rfl, i10, i11, i12, i13⟩ := hI
  unfold wX11_nameAt_9'
  refine ⟨by omega, ?_⟩
  refine tX11_isLetter  (fun r14 S15 hS15 n16 => ?_)
  refine ⟨by omega, ?_⟩
  refine ⟨fun h17 => ?_, fun h17 => ?_⟩
  · unfold wX11_nameAt_43
    refine ⟨by omega, ?_⟩
    refine ⟨fun h18 => ?_, fun h18 => ?_⟩
    · refine ⟨by omega, by omega, ?_⟩
      refine ⟨by omega, ?_⟩
      intro S19 hS19e
      have hS19 : Ch [] [64] S15 S19 := Ch_A hS19e
      have hS19v : ∀ x, S19.2 64 x = if x = ((8 * a2) + v8) then v9 else S15.2 64 x := pA_at hS19e
      refine ⟨by omega, ?_⟩
      have e22 : S19.1 54 0 = S15.1 54 0 := hS19.1 0 (by decide)
      have e23 : S15.1 54 0 = S5.1 54 0 := hS15.1 0 (by decide)
      have e24 : S5.1 54 0 = S2.1 54 0 := hS5.1 0 (by decide)
      have e25 : S2.1 54 0 = S.1 54 0 := hS2.1 0 (by decide)
      refine tX11_signAt (by omega) (fun r20 S21 hS21 n26 n27 => ?_)
      exact ⟨⟨(Ch.wk (Ch.tr (Ch.tr (Ch.tr hS5 hS15) hS19) hS21) (by decide) (by decide)), rfl, rfl, by omega, by omega, by omega, by omega⟩, show (9 - (v8 + 1)).toNat < (9 - v8).toNat by omega⟩
    · exact hK ((-10)) S15 (Ch.wk (Ch.tr (Ch.tr hS2 hS5) hS15) (by decide) (by decide)) (by omega)
  · refine ⟨fun h28 => ?_, fun h28 => ?_⟩
    · unfold wX11_nameAt_43
      refine ⟨by omega, ?_⟩
      refine ⟨fun h29 => ?_, fun h29 => ?_⟩
      · refine ⟨by omega, by omega, ?_⟩
        refine ⟨by omega, ?_⟩
        intro S30 hS30e
        have hS30 : Ch [] [64] S15 S30 := Ch_A hS30e
        have hS30v : ∀ x, S30.2 64 x = if x = ((8 * a2) + v8) then v9 else S15.2 64 x := pA_at hS30e
        refine ⟨by omega, ?_⟩
        have e33 : S30.1 54 0 = S15.1 54 0 := hS30.1 0 (by decide)
        have e34 : S15.1 54 0 = S5.1 54 0 := hS15.1 0 (by decide)
        have e35 : S5.1 54 0 = S2.1 54 0 := hS5.1 0 (by decide)
        have e36 : S2.1 54 0 = S.1 54 0 := hS2.1 0 (by decide)
        refine tX11_signAt (by omega) (fun r31 S32 hS32 n37 n38 => ?_)
        exact ⟨⟨(Ch.wk (Ch.tr (Ch.tr (Ch.tr hS5 hS15) hS30) hS32) (by decide) (by decide)), rfl, rfl, by omega, by omega, by omega, by omega⟩, show (9 - (v8 + 1)).toNat < (9 - v8).toNat by omega⟩
      · exact hK ((-10)) S15 (Ch.wk (Ch.tr (Ch.tr hS2 hS5) hS15) (by decide) (by decide)) (by omega)
    · refine ⟨fun h39 => ?_, fun h39 => ?_⟩
      · unfold wX11_nameAt_43
        refine ⟨by omega, ?_⟩
        refine ⟨fun h40 => ?_, fun h40 => ?_⟩
        · refine ⟨by omega, by omega, ?_⟩
          refine ⟨by omega, ?_⟩
          intro S41 hS41e
          have hS41 : Ch [] [64] S15 S41 := Ch_A hS41e
          have hS41v : ∀ x, S41.2 64 x = if x = ((8 * a2) + v8) then v9 else S15.2 64 x := pA_at hS41e
          refine ⟨by omega, ?_⟩
          have e44 : S41.1 54 0 = S15.1 54 0 := hS41.1 0 (by decide)
          have e45 : S15.1 54 0 = S5.1 54 0 := hS15.1 0 (by decide)
          have e46 : S5.1 54 0 = S2.1 54 0 := hS5.1 0 (by decide)
          have e47 : S2.1 54 0 = S.1 54 0 := hS2.1 0 (by decide)
          refine tX11_signAt (by omega) (fun r42 S43 hS43 n48 n49 => ?_)
          exact ⟨⟨(Ch.wk (Ch.tr (Ch.tr (Ch.tr hS5 hS15) hS41) hS43) (by decide) (by decide)), rfl, rfl, by omega, by omega, by omega, by omega⟩, show (9 - (v8 + 1)).toNat < (9 - v8).toNat by omega⟩
        · exact hK ((-10)) S15 (Ch.wk (Ch.tr (Ch.tr hS2 hS5) hS15) (by decide) (by decide)) (by omega)
      · refine ⟨by omega, ?_⟩
        refine ⟨fun h50 => ?_, fun h50 => ?_⟩
        · unfold wX11_nameAt_80
          refine ⟨by omega, by omega, ?_⟩
          refine ⟨by omega, ?_⟩
          intro S51 hS51e
          have hS51 : Ch [] [63] S15 S51 := Ch_A hS51e
          have hS51v : ∀ x, S51.2 63 x = if x = a2 then v8 else S15.2 63 x := pA_at hS51e
          refine ⟨fun h52 => ?_, fun h52 => ?_⟩
          · exact hK (v8) S51 (Ch.wk (Ch.tr (Ch.tr (Ch.tr hS2 hS5) hS15) hS51) (by decide) (by decide)) (by omega)
          · exact hK ((-2)) S51 (Ch.wk (Ch.tr (Ch.tr (Ch.tr hS2 hS5) hS15) hS51) (by decide) (by decide)) (by omega)
        · refine tX11_isDigit  (fun r53 S54 hS54 n55 => ?_)
          refine ⟨by omega, ?_⟩
          refine ⟨fun h56 => ?_, fun h56 => ?_⟩
          · unfold wX11_nameAt_80
            refine ⟨by omega, by omega, ?_⟩
            refine ⟨by omega, ?_⟩
            intro S57 hS57e
            have hS57 : Ch [] [63] S54 S57 := Ch_A hS57e
            have hS57v : ∀ x, S57.2 63 x = if x = a2 then v8 else S54.2 63 x := pA_at hS57e
            refine ⟨fun h58 => ?_, fun h58 => ?_⟩
            · exact hK (v8) S57 (Ch.wk (Ch.tr (Ch.tr (Ch.tr (Ch.tr hS2 hS5) hS15) hS54) hS57) (by decide) (by decide)) (by omega)
            · exact hK ((-2)) S57 (Ch.wk (Ch.tr (Ch.tr (Ch.tr (Ch.tr hS2 hS5) hS15) hS54) hS57) (by decide) (by decide)) (by omega)
          · unfold wX11_nameAt_43
            refine ⟨by omega, ?_⟩
            refine ⟨fun h59 => ?_, fun h59 => ?_⟩
            · refine ⟨by omega, by omega, ?_⟩
              refine ⟨by omega, ?_⟩
              intro S60 hS60e
              have hS60 : Ch [] [64] S54 S60 := Ch_A hS60e
              have hS60v : ∀ x, S60.2 64 x = if x = ((8 * a2) + v8) then v9 else S54.2 64 x := pA_at hS60e
              refine ⟨by omega, ?_⟩
              have e63 : S60.1 54 0 = S54.1 54 0 := hS60.1 0 (by decide)
              have e64 : S54.1 54 0 = S15.1 54 0 := hS54.1 0 (by decide)
              have e65 : S15.1 54 0 = S5.1 54 0 := hS15.1 0 (by decide)
              have e66 : S5.1 54 0 = S2.1 54 0 := hS5.1 0 (by decide)
              have e67 : S2.1 54 0 = S.1 54 0 := hS2.1 0 (by decide)
              refine tX11_signAt (by omega) (fun r61 S62 hS62 n68 n69 => ?_)
              exact ⟨⟨(Ch.wk (Ch.tr (Ch.tr (Ch.tr (Ch.tr hS5 hS15) hS54) hS60) hS62) (by decide) (by decide)), rfl, rfl, by omega, by omega, by omega, by omega⟩, show (9 - (v8 + 1)).toNat < (9 - v8).toNat by omega⟩
            · exact hK ((-10)) S54 (Ch.wk (Ch.tr (Ch.tr (Ch.tr hS2 hS5) hS15) hS54) (by decide) (by decide)) (by omega)

set_option maxRecDepth 100000 in
set_option maxHeartbeats 4000000 in
theorem tX11_name {a1 a2 a3 : Int} {S : St} {K : Int → St → Prop} (p1 : iv 0 29 a1) (p2 : 0 ≤ a2) (p3 : a3 ≤ 30) (p4 : (S.1 54 22) ≤ (S.1 54 0)) (hK : ∀ (r : Int) (S' : St), Ch [22, 23, 24] [63, 64] S S' → ((S'.1 54 22) ≤ (S.1 54 0)) → K r S') : wX11_name a1 a2 a3 S K := by
  unfold wX11_name
  intro g1 g2 g3
  intro q1
  refine tX11_nameAt (by omega) (by omega) (fun r2 S3 hS3 n4 => ?_)
  refine ⟨by omega, ?_⟩
  refine ⟨fun h5 => ?_, fun h5 => ?_⟩
  · intro q6
    have e7 : S3.1 54 22 = S.1 54 22 := hS3.1 22 (by decide)
    refine ⟨by omega, ?_⟩
    intro S8 hS8e
    have hS8 : Ch [22] [] S3 S8 := Ch_I hS8e
    have hS8v : S8.1 54 22 = (S3.1 54 22 + r2) := pI_at hS8e
    unfold wX11_name_53
    refine ⟨fun l1 l3 l5 l6 Sx => Ch [] [] S8 Sx ∧ a1 = l1 ∧ a3 = l3 ∧ (0 ≤ l6) ∧ (iv 0 1 l5), fun l1 l3 l5 l6 Sx => (31 - l6).toNat, ?_, fun v10 v11 v12 v13 S9 hI => ?_⟩
    · exact ⟨Ch.re, rfl, rfl, by omega, by omega⟩
    obtain ⟨hS9, rfl, rfl, i14, i15⟩ := hI
    unfold wX11_name_53'
    refine ⟨by omega, ?_⟩
    refine ⟨by omega, ?_⟩
    refine ⟨fun h16 => ?_, fun h16 => ?_⟩
    · intro q17
      have e18 : S9.1 54 24 = S8.1 54 24 := hS9.1 24 (by decide)
      have e19 : S8.1 54 24 = S3.1 54 24 := hS8.1 24 (by decide)
      have e20 : S3.1 54 24 = S.1 54 24 := hS3.1 24 (by decide)
      refine ⟨fun h21 => ?_, fun h21 => ?_⟩
      · intro S22 hS22e
        have hS22 : Ch [24] [] S9 S22 := Ch_I hS22e
        have hS22v : S22.1 54 24 = 1 := pI_at hS22e
        have e23 : S22.1 54 22 = S9.1 54 22 := hS22.1 22 (by decide)
        have e24 : S9.1 54 22 = S8.1 54 22 := hS9.1 22 (by decide)
        exact hK (0) S22 (Ch.wk (Ch.tr (Ch.tr (Ch.tr hS3 hS8) hS9) hS22) (by decide) (by decide)) (by omega)
      · refine ⟨by omega, ?_⟩
        refine ⟨fun h25 => ?_, fun h25 => ?_⟩
        · intro S26 hS26e
          have hS26 : Ch [24] [] S9 S26 := Ch_I hS26e
          have hS26v : S26.1 54 24 = 0 := pI_at hS26e
          have e27 : S26.1 54 22 = S9.1 54 22 := hS26.1 22 (by decide)
          have e28 : S9.1 54 22 = S8.1 54 22 := hS9.1 22 (by decide)
          exact hK (0) S26 (Ch.wk (Ch.tr (Ch.tr (Ch.tr hS3 hS8) hS9) hS26) (by decide) (by decide)) (by omega)
        · intro S29 hS29e
          have hS29 : Ch [24] [] S9 S29 := Ch_I hS29e
          have hS29v : S29.1 54 24 = 1 := pI_at hS29e
          have e30 : S29.1 54 22 = S9.1 54 22 := hS29.1 22 (by decide)
          have e31 : S9.1 54 22 = S8.1 54 22 := hS9.1 22 (by decide)
          exact hK (0) S29 (Ch.wk (Ch.tr (Ch.tr (Ch.tr hS3 hS8) hS9) hS29) (by decide) (by decide)) (by omega)
    · refine ⟨by omega, ?_⟩
      refine ⟨fun h32 => ?_, fun h32 => ?_⟩
      · unfold wX11_name_74
        unfold wX11_name_79
        exact ⟨⟨(Ch.wk hS9 (by decide) (by decide)), rfl, rfl, by omega, by omega⟩, show (31 - (v13 + 1)).toNat < (31 - v13).toNat by omega⟩
      · refine ⟨by omega, ?_⟩
        refine tX11_areAlike (by omega) (by omega) (fun r33 S34 hS34 n35 => ?_)
        refine ⟨by omega, ?_⟩
        refine ⟨fun h36 => ?_, fun h36 => ?_⟩
        · unfold wX11_name_79
          exact ⟨⟨(Ch.wk (Ch.tr hS9 hS34) (by decide) (by decide)), rfl, rfl, by omega, by omega⟩, show (31 - (v13 + 1)).toNat < (31 - v13).toNat by omega⟩
        · unfold wX11_name_74
          unfold wX11_name_79
          exact ⟨⟨(Ch.wk (Ch.tr hS9 hS34) (by decide) (by decide)), rfl, rfl, by omega, by omega⟩, show (31 - (v13 + 1)).toNat < (31 - v13).toNat by omega⟩
  · intro q37
    have e38 : S3.1 54 22 = S.1 54 22 := hS3.1 22 (by decide)
    refine ⟨by omega, ?_⟩
    intro S39 hS39e
    have hS39 : Ch [22] [] S3 S39 := Ch_I hS39e
    have hS39v : S39.1 54 22 = ((S3.1 54 22 + (-2)) - r2) := pI_at hS39e
    intro S40 hS40e
    have hS40 : Ch [23] [] S39 S40 := Ch_I hS40e
    have hS40v : S40.1 54 23 = 1 := pI_at hS40e
    have e41 : S40.1 54 22 = S39.1 54 22 := hS40.1 22 (by decide)
    exact hK (0) S40 (Ch.wk (Ch.tr (Ch.tr hS3 hS39) hS40) (by decide) (by decide)) (by omega)

set_option maxRecDepth 100000 in
set_option maxHeartbeats 4000000 in
theorem tX11_count {a1 : Int} {S : St} {K : Int → St → Prop}  (hK : ∀ (r : Int) (S' : St), Ch [] [] S S' → (rng r) → K r S') : wX11_count a1 S K := by
  unfold wX11_count
  intro g1
  unfold wX11_count_4
  refine ⟨fun l1 l2 l3 Sx => Ch [] [] S Sx ∧ a1 = l1 ∧ (iv 0 6 l3) ∧ (iv 0 6 l2) ∧ (l2 ≤ l3), fun l1 l2 l3 Sx => (7 - l3).toNat, ?_, fun v2 v3 v4 S1 hI => ?_⟩
  · exact ⟨Ch.re, rfl, by omega, by omega, by omega⟩
  obtain ⟨hS1, rfl, i5, i6, i7⟩ := hI
  unfold wX11_count_4'
  intro q8
  have e9 : S1.1 54 2 = S.1 54 2 := hS1.1 2 (by decide)
  refine ⟨by omega, ?_⟩
  refine ⟨fun h10 => ?_, fun h10 => ?_⟩
  · refine ⟨by omega, ?_⟩
    refine ⟨fun h11 => ?_, fun h11 => ?_, fun h11 => ?_, fun h11 => ?_, fun h11 => ?_, fun h11 => ?_, fun h11 => ?_⟩
    · exact hK ((-1)) S1 (Ch.wk hS1 (by decide) (by decide)) (by omega)
    · exact hK (S1.1 54 2) S1 (Ch.wk hS1 (by decide) (by decide)) (by omega)
    · refine ⟨by omega, by omega, ?_⟩
      intro q12
      have e13 : S1.2 67 (0) = S.2 67 (0) := congrFun (hS1.2 67 (by decide)) _
      exact hK (S1.2 67 (0)) S1 (Ch.wk hS1 (by decide) (by decide)) (by omega)
    · refine ⟨by omega, by omega, ?_⟩
      intro q14
      have e15 : S1.2 67 (1) = S.2 67 (1) := congrFun (hS1.2 67 (by decide)) _
      exact hK (S1.2 67 (1)) S1 (Ch.wk hS1 (by decide) (by decide)) (by omega)
    · intro q16
      have e17 : S1.1 54 20 = S.1 54 20 := hS1.1 20 (by decide)
      exact hK (S1.1 54 20) S1 (Ch.wk hS1 (by decide) (by decide)) (by omega)
    · intro q18
      have e19 : S1.1 54 0 = S.1 54 0 := hS1.1 0 (by decide)
      exact hK (S1.1 54 0) S1 (Ch.wk hS1 (by decide) (by decide)) (by omega)
    · exact hK (v3) S1 (Ch.wk hS1 (by decide) (by decide)) (by omega)
  · refine ⟨by omega, by omega, ?_⟩
    intro q20
    have e21 : S1.2 61 (v4) = S.2 61 (v4) := congrFun (hS1.2 61 (by decide)) _
    refine ⟨fun h22 => ?_, fun h22 => ?_⟩
    · unfold wX11_count_28
      exact ⟨⟨(Ch.wk hS1 (by decide) (by decide)), rfl, by omega, by omega, by omega⟩, show (7 - (v4 + 1)).toNat < (7 - v4).toNat by omega⟩
    · unfold wX11_count_28
      exact ⟨⟨(Ch.wk hS1 (by decide) (by decide)), rfl, by omega, by omega, by omega⟩, show (7 - (v4 + 1)).toNat < (7 - v4).toNat by omega⟩

set_option maxRecDepth 100000 in
set_option maxHeartbeats 4000000 in
theorem tX11_end {a1 : Int} {S : St} {K : Int → St → Prop} (p1 : iv 0 29 a1) (hK : ∀ (r : Int) (S' : St), Ch [39] [83] S S' → ((S'.1 54 39) = 3001 ∨ (S.1 54 39) + 3 ≤ (S'.1 54 39)) → K r S') : wX11_end a1 S K := by
  unfold wX11_end
  intro g1
  refine tX11_putWord  (fun r1 S2 hS2 n3 n4 => ?_)
  refine tX11_putName (by omega) (fun r5 S6 hS6 n7 => ?_)
  refine tX11_put  (fun r8 S9 hS9 n10 => ?_)
  exact hK (0) S9 (Ch.wk (Ch.tr (Ch.tr hS2 hS6) hS9) (by decide) (by decide)) (by omega)

set_option maxRecDepth 100000 in
set_option maxHeartbeats 4000000 in
theorem tX11_forbid {a1 a2 : Int} {S : St} {K : Int → St → Prop} (p1 : iv 0 1 a2) (hK : ∀ (r : Int) (S' : St), Ch [] [61] S S' → (iv 0 1 r) → K r S') : wX11_forbid a1 a2 S K := by
  unfold wX11_forbid
  intro g1 g2
  intro q1
  refine ⟨by omega, ?_⟩
  refine tX11_in  (fun r2 S3 hS3 n4 => ?_)
  refine ⟨by omega, ?_⟩
  refine ⟨fun h5 => ?_, fun h5 => ?_⟩
  · refine ⟨by omega, by omega, ?_⟩
    intro q6
    have e7 : S3.2 61 (a1) = S.2 61 (a1) := congrFun (hS3.2 61 (by decide)) _
    refine ⟨by omega, by omega, ?_⟩
    refine ⟨by omega, ?_⟩
    intro S8 hS8e
    have hS8 : Ch [] [61] S3 S8 := Ch_A hS8e
    have hS8v : ∀ x, S8.2 61 x = if x = a1 then a2 else S3.2 61 x := pA_at hS8e
    exact hK (S3.2 61 (a1)) S8 (Ch.wk (Ch.tr hS3 hS8) (by decide) (by decide)) (by omega)
  · exact hK (0) S3 (Ch.wk hS3 (by decide) (by decide)) (by omega)

set_option maxRecDepth 100000 in
set_option maxHeartbeats 4000000 in
theorem tX11_wordSign {a1 a2 : Int} {S : St} {K : Int → St → Prop} (p1 : 0 ≤ a2) (hK : ∀ (r : Int) (S' : St), Ch [] [] S S' → (0 ≤ r ∧ r ≤ 127) → (r = 0 ∨ a2 ≤ 8) → K r S') : wX11_wordSign a1 a2 S K := by
  unfold wX11_wordSign
  intro g1 g2
  refine ⟨fun h1 => ?_, fun h1 => ?_⟩
  · refine ⟨fun h2 => ?_, fun h2 => ?_⟩
    · refine ⟨fun h3 => ?_, fun h3 => ?_, fun h3 => ?_, fun h3 => ?_, fun h3 => ?_, fun h3 => ?_, fun h3 => ?_, fun h3 => ?_, fun h3 => ?_, fun h3 => ?_⟩
      · exact hK (0) S (Ch.wk Ch.rf (by decide) (by decide)) (by omega) (by omega)
      · exact hK (114) S (Ch.wk Ch.rf (by decide) (by decide)) (by omega) (by omega)
      · exact hK (101) S (Ch.wk Ch.rf (by decide) (by decide)) (by omega) (by omega)
      · exact hK (102) S (Ch.wk Ch.rf (by decide) (by decide)) (by omega) (by omega)
      · exact hK (101) S (Ch.wk Ch.rf (by decide) (by decide)) (by omega) (by omega)
      · exact hK (114) S (Ch.wk Ch.rf (by decide) (by decide)) (by omega) (by omega)
      · exact hK (101) S (Ch.wk Ch.rf (by decide) (by decide)) (by omega) (by omega)
      · exact hK (110) S (Ch.wk Ch.rf (by decide) (by decide)) (by omega) (by omega)
      · exact hK (99) S (Ch.wk Ch.rf (by decide) (by decide)) (by omega) (by omega)
      · exact hK (101) S (Ch.wk Ch.rf (by decide) (by decide)) (by omega) (by omega)
    · refine ⟨fun h4 => ?_, fun h4 => ?_⟩
      · refine ⟨fun h5 => ?_, fun h5 => ?_⟩
        · exact hK (0) S (Ch.wk Ch.rf (by decide) (by decide)) (by omega) (by omega)
        · exact hK (100) S (Ch.wk Ch.rf (by decide) (by decide)) (by omega) (by omega)
      · exact hK (105) S (Ch.wk Ch.rf (by decide) (by decide)) (by omega) (by omega)
  · refine ⟨fun h6 => ?_, fun h6 => ?_⟩
    · refine ⟨fun h7 => ?_, fun h7 => ?_⟩
      · refine ⟨fun h8 => ?_, fun h8 => ?_⟩
        · refine ⟨fun h9 => ?_, fun h9 => ?_⟩
          · exact hK (0) S (Ch.wk Ch.rf (by decide) (by decide)) (by omega) (by omega)
          · exact hK (115) S (Ch.wk Ch.rf (by decide) (by decide)) (by omega) (by omega)
        · exact hK (97) S (Ch.wk Ch.rf (by decide) (by decide)) (by omega) (by omega)
      · exact hK (108) S (Ch.wk Ch.rf (by decide) (by decide)) (by omega) (by omega)
    · exact hK (99) S (Ch.wk Ch.rf (by decide) (by decide)) (by omega) (by omega)

set_option maxRecDepth 100000 in
set_option maxHeartbeats 4000000 in
theorem tX11_kind {a1 a2 : Int} {S : St} {K : Int → St → Prop}  (hK : ∀ (r : Int) (S' : St), Ch [] [] S S' → (rng r) → K r S') : wX11_kind a1 a2 S K := by
  unfold wX11_kind
  intro g1 g2
  refine tX11_in  (fun r1 S2 hS2 n3 => ?_)
  refine ⟨by omega, ?_⟩
  refine ⟨fun h4 => ?_, fun h4 => ?_⟩
  · exact hK ((-1)) S2 (Ch.wk hS2 (by decide) (by decide)) (by omega)
  · have e7 : S2.2 67 (a1) = S.2 67 (a1) := congrFun (hS2.2 67 (by decide)) _
    refine tX11_isObject (by omega) (fun r5 S6 hS6 n8 => ?_)
    refine ⟨by omega, ?_⟩
    refine ⟨fun h9 => ?_, fun h9 => ?_⟩
    · exact hK ((-1)) S6 (Ch.wk (Ch.tr hS2 hS6) (by decide) (by decide)) (by omega)
    · refine ⟨by omega, by omega, ?_⟩
      intro q10
      have e11 : S6.2 68 (((30 * a1) + a2)) = S2.2 68 (((30 * a1) + a2)) := congrFun (hS6.2 68 (by decide)) _
      have e12 : S2.2 68 (((30 * a1) + a2)) = S.2 68 (((30 * a1) + a2)) := congrFun (hS2.2 68 (by decide)) _
      exact hK (S6.2 68 (((30 * a1) + a2))) S6 (Ch.wk (Ch.tr hS2 hS6) (by decide) (by decide)) (by omega)

set_option maxRecDepth 100000 in
set_option maxHeartbeats 4000000 in
theorem tX11_limit {a1 : Int} {S : St} {K : Int → St → Prop}  (hK : ∀ (r : Int) (S' : St), Ch [19] [] S S' → ((iv 1 20 a1 ∧ r = (S.1 54 19) ∧ (S'.1 54 19) = a1) ∨ (¬ iv 1 20 a1 ∧ r = -1 ∧ (S'.1 54 19) = (S.1 54 19))) → K r S') : wX11_limit a1 S K := by
  unfold wX11_limit
  intro g1
  refine tX11_in  (fun r1 S2 hS2 n3 => ?_)
  refine ⟨by omega, ?_⟩
  refine ⟨fun h4 => ?_, fun h4 => ?_⟩
  · intro q5
    have e6 : S2.1 54 19 = S.1 54 19 := hS2.1 19 (by decide)
    refine ⟨by omega, ?_⟩
    intro S7 hS7e
    have hS7 : Ch [19] [] S2 S7 := Ch_I hS7e
    have hS7v : S7.1 54 19 = a1 := pI_at hS7e
    exact hK (S2.1 54 19) S7 (Ch.wk (Ch.tr hS2 hS7) (by decide) (by decide)) (by omega)
  · have e8 : S2.1 54 19 = S.1 54 19 := hS2.1 19 (by decide)
    exact hK ((-1)) S2 (Ch.wk hS2 (by decide) (by decide)) (by omega)

set_option maxRecDepth 100000 in
set_option maxHeartbeats 4000000 in
theorem tX11_openerSign {a1 a2 : Int} {S : St} {K : Int → St → Prop} (p1 : 0 ≤ a2) (hK : ∀ (r : Int) (S' : St), Ch [] [] S S' → (0 ≤ r ∧ r ≤ 127) → (r = 0 ∨ a2 ≤ 7) → K r S') : wX11_openerSign a1 a2 S K := by
  unfold wX11_openerSign
  intro g1 g2
  refine ⟨fun h1 => ?_, fun h1 => ?_⟩
  · refine ⟨fun h2 => ?_, fun h2 => ?_, fun h2 => ?_, fun h2 => ?_, fun h2 => ?_, fun h2 => ?_, fun h2 => ?_, fun h2 => ?_, fun h2 => ?_⟩
    · exact hK (0) S (Ch.wk Ch.rf (by decide) (by decide)) (by omega) (by omega)
    · exact hK (33) S (Ch.wk Ch.rf (by decide) (by decide)) (by omega) (by omega)
    · exact hK (91) S (Ch.wk Ch.rf (by decide) (by decide)) (by omega) (by omega)
    · exact hK (67) S (Ch.wk Ch.rf (by decide) (by decide)) (by omega) (by omega)
    · exact hK (68) S (Ch.wk Ch.rf (by decide) (by decide)) (by omega) (by omega)
    · exact hK (65) S (Ch.wk Ch.rf (by decide) (by decide)) (by omega) (by omega)
    · exact hK (84) S (Ch.wk Ch.rf (by decide) (by decide)) (by omega) (by omega)
    · exact hK (65) S (Ch.wk Ch.rf (by decide) (by decide)) (by omega) (by omega)
    · exact hK (91) S (Ch.wk Ch.rf (by decide) (by decide)) (by omega) (by omega)
  · refine ⟨fun h3 => ?_, fun h3 => ?_⟩
    · refine ⟨fun h4 => ?_, fun h4 => ?_⟩
      · exact hK (0) S (Ch.wk Ch.rf (by decide) (by decide)) (by omega) (by omega)
      · exact hK (45) S (Ch.wk Ch.rf (by decide) (by decide)) (by omega) (by omega)
    · exact hK (33) S (Ch.wk Ch.rf (by decide) (by decide)) (by omega) (by omega)

set_option maxRecDepth 100000 in
set_option maxHeartbeats 4000000 in
theorem tX11_sign {a1 : Int} {S : St} {K : Int → St → Prop}  (hK : ∀ (r : Int) (S' : St), Ch [] [] S S' → (rng r) → K r S') : wX11_sign a1 S K := by
  unfold wX11_sign
  intro g1
  intro q1
  refine ⟨by omega, ?_⟩
  refine tX11_in  (fun r2 S3 hS3 n4 => ?_)
  refine ⟨by omega, ?_⟩
  refine ⟨fun h5 => ?_, fun h5 => ?_⟩
  · exact hK ((-1)) S3 (Ch.wk hS3 (by decide) (by decide)) (by omega)
  · refine ⟨by omega, by omega, ?_⟩
    intro q6
    have e7 : S3.2 71 (a1) = S.2 71 (a1) := congrFun (hS3.2 71 (by decide)) _
    exact hK (S3.2 71 (a1)) S3 (Ch.wk hS3 (by decide) (by decide)) (by omega)

set_option maxRecDepth 100000 in
set_option maxHeartbeats 4000000 in
theorem tX11_take {S : St} {K : Int → St → Prop}  (hK : ∀ (r : Int) (S' : St), Ch [0] [55] S S' → (iv 0 3000 r) → K r S') : wX11_take  S K := by
  unfold wX11_take
  intro q1
  intro S2 hS2e
  have hS2 : Ch [0] [] S S2 := Ch_I hS2e
  have hS2v : S2.1 54 0 = S.1 54 20 := pI_at hS2e
  unfold wX11_take_10
  refine ⟨fun l1 Sx => Ch [] [55] S2 Sx ∧ (iv 0 3000 l1), fun l1 Sx => (3001 - l1).toNat, ?_, fun v4 S3 hI => ?_⟩
  · exact ⟨Ch.re, by omega⟩
  obtain ⟨hS3, i5⟩ := hI
  unfold wX11_take_10'
  intro q6
  have e7 : S3.1 54 20 = S2.1 54 20 := hS3.1 20 (by decide)
  have e8 : S2.1 54 20 = S.1 54 20 := hS2.1 20 (by decide)
  refine ⟨by omega, ?_⟩
  refine ⟨fun h9 => ?_, fun h9 => ?_⟩
  · exact hK (S3.1 54 20) S3 (Ch.wk (Ch.tr hS2 hS3) (by decide) (by decide)) (by omega)
  · refine ⟨by omega, by omega, ?_⟩
    intro q10
    have e11 : S3.2 71 (v4) = S2.2 71 (v4) := congrFun (hS3.2 71 (by decide)) _
    have e12 : S2.2 71 (v4) = S.2 71 (v4) := congrFun (hS2.2 71 (by decide)) _
    refine ⟨by omega, by omega, ?_⟩
    intro S13 hS13e
    have hS13 : Ch [] [55] S3 S13 := Ch_A hS13e
    have hS13v : ∀ x, S13.2 55 x = if x = v4 then S3.2 71 (v4) else S3.2 55 x := pA_at hS13e
    exact ⟨⟨(Ch.wk (Ch.tr hS3 hS13) (by decide) (by decide)), by omega⟩, show (3001 - (v4 + 1)).toNat < (3001 - v4).toNat by omega⟩

set_option maxRecDepth 100000 in
set_option maxHeartbeats 4000000 in
theorem tX11_unit {a1 : Int} {S : St} {K : Int → St → Prop}  (hK : ∀ (r : Int) (S' : St), Ch [0] [55] S S' → K r S') : wX11_unit a1 S K := by
  unfold wX11_unit
  intro g1
  intro q1
  refine ⟨fun h2 => ?_, fun h2 => ?_⟩
  · exact hK (0) S (Ch.wk Ch.rf (by decide) (by decide)) 
  · refine tX11_in  (fun r3 S4 hS4 n5 => ?_)
    refine ⟨by omega, ?_⟩
    refine ⟨fun h6 => ?_, fun h6 => ?_⟩
    · unfold wX11_unit_30
      intro q7
      have e8 : S4.1 54 0 = S.1 54 0 := hS4.1 0 (by decide)
      refine ⟨by omega, by omega, ?_⟩
      refine ⟨by omega, ?_⟩
      intro S9 hS9e
      have hS9 : Ch [] [55] S4 S9 := Ch_A hS9e
      have hS9v : ∀ x, S9.2 55 x = if x = S4.1 54 0 then a1 else S4.2 55 x := pA_at hS9e
      intro q10
      have e11 : S9.1 54 0 = S4.1 54 0 := hS9.1 0 (by decide)
      have e12 : S4.1 54 0 = S.1 54 0 := hS4.1 0 (by decide)
      refine ⟨by omega, ?_⟩
      intro S13 hS13e
      have hS13 : Ch [0] [] S9 S13 := Ch_I hS13e
      have hS13v : S13.1 54 0 = (S9.1 54 0 + 1) := pI_at hS13e
      exact hK (1) S13 (Ch.wk (Ch.tr (Ch.tr hS4 hS9) hS13) (by decide) (by decide)) 
    · refine tX11_isBlank  (fun r14 S15 hS15 n16 => ?_)
      refine ⟨by omega, ?_⟩
      refine ⟨fun h17 => ?_, fun h17 => ?_⟩
      · unfold wX11_unit_30
        intro q18
        have e19 : S15.1 54 0 = S4.1 54 0 := hS15.1 0 (by decide)
        have e20 : S4.1 54 0 = S.1 54 0 := hS4.1 0 (by decide)
        refine ⟨by omega, by omega, ?_⟩
        refine ⟨by omega, ?_⟩
        intro S21 hS21e
        have hS21 : Ch [] [55] S15 S21 := Ch_A hS21e
        have hS21v : ∀ x, S21.2 55 x = if x = S15.1 54 0 then a1 else S15.2 55 x := pA_at hS21e
        intro q22
        have e23 : S21.1 54 0 = S15.1 54 0 := hS21.1 0 (by decide)
        have e24 : S15.1 54 0 = S4.1 54 0 := hS15.1 0 (by decide)
        have e25 : S4.1 54 0 = S.1 54 0 := hS4.1 0 (by decide)
        refine ⟨by omega, ?_⟩
        intro S26 hS26e
        have hS26 : Ch [0] [] S21 S26 := Ch_I hS26e
        have hS26v : S26.1 54 0 = (S21.1 54 0 + 1) := pI_at hS26e
        exact hK (1) S26 (Ch.wk (Ch.tr (Ch.tr (Ch.tr hS4 hS15) hS21) hS26) (by decide) (by decide)) 
      · exact hK (0) S15 (Ch.wk (Ch.tr hS4 hS15) (by decide) (by decide)) 
