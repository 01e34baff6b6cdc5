/-! WHAT A CALL LEAVES ALONE: only the fields fs and the arrays xs of the model may have changed -/
def Ch (fs xs : List Nat) (S S' : St) : Prop := (∀ j, j ∉ fs → S'.1 54 j = S.1 54 j) ∧ ∀ a, a ∉ xs → S'.2 a = S.2 a
theorem Ch.rf {S : St} : Ch [] [] S S := ⟨fun _ _ => rfl, fun _ _ => rfl⟩
theorem Ch.tr {f g x y : List Nat} {S S1 S2 : St} (h : Ch f x S S1) (k : Ch g y S1 S2) : Ch (f ++ g) (x ++ y) S S2 :=
  ⟨fun j hj => (k.1 j fun q => hj (List.mem_append_right _ q)).trans (h.1 j fun q => hj (List.mem_append_left _ q)), fun a ha => (k.2 a fun q => ha (List.mem_append_right _ q)).trans (h.2 a fun q => ha (List.mem_append_left _ q))⟩
theorem Ch.wk {f g x y : List Nat} {S S1 : St} (h : Ch f x S S1) (hf : ∀ j ∈ f, j ∈ g) (hx : ∀ j ∈ x, j ∈ y) : Ch g y S S1 := ⟨fun j hj => h.1 j fun q => hj (hf j q), fun a ha => h.2 a fun q => ha (hx a q)⟩
/-! the heaps are typed: what a field holds goes with its kind -/
def tyV (c kd v : Int) : Prop := (¬ kd = 1 ∨ iv 0 20 v) ∧ (¬ kd = 2 ∨ v = -2 ∨ (0 ≤ v ∧ v < c)) ∧ (¬ kd = 3 ∨ iv 0 8 v)
def OK0 (S : St) : Prop := ∀ x y : Int, x < 0 ∨ S.2 67 0 ≤ x ∨ y < 0 ∨ 3 < y ∨ tyV (S.2 67 0) (S.2 59 (4 * S.2 68 x + y)) (S.2 69 (4 * x + y))
def OL0 (S : St) : Prop := ∀ x y z : Int, x < 0 ∨ S.2 67 0 ≤ x ∨ y < 0 ∨ 3 < y ∨ ¬ S.2 59 (4 * S.2 68 x + y) = 3 ∨ z < 0 ∨ S.2 69 (4 * x + y) ≤ z ∨ (0 ≤ S.2 70 (20 * (4 * x + y) + z) ∧ S.2 70 (20 * (4 * x + y) + z) < S.2 67 0)
def OC0 (S : St) : Prop := ∀ x : Int, x < 0 ∨ S.2 67 0 ≤ x ∨ S.2 68 x < S.1 54 2
def OK1 (S : St) : Prop := ∀ x y : Int, x < 0 ∨ S.2 67 1 ≤ x ∨ y < 0 ∨ 3 < y ∨ tyV (S.2 67 1) (S.2 59 (4 * S.2 68 (30 + x) + y)) (S.2 69 (4 * (30 + x) + y))

