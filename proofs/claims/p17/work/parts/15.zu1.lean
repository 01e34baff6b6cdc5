/-! READING XML: the words that the class looks for -/
section YW
variable {S : St} {K : Int → St → Prop} {T : Int → Int} {n p u i : Int}
theorem k_X9_comes (hX : TX T n) (hC : rTx S T n) (hp : S.1 220 3 = p) (p0 : 0 ≤ p) (p1 : p ≤ n) (hK : ∀ r, (r = 1 ∧ cm T p [60, 33, 45, 45] = true) ∨ (r = 0 ∧ cm T p [60, 33, 45, 45] = false) → K r S) : wX9_comes S K := by
  have hn := hX.1
  have hL : ∀ i : Nat, i < 4 → sch 20 (i : Int) = ([60, 33, 45, 45] : List Int).getD i 0 ∧ iv 0 65535 (sch 20 (i : Int)) := by decide +kernel
  refine ⟨fun l2 S' => S' = S ∧ 0 ≤ l2 ∧ l2 ≤ 4 ∧ ∀ i, 0 ≤ i → i < l2 → T (p + i) = sch 20 i, fun l2 S' => (4 - l2).toNat, ⟨rfl, by decide, by decide, fun i i0 i1 => by omega⟩, ?_⟩
  rintro l2 S' ⟨rfl, h0, h1, h2⟩
  refine ⟨⟨by omega, by omega⟩, fun z => hK 1 (Or.inl ⟨rfl, cm_iff.mpr (fun i hi => ?_)⟩), fun z => ?_⟩
  · have hi : i < 4 := hi
    rw [← (hL i hi).1]
    exact h2 i (by omega) (by omega)
  · rw [hp]
    have b := tx_rng hX (show 0 ≤ p + l2 by omega)
    have hl := hL l2.toNat (by omega)
    rw [show ((l2.toNat : Nat) : Int) = l2 by omega] at hl
    refine fun _ => ⟨⟨by omega, by omega⟩, k_at hX hC (by omega) ⟨by omega, by omega, ⟨by omega, by omega⟩, fun w => ⟨⟨rfl, by omega, by omega, fun i i0 i1 => ?_⟩, ?_⟩, fun w => hK 0 (Or.inr ⟨rfl, ?_⟩)⟩⟩
    · by_cases c : i = l2
      · rw [c]
        exact w
      · exact h2 i i0 (by omega)
    · show (4 - (l2 + 1)).toNat < (4 - l2).toNat
      omega
    · cases hc : cm T p [60, 33, 45, 45] with
      | false => rfl
      | true =>
        have := cm_iff.mp hc l2.toNat (by show l2.toNat < 4; omega)
        rw [show ((l2.toNat : Nat) : Int) = l2 by omega, ← hl.1] at this
        exact absurd this w
theorem k_X9_comes_b (hX : TX T n) (hC : rTx S T n) (hp : S.1 220 3 = p) (p0 : 0 ≤ p) (p1 : p ≤ n) (hK : ∀ r, (r = 1 ∧ cm T p [60, 33, 91, 67, 68, 65, 84, 65, 91] = true) ∨ (r = 0 ∧ cm T p [60, 33, 91, 67, 68, 65, 84, 65, 91] = false) → K r S) : wX9_comes_b S K := by
  have hn := hX.1
  have hL : ∀ i : Nat, i < 9 → sch 22 (i : Int) = ([60, 33, 91, 67, 68, 65, 84, 65, 91] : List Int).getD i 0 ∧ iv 0 65535 (sch 22 (i : Int)) := by decide +kernel
  refine ⟨fun l2 S' => S' = S ∧ 0 ≤ l2 ∧ l2 ≤ 9 ∧ ∀ i, 0 ≤ i → i < l2 → T (p + i) = sch 22 i, fun l2 S' => (9 - l2).toNat, ⟨rfl, by decide, by decide, fun i i0 i1 => by omega⟩, ?_⟩
  rintro l2 S' ⟨rfl, h0, h1, h2⟩
  refine ⟨⟨by omega, by omega⟩, fun z => hK 1 (Or.inl ⟨rfl, cm_iff.mpr (fun i hi => ?_)⟩), fun z => ?_⟩
  · have hi : i < 9 := hi
    rw [← (hL i hi).1]
    exact h2 i (by omega) (by omega)
  · rw [hp]
    have b := tx_rng hX (show 0 ≤ p + l2 by omega)
    have hl := hL l2.toNat (by omega)
    rw [show ((l2.toNat : Nat) : Int) = l2 by omega] at hl
    refine fun _ => ⟨⟨by omega, by omega⟩, k_at hX hC (by omega) ⟨by omega, by omega, ⟨by omega, by omega⟩, fun w => ⟨⟨rfl, by omega, by omega, fun i i0 i1 => ?_⟩, ?_⟩, fun w => hK 0 (Or.inr ⟨rfl, ?_⟩)⟩⟩
    · by_cases c : i = l2
      · rw [c]
        exact w
      · exact h2 i i0 (by omega)
    · show (9 - (l2 + 1)).toNat < (9 - l2).toNat
      omega
    · cases hc : cm T p [60, 33, 91, 67, 68, 65, 84, 65, 91] with
      | false => rfl
      | true =>
        have := cm_iff.mp hc l2.toNat (by show l2.toNat < 9; omega)
        rw [show ((l2.toNat : Nat) : Int) = l2 by omega, ← hl.1] at this
        exact absurd this w
theorem k_X9_comes_c (hX : TX T n) (hC : rTx S T n) (hp : S.1 220 3 = p) (p0 : 0 ≤ p) (p1 : p ≤ n) (hK : ∀ r, (r = 1 ∧ cm T p [38, 97, 109, 112, 59] = true) ∨ (r = 0 ∧ cm T p [38, 97, 109, 112, 59] = false) → K r S) : wX9_comes_c S K := by
  have hn := hX.1
  have hL : ∀ i : Nat, i < 5 → sch 15 (i : Int) = ([38, 97, 109, 112, 59] : List Int).getD i 0 ∧ iv 0 65535 (sch 15 (i : Int)) := by decide +kernel
  refine ⟨fun l2 S' => S' = S ∧ 0 ≤ l2 ∧ l2 ≤ 5 ∧ ∀ i, 0 ≤ i → i < l2 → T (p + i) = sch 15 i, fun l2 S' => (5 - l2).toNat, ⟨rfl, by decide, by decide, fun i i0 i1 => by omega⟩, ?_⟩
  rintro l2 S' ⟨rfl, h0, h1, h2⟩
  refine ⟨⟨by omega, by omega⟩, fun z => hK 1 (Or.inl ⟨rfl, cm_iff.mpr (fun i hi => ?_)⟩), fun z => ?_⟩
  · have hi : i < 5 := hi
    rw [← (hL i hi).1]
    exact h2 i (by omega) (by omega)
  · rw [hp]
    have b := tx_rng hX (show 0 ≤ p + l2 by omega)
    have hl := hL l2.toNat (by omega)
    rw [show ((l2.toNat : Nat) : Int) = l2 by omega] at hl
    refine fun _ => ⟨⟨by omega, by omega⟩, k_at hX hC (by omega) ⟨by omega, by omega, ⟨by omega, by omega⟩, fun w => ⟨⟨rfl, by omega, by omega, fun i i0 i1 => ?_⟩, ?_⟩, fun w => hK 0 (Or.inr ⟨rfl, ?_⟩)⟩⟩
    · by_cases c : i = l2
      · rw [c]
        exact w
      · exact h2 i i0 (by omega)
    · show (5 - (l2 + 1)).toNat < (5 - l2).toNat
      omega
    · cases hc : cm T p [38, 97, 109, 112, 59] with
      | false => rfl
      | true =>
        have := cm_iff.mp hc l2.toNat (by show l2.toNat < 5; omega)
        rw [show ((l2.toNat : Nat) : Int) = l2 by omega, ← hl.1] at this
        exact absurd this w
theorem k_X9_comes_d (hX : TX T n) (hC : rTx S T n) (hp : S.1 220 3 = p) (p0 : 0 ≤ p) (p1 : p ≤ n) (hK : ∀ r, (r = 1 ∧ cm T p [38, 108, 116, 59] = true) ∨ (r = 0 ∧ cm T p [38, 108, 116, 59] = false) → K r S) : wX9_comes_d S K := by
  have hn := hX.1
  have hL : ∀ i : Nat, i < 4 → sch 16 (i : Int) = ([38, 108, 116, 59] : List Int).getD i 0 ∧ iv 0 65535 (sch 16 (i : Int)) := by decide +kernel
  refine ⟨fun l2 S' => S' = S ∧ 0 ≤ l2 ∧ l2 ≤ 4 ∧ ∀ i, 0 ≤ i → i < l2 → T (p + i) = sch 16 i, fun l2 S' => (4 - l2).toNat, ⟨rfl, by decide, by decide, fun i i0 i1 => by omega⟩, ?_⟩
  rintro l2 S' ⟨rfl, h0, h1, h2⟩
  refine ⟨⟨by omega, by omega⟩, fun z => hK 1 (Or.inl ⟨rfl, cm_iff.mpr (fun i hi => ?_)⟩), fun z => ?_⟩
  · have hi : i < 4 := hi
    rw [← (hL i hi).1]
    exact h2 i (by omega) (by omega)
  · rw [hp]
    have b := tx_rng hX (show 0 ≤ p + l2 by omega)
    have hl := hL l2.toNat (by omega)
    rw [show ((l2.toNat : Nat) : Int) = l2 by omega] at hl
    refine fun _ => ⟨⟨by omega, by omega⟩, k_at hX hC (by omega) ⟨by omega, by omega, ⟨by omega, by omega⟩, fun w => ⟨⟨rfl, by omega, by omega, fun i i0 i1 => ?_⟩, ?_⟩, fun w => hK 0 (Or.inr ⟨rfl, ?_⟩)⟩⟩
    · by_cases c : i = l2
      · rw [c]
        exact w
      · exact h2 i i0 (by omega)
    · show (4 - (l2 + 1)).toNat < (4 - l2).toNat
      omega
    · cases hc : cm T p [38, 108, 116, 59] with
      | false => rfl
      | true =>
        have := cm_iff.mp hc l2.toNat (by show l2.toNat < 4; omega)
        rw [show ((l2.toNat : Nat) : Int) = l2 by omega, ← hl.1] at this
        exact absurd this w
theorem k_X9_comes_e (hX : TX T n) (hC : rTx S T n) (hp : S.1 220 3 = p) (p0 : 0 ≤ p) (p1 : p ≤ n) (hK : ∀ r, (r = 1 ∧ cm T p [38, 103, 116, 59] = true) ∨ (r = 0 ∧ cm T p [38, 103, 116, 59] = false) → K r S) : wX9_comes_e S K := by
  have hn := hX.1
  have hL : ∀ i : Nat, i < 4 → sch 17 (i : Int) = ([38, 103, 116, 59] : List Int).getD i 0 ∧ iv 0 65535 (sch 17 (i : Int)) := by decide +kernel
  refine ⟨fun l2 S' => S' = S ∧ 0 ≤ l2 ∧ l2 ≤ 4 ∧ ∀ i, 0 ≤ i → i < l2 → T (p + i) = sch 17 i, fun l2 S' => (4 - l2).toNat, ⟨rfl, by decide, by decide, fun i i0 i1 => by omega⟩, ?_⟩
  rintro l2 S' ⟨rfl, h0, h1, h2⟩
  refine ⟨⟨by omega, by omega⟩, fun z => hK 1 (Or.inl ⟨rfl, cm_iff.mpr (fun i hi => ?_)⟩), fun z => ?_⟩
  · have hi : i < 4 := hi
    rw [← (hL i hi).1]
    exact h2 i (by omega) (by omega)
  · rw [hp]
    have b := tx_rng hX (show 0 ≤ p + l2 by omega)
    have hl := hL l2.toNat (by omega)
    rw [show ((l2.toNat : Nat) : Int) = l2 by omega] at hl
    refine fun _ => ⟨⟨by omega, by omega⟩, k_at hX hC (by omega) ⟨by omega, by omega, ⟨by omega, by omega⟩, fun w => ⟨⟨rfl, by omega, by omega, fun i i0 i1 => ?_⟩, ?_⟩, fun w => hK 0 (Or.inr ⟨rfl, ?_⟩)⟩⟩
    · by_cases c : i = l2
      · rw [c]
        exact w
      · exact h2 i i0 (by omega)
    · show (4 - (l2 + 1)).toNat < (4 - l2).toNat
      omega
    · cases hc : cm T p [38, 103, 116, 59] with
      | false => rfl
      | true =>
        have := cm_iff.mp hc l2.toNat (by show l2.toNat < 4; omega)
        rw [show ((l2.toNat : Nat) : Int) = l2 by omega, ← hl.1] at this
        exact absurd this w
theorem k_X9_comes_f (hX : TX T n) (hC : rTx S T n) (hp : S.1 220 3 = p) (p0 : 0 ≤ p) (p1 : p ≤ n) (hK : ∀ r, (r = 1 ∧ cm T p [38, 113, 117, 111, 116, 59] = true) ∨ (r = 0 ∧ cm T p [38, 113, 117, 111, 116, 59] = false) → K r S) : wX9_comes_f S K := by
  have hn := hX.1
  have hL : ∀ i : Nat, i < 6 → sch 18 (i : Int) = ([38, 113, 117, 111, 116, 59] : List Int).getD i 0 ∧ iv 0 65535 (sch 18 (i : Int)) := by decide +kernel
  refine ⟨fun l2 S' => S' = S ∧ 0 ≤ l2 ∧ l2 ≤ 6 ∧ ∀ i, 0 ≤ i → i < l2 → T (p + i) = sch 18 i, fun l2 S' => (6 - l2).toNat, ⟨rfl, by decide, by decide, fun i i0 i1 => by omega⟩, ?_⟩
  rintro l2 S' ⟨rfl, h0, h1, h2⟩
  refine ⟨⟨by omega, by omega⟩, fun z => hK 1 (Or.inl ⟨rfl, cm_iff.mpr (fun i hi => ?_)⟩), fun z => ?_⟩
  · have hi : i < 6 := hi
    rw [← (hL i hi).1]
    exact h2 i (by omega) (by omega)
  · rw [hp]
    have b := tx_rng hX (show 0 ≤ p + l2 by omega)
    have hl := hL l2.toNat (by omega)
    rw [show ((l2.toNat : Nat) : Int) = l2 by omega] at hl
    refine fun _ => ⟨⟨by omega, by omega⟩, k_at hX hC (by omega) ⟨by omega, by omega, ⟨by omega, by omega⟩, fun w => ⟨⟨rfl, by omega, by omega, fun i i0 i1 => ?_⟩, ?_⟩, fun w => hK 0 (Or.inr ⟨rfl, ?_⟩)⟩⟩
    · by_cases c : i = l2
      · rw [c]
        exact w
      · exact h2 i i0 (by omega)
    · show (6 - (l2 + 1)).toNat < (6 - l2).toNat
      omega
    · cases hc : cm T p [38, 113, 117, 111, 116, 59] with
      | false => rfl
      | true =>
        have := cm_iff.mp hc l2.toNat (by show l2.toNat < 6; omega)
        rw [show ((l2.toNat : Nat) : Int) = l2 by omega, ← hl.1] at this
        exact absurd this w
theorem k_X9_comes_g (hX : TX T n) (hC : rTx S T n) (hp : S.1 220 3 = p) (p0 : 0 ≤ p) (p1 : p ≤ n) (hK : ∀ r, (r = 1 ∧ cm T p [38, 97, 112, 111, 115, 59] = true) ∨ (r = 0 ∧ cm T p [38, 97, 112, 111, 115, 59] = false) → K r S) : wX9_comes_g S K := by
  have hn := hX.1
  have hL : ∀ i : Nat, i < 6 → sch 19 (i : Int) = ([38, 97, 112, 111, 115, 59] : List Int).getD i 0 ∧ iv 0 65535 (sch 19 (i : Int)) := by decide +kernel
  refine ⟨fun l2 S' => S' = S ∧ 0 ≤ l2 ∧ l2 ≤ 6 ∧ ∀ i, 0 ≤ i → i < l2 → T (p + i) = sch 19 i, fun l2 S' => (6 - l2).toNat, ⟨rfl, by decide, by decide, fun i i0 i1 => by omega⟩, ?_⟩
  rintro l2 S' ⟨rfl, h0, h1, h2⟩
  refine ⟨⟨by omega, by omega⟩, fun z => hK 1 (Or.inl ⟨rfl, cm_iff.mpr (fun i hi => ?_)⟩), fun z => ?_⟩
  · have hi : i < 6 := hi
    rw [← (hL i hi).1]
    exact h2 i (by omega) (by omega)
  · rw [hp]
    have b := tx_rng hX (show 0 ≤ p + l2 by omega)
    have hl := hL l2.toNat (by omega)
    rw [show ((l2.toNat : Nat) : Int) = l2 by omega] at hl
    refine fun _ => ⟨⟨by omega, by omega⟩, k_at hX hC (by omega) ⟨by omega, by omega, ⟨by omega, by omega⟩, fun w => ⟨⟨rfl, by omega, by omega, fun i i0 i1 => ?_⟩, ?_⟩, fun w => hK 0 (Or.inr ⟨rfl, ?_⟩)⟩⟩
    · by_cases c : i = l2
      · rw [c]
        exact w
      · exact h2 i i0 (by omega)
    · show (6 - (l2 + 1)).toNat < (6 - l2).toNat
      omega
    · cases hc : cm T p [38, 97, 112, 111, 115, 59] with
      | false => rfl
      | true =>
        have := cm_iff.mp hc l2.toNat (by show l2.toNat < 6; omega)
        rw [show ((l2.toNat : Nat) : Int) = l2 by omega, ← hl.1] at this
        exact absurd this w
theorem k_X9_comes_h (hX : TX T n) (hC : rTx S T n) (hp : S.1 220 3 = p) (p0 : 0 ≤ p) (p1 : p ≤ n) (hK : ∀ r, (r = 1 ∧ cm T p [93, 93, 62] = true) ∨ (r = 0 ∧ cm T p [93, 93, 62] = false) → K r S) : wX9_comes_h S K := by
  have hn := hX.1
  have hL : ∀ i : Nat, i < 3 → sch 23 (i : Int) = ([93, 93, 62] : List Int).getD i 0 ∧ iv 0 65535 (sch 23 (i : Int)) := by decide +kernel
  refine ⟨fun l2 S' => S' = S ∧ 0 ≤ l2 ∧ l2 ≤ 3 ∧ ∀ i, 0 ≤ i → i < l2 → T (p + i) = sch 23 i, fun l2 S' => (3 - l2).toNat, ⟨rfl, by decide, by decide, fun i i0 i1 => by omega⟩, ?_⟩
  rintro l2 S' ⟨rfl, h0, h1, h2⟩
  refine ⟨⟨by omega, by omega⟩, fun z => hK 1 (Or.inl ⟨rfl, cm_iff.mpr (fun i hi => ?_)⟩), fun z => ?_⟩
  · have hi : i < 3 := hi
    rw [← (hL i hi).1]
    exact h2 i (by omega) (by omega)
  · rw [hp]
    have b := tx_rng hX (show 0 ≤ p + l2 by omega)
    have hl := hL l2.toNat (by omega)
    rw [show ((l2.toNat : Nat) : Int) = l2 by omega] at hl
    refine fun _ => ⟨⟨by omega, by omega⟩, k_at hX hC (by omega) ⟨by omega, by omega, ⟨by omega, by omega⟩, fun w => ⟨⟨rfl, by omega, by omega, fun i i0 i1 => ?_⟩, ?_⟩, fun w => hK 0 (Or.inr ⟨rfl, ?_⟩)⟩⟩
    · by_cases c : i = l2
      · rw [c]
        exact w
      · exact h2 i i0 (by omega)
    · show (3 - (l2 + 1)).toNat < (3 - l2).toNat
      omega
    · cases hc : cm T p [93, 93, 62] with
      | false => rfl
      | true =>
        have := cm_iff.mp hc l2.toNat (by show l2.toNat < 3; omega)
        rw [show ((l2.toNat : Nat) : Int) = l2 by omega, ← hl.1] at this
        exact absurd this w
theorem k_X9_comes_i (hX : TX T n) (hC : rTx S T n) (hp : S.1 220 3 = p) (p0 : 0 ≤ p) (p1 : p ≤ n) (hK : ∀ r, (r = 1 ∧ cm T p [45, 45] = true) ∨ (r = 0 ∧ cm T p [45, 45] = false) → K r S) : wX9_comes_i S K := by
  have hn := hX.1
  have hL : ∀ i : Nat, i < 2 → sch 21 (i : Int) = ([45, 45] : List Int).getD i 0 ∧ iv 0 65535 (sch 21 (i : Int)) := by decide +kernel
  refine ⟨fun l2 S' => S' = S ∧ 0 ≤ l2 ∧ l2 ≤ 2 ∧ ∀ i, 0 ≤ i → i < l2 → T (p + i) = sch 21 i, fun l2 S' => (2 - l2).toNat, ⟨rfl, by decide, by decide, fun i i0 i1 => by omega⟩, ?_⟩
  rintro l2 S' ⟨rfl, h0, h1, h2⟩
  refine ⟨⟨by omega, by omega⟩, fun z => hK 1 (Or.inl ⟨rfl, cm_iff.mpr (fun i hi => ?_)⟩), fun z => ?_⟩
  · have hi : i < 2 := hi
    rw [← (hL i hi).1]
    exact h2 i (by omega) (by omega)
  · rw [hp]
    have b := tx_rng hX (show 0 ≤ p + l2 by omega)
    have hl := hL l2.toNat (by omega)
    rw [show ((l2.toNat : Nat) : Int) = l2 by omega] at hl
    refine fun _ => ⟨⟨by omega, by omega⟩, k_at hX hC (by omega) ⟨by omega, by omega, ⟨by omega, by omega⟩, fun w => ⟨⟨rfl, by omega, by omega, fun i i0 i1 => ?_⟩, ?_⟩, fun w => hK 0 (Or.inr ⟨rfl, ?_⟩)⟩⟩
    · by_cases c : i = l2
      · rw [c]
        exact w
      · exact h2 i i0 (by omega)
    · show (2 - (l2 + 1)).toNat < (2 - l2).toNat
      omega
    · cases hc : cm T p [45, 45] with
      | false => rfl
      | true =>
        have := cm_iff.mp hc l2.toNat (by show l2.toNat < 2; omega)
        rw [show ((l2.toNat : Nat) : Int) = l2 by omega, ← hl.1] at this
        exact absurd this w
end YW

