/-! SIGNS: a text t in a row -/
def bI (b : Bool) : Int32 := if b then 1 else 0
theorem nar_bI (b : Bool) : narrow .boolean (.int (bI b)) = .int (bI b) := by cases b <;> decide
theorem fit_bI (b : Bool) : fits .boolean (.int (bI b)) = true := by cases b <;> decide
theorem bI_0 {b : Bool} (h : bI b = 0) : b = false := by cases b with | false => rfl | true => exact absurd h (by decide)
theorem bI_n {b : Bool} (h : ¬ bI b = 0) : b = true := by cases b with | false => exact absurd (by decide) h | true => rfl
theorem ge_of {i : Int32} (h : ¬ i < 0) : 0 ≤ i.toInt := by
  have := Int32.not_lt.mp h
  simpa using Int32.le_iff_toInt_le.mp this
theorem vin_lt {i : Int32} {n k : Nat} (h : ¬ i < 0) (h2 : ¬ nI k ≤ i) (hk : k ≤ n) (hn : n < 2 ^ 31) : vp_in i n := by
  rw [vp_in_iff]
  refine ⟨ge_of h, ?_⟩
  have h3 := Int32.lt_iff_toInt_lt.mp (Int32.not_le.mp h2)
  rw [nI_toInt (by omega)] at h3
  omega
/-- the text t of the Signs object at a, whose row is at r -/
def Sg (G : xG) (cs : List va_E) (a r : Nat) (t : List Int32) (ov : Bool) : Prop := ∃ (n : Nat) (f : Nat → Int32), cs[a]? = some (.inr (5, [.ref (G.1 + r), .int (nI t.length), .int (bI ov)])) ∧ cs[r]? = some (.inl (G.2.2.1 1, n, .inl f)) ∧ t.length ≤ n ∧ n ≤ 3000 ∧ 64 ≤ n ∧ a ≠ r ∧ (∀ j, j < t.length → f j = t.getD j 0)
def sgAt (t : List Int32) (i : Int32) : Int32 := if i < 0 then -1 else if nI t.length ≤ i then -1 else t.getD i.toNatClampNeg 0
def sgHas (t : List Int32) (i : Int32) : Bool := if i < 0 then false else if nI t.length ≤ i then false else true

set_option maxRecDepth 100000 in
set_option maxHeartbeats 4000000 in
theorem c_X5_length {G : xG} {cs : List va_E} {a r : Nat} {t : List Int32} {ov : Bool} (d : Nat) (h : Sg G cs a r t ov) : X G yX5_length cX5_length 1 (some .int) d [.ref (G.1 + a)] cs (fun r cs1 => r = some (.int (nI t.length)) ∧ cs1 = cs) := by
  refine X.of false (by decide +kernel) (by decide) (Nat.le_of_ble_eq_true rfl) ?_
  show Z (RX5, cX5_length, 1, some .int, false) G d _ 0 [(0, .ref (G.1 + a))] [] cs
  obtain ⟨n, f, hs, hr, hn1, hn2, hn3, hne, hf⟩ := h
  refine z_aload_n dX5_length_0 rfl rfl ?_
  refine z_get kX5 fX5_15 dX5_length_1 (by assumption) (by rfl) ?_
  exact z_ireturn dX5_length_4 rfl (by rfl) ⟨rfl, rfl⟩

set_option maxRecDepth 100000 in
set_option maxHeartbeats 4000000 in
theorem c_X5_hasOverflowed {G : xG} {cs : List va_E} {a r : Nat} {t : List Int32} {ov : Bool} (d : Nat) (h : Sg G cs a r t ov) : X G yX5_hasOverflowed cX5_hasOverflowed 1 (some .boolean) d [.ref (G.1 + a)] cs (fun r cs1 => r = some (.int (bI ov)) ∧ cs1 = cs) := by
  refine X.of false (by decide +kernel) (by decide) (Nat.le_of_ble_eq_true rfl) ?_
  show Z (RX5, cX5_hasOverflowed, 1, some .boolean, false) G d _ 0 [(0, .ref (G.1 + a))] [] cs
  obtain ⟨n, f, hs, hr, hn1, hn2, hn3, hne, hf⟩ := h
  refine z_aload_n dX5_hasOverflowed_0 rfl rfl ?_
  refine z_get kX5 fX5_19 dX5_hasOverflowed_1 (by assumption) (by rfl) ?_
  exact z_ireturn dX5_hasOverflowed_4 rfl (nar_bI ov) ⟨rfl, rfl⟩

set_option maxRecDepth 100000 in
set_option maxHeartbeats 4000000 in
theorem c_X5_has {G : xG} {cs : List va_E} {a r : Nat} {t : List Int32} {ov : Bool} (d : Nat) (h : Sg G cs a r t ov) (i : Int32) : X G yX5_has cX5_has 2 (some .boolean) d [.ref (G.1 + a), .int i] cs (fun r cs1 => r = some (.int (bI (sgHas t i))) ∧ cs1 = cs) := by
  refine X.of false (by decide +kernel) (by decide) (Nat.le_of_ble_eq_true rfl) ?_
  show Z (RX5, cX5_has, 2, some .boolean, false) G d _ 0 [(0, .ref (G.1 + a)), (1, .int i)] [] cs
  obtain ⟨n, f, hs, hr, hn1, hn2, hn3, hne, hf⟩ := h
  refine z_iload_n dX5_has_0 rfl rfl ?_
  refine z_if_lt (tgt := 16) dX5_has_1 (by decide) (fun h1 => ?_) (fun h1 => ?_)
  · refine z_iconst (v := 0) dX5_has_16 (by decide) ?_
    exact z_ireturn dX5_has_17 rfl (by decide) ⟨by simp [sgHas, bI, *], rfl⟩
  · refine z_iload_n dX5_has_4 rfl rfl ?_
    refine z_aload_n dX5_has_5 rfl rfl ?_
    refine z_get kX5 fX5_15 dX5_has_6 (by assumption) (by rfl) ?_
    refine z_icmp_ge (tgt := 16) dX5_has_9 (by decide) (fun h2 => ?_) (fun h2 => ?_)
    · refine z_iconst (v := 0) dX5_has_16 (by decide) ?_
      exact z_ireturn dX5_has_17 rfl (by decide) ⟨by simp [sgHas, bI, *], rfl⟩
    · refine z_iconst (v := 1) dX5_has_12 (by decide) ?_
      refine z_goto (tgt := 17) dX5_has_13 (by decide) ?_
      exact z_ireturn dX5_has_17 rfl (by decide) ⟨by simp [sgHas, bI, *], rfl⟩

set_option maxRecDepth 100000 in
set_option maxHeartbeats 4000000 in
theorem c_X5_at {G : xG} {cs : List va_E} {a r : Nat} {t : List Int32} {ov : Bool} (d : Nat) (h : Sg G cs a r t ov) (i : Int32) : X G yX5_at cX5_at 2 (some .int) d [.ref (G.1 + a), .int i] cs (fun r cs1 => r = some (.int (sgAt t i)) ∧ cs1 = cs) := by
  refine X.of false (by decide +kernel) (by decide) (Nat.le_of_ble_eq_true rfl) ?_
  show Z (RX5, cX5_at, 2, some .int, false) G d _ 0 [(0, .ref (G.1 + a)), (1, .int i)] [] cs
  obtain ⟨n, f, hs, hr, hn1, hn2, hn3, hne, hf⟩ := h
  refine z_iload_n dX5_at_0 rfl rfl ?_
  refine z_if_lt (tgt := 21) dX5_at_1 (by decide) (fun h1 => ?_) (fun h1 => ?_)
  · refine z_iconst (v := (-1)) dX5_at_21 (by decide) ?_
    exact z_ireturn dX5_at_22 rfl (by rfl) ⟨by simp [sgAt, *], rfl⟩
  · refine z_iload_n dX5_at_4 rfl rfl ?_
    refine z_aload_n dX5_at_5 rfl rfl ?_
    refine z_get kX5 fX5_15 dX5_at_6 (by assumption) (by rfl) ?_
    refine z_icmp_ge (tgt := 21) dX5_at_9 (by decide) (fun h2 => ?_) (fun h2 => ?_)
    · refine z_iconst (v := (-1)) dX5_at_21 (by decide) ?_
      exact z_ireturn dX5_at_22 rfl (by rfl) ⟨by simp [sgAt, *], rfl⟩
    · have hv0 : vp_in i t.length := vin_lt h1 h2 (Nat.le_refl _) (by omega)
      have hv : vp_in i n := vin_lt h1 h2 hn1 (by omega)
      have hj : i.toNatClampNeg < t.length := Nat.not_le.mp fun q => hv0 (Or.inr q)
      refine z_aload_n dX5_at_12 rfl rfl ?_
      refine z_get kX5 fX5_11 dX5_at_13 (by assumption) (by rfl) ?_
      refine z_iload_n dX5_at_16 rfl rfl ?_
      refine z_cald dX5_at_17 (by assumption) (by assumption) ?_
      refine z_goto (tgt := 22) dX5_at_18 (by decide) ?_
      exact z_ireturn dX5_at_22 rfl (by rfl) ⟨by simp [sgAt, *], rfl⟩
