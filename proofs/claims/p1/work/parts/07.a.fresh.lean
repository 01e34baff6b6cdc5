/-! A FRESH OBJECT: its cells, the model's cells behind them -/
def wX (G : xG) : List va_E := .inr (10, [.ref (G.1 + 1), .ref (G.1 + 3), .ref (G.1 + 20), .ref (G.1 + 22), .ref (G.1 + 24), .ref (G.1 + 33), .ref (G.1 + 42), .ref (G.1 + 46), .ref (G.1 + 50), .int 10]) :: .inr (5, [.ref (G.1 + 2), .int 0, .int 0]) :: .inl (G.2.2.1 1, 64, .inl (fun _ => 0)) :: .inr (6, [.ref (G.1 + 4), .ref (G.1 + 4), .ref (G.1 + 6), .ref (G.1 + 7), .ref (G.1 + 8), .ref (G.1 + 9), .ref (G.1 + 10), .ref (G.1 + 11), .ref (G.1 + 12), .ref (G.1 + 13), .ref (G.1 + 14), .ref (G.1 + 15), .ref (G.1 + 16), .ref (G.1 + 17), .ref (G.1 + 18), .ref (G.1 + 19), .int 0, .int 0]) :: .inr (5, [.ref (G.1 + 5), .int 0, .int 0]) :: .inl (G.2.2.1 1, 64, .inl (fun _ => 0)) :: .inl (G.2.2.1 0, 200, .inl (fun _ => 0)) :: .inl (G.2.2.1 0, 200, .inl (fun _ => 0)) :: .inl (G.2.2.1 0, 200, .inl (fun _ => 0)) :: .inl (G.2.2.1 0, 200, .inl (fun _ => 0)) :: .inl (G.2.2.1 0, 200, .inl (fun _ => 0)) :: .inl (G.2.2.1 0, 200, .inl (fun _ => 0)) :: .inl (G.2.2.1 0, 200, .inl (fun _ => 0)) :: .inl (G.2.2.1 0, 200, .inl (fun _ => 0)) :: .inl (G.2.2.1 0, 200, .inl (fun _ => 0)) :: .inl (G.2.2.1 2, 200, .inl (fun _ => 0)) :: .inl (G.2.2.1 0, 600, .inl (fun _ => 0)) :: .inl (G.2.2.1 0, 600, .inl (fun _ => 0)) :: .inl (G.2.2.1 0, 600, .inl (fun _ => 0)) :: .inl (G.2.2.1 0, 600, .inl (fun _ => 0)) :: .inr (5, [.ref (G.1 + 21), .int 0, .int 0]) :: .inl (G.2.2.1 1, 64, .inl (fun _ => 0)) :: .inr (5, [.ref (G.1 + 23), .int 0, .int 0]) :: .inl (G.2.2.1 1, 64, .inl (fun _ => 0)) :: .inr (4, [.ref (G.1 + 25), .ref (G.1 + 26), .ref (G.1 + 27), .ref (G.1 + 28), .ref (G.1 + 29), .ref (G.1 + 30), .ref (G.1 + 31), .ref (G.1 + 32), .int 0]) :: .inl (G.2.2.1 1, 480, .inl (fun _ => 0)) :: .inl (G.2.2.1 0, 30, .inl (fun _ => 0)) :: .inl (G.2.2.1 0, 24, .inl (fun _ => 0)) :: .inl (G.2.2.1 2, 24, .inl (fun _ => 0)) :: .inl (G.2.2.1 0, 6, .inl (fun _ => 0)) :: .inl (G.2.2.1 0, 6, .inl (fun _ => 0)) :: .inl (G.2.2.1 0, 6, .inl (fun _ => 0)) :: .inl (G.2.2.1 2, 6, .inl (fun _ => 0)) :: .inr (4, [.ref (G.1 + 34), .ref (G.1 + 35), .ref (G.1 + 36), .ref (G.1 + 37), .ref (G.1 + 38), .ref (G.1 + 39), .ref (G.1 + 40), .ref (G.1 + 41), .int 0]) :: .inl (G.2.2.1 1, 480, .inl (fun _ => 0)) :: .inl (G.2.2.1 0, 30, .inl (fun _ => 0)) :: .inl (G.2.2.1 0, 24, .inl (fun _ => 0)) :: .inl (G.2.2.1 2, 24, .inl (fun _ => 0)) :: .inl (G.2.2.1 0, 6, .inl (fun _ => 0)) :: .inl (G.2.2.1 0, 6, .inl (fun _ => 0)) :: .inl (G.2.2.1 0, 6, .inl (fun _ => 0)) :: .inl (G.2.2.1 2, 6, .inl (fun _ => 0)) :: .inr (1, [.ref (G.1 + 43), .ref (G.1 + 44), .ref (G.1 + 45), .int 0]) :: .inl (G.2.2.1 0, 30, .inl (fun _ => 0)) :: .inl (G.2.2.1 0, 120, .inl (fun _ => 0)) :: .inl (G.2.2.1 0, 2400, .inl (fun _ => 0)) :: .inr (1, [.ref (G.1 + 47), .ref (G.1 + 48), .ref (G.1 + 49), .int 0]) :: .inl (G.2.2.1 0, 30, .inl (fun _ => 0)) :: .inl (G.2.2.1 0, 120, .inl (fun _ => 0)) :: .inl (G.2.2.1 0, 2400, .inl (fun _ => 0)) :: .inr (1, [.ref (G.1 + 51), .ref (G.1 + 52), .ref (G.1 + 53), .int 0]) :: .inl (G.2.2.1 0, 30, .inl (fun _ => 0)) :: .inl (G.2.2.1 0, 120, .inl (fun _ => 0)) :: .inl (G.2.2.1 0, 2400, .inl (fun _ => 0)) :: []
def wM (G : xG) : List va_E := .inr (11, (.int 0 :: .ref (G.1 + 55) :: .int 0 :: .ref (G.1 + 56) :: .ref (G.1 + 57) :: .ref (G.1 + 58) :: .ref (G.1 + 59) :: .ref (G.1 + 60) :: .ref (G.1 + 61) :: .ref (G.1 + 62) :: .ref (G.1 + 63) :: .ref (G.1 + 64) :: .ref (G.1 + 65) :: .ref (G.1 + 66) :: .ref (G.1 + 67) :: .ref (G.1 + 68) :: .ref (G.1 + 69) :: .ref (G.1 + 70) :: .int 0 :: .int 10 :: .int 0 :: .ref (G.1 + 71) :: .int 0 :: .int 0 :: .int 0 :: .int 0 :: .ref (G.1 + 72) :: .ref (G.1 + 73) :: .ref (G.1 + 74) :: .ref (G.1 + 75) :: .int 0 :: .ref (G.1 + 76) :: .int 0 :: .ref (G.1 + 77) :: .ref (G.1 + 78) :: .ref (G.1 + 79) :: .ref (G.1 + 80) :: .ref (G.1 + 81) :: .ref (G.1 + 82) :: .int 0 :: .ref (G.1 + 83) :: .int 0 :: .ref (G.1 + 84) :: .int 0 :: .ref (G.1 + 85) :: .ref (G.1 + 86) :: .ref (G.1 + 87) :: .ref (G.1 + 88) :: .ref (G.1 + 89) :: .ref (G.1 + 90) :: .ref (G.1 + 91) :: .int 0 :: .ref (G.1 + 92) :: .ref (G.1 + 93) :: .ref (G.1 + 94) :: .ref (G.1 + 95) :: .int 0 :: .ref (G.1 + 96) :: .ref (G.1 + 97) :: .int 0 :: .int 0 :: .ref (G.1 + 98) :: .ref (G.1 + 99) :: .ref (G.1 + 100) :: .ref (G.1 + 101) :: .ref (G.1 + 102) :: .ref (G.1 + 103) :: .int 0 :: .ref (G.1 + 104) :: .ref (G.1 + 105) :: .ref (G.1 + 106) :: .int 0 :: [])) :: .inl (G.2.2.1 0, 3000, .inl (fun _ => 0)) :: .inl (G.2.2.1 0, 6, .inl (fun _ => 0)) :: .inl (G.2.2.1 0, 30, .inl (fun _ => 0)) :: .inl (G.2.2.1 0, 240, .inl (fun _ => 0)) :: .inl (G.2.2.1 0, 24, .inl (fun _ => 0)) :: .inl (G.2.2.1 2, 24, .inl (fun _ => 0)) :: .inl (G.2.2.1 2, 6, .inl (fun _ => 0)) :: .inl (G.2.2.1 0, 6, .inl (fun _ => 0)) :: .inl (G.2.2.1 0, 30, .inl (fun _ => 0)) :: .inl (G.2.2.1 0, 240, .inl (fun _ => 0)) :: .inl (G.2.2.1 0, 24, .inl (fun _ => 0)) :: .inl (G.2.2.1 2, 24, .inl (fun _ => 0)) :: .inl (G.2.2.1 0, 3, .inl (fun _ => 0)) :: .inl (G.2.2.1 0, 90, .inl (fun _ => 0)) :: .inl (G.2.2.1 0, 360, .inl (fun _ => 0)) :: .inl (G.2.2.1 0, 7200, .inl (fun _ => 0)) :: .inl (G.2.2.1 0, 3000, .inl (fun _ => 0)) :: .inl (G.2.2.1 0, 900, .inl (fun _ => 0)) :: .inl (G.2.2.1 0, 900, .inl (fun _ => 0)) :: .inl (G.2.2.1 0, 900, .inl (fun _ => 0)) :: .inl (G.2.2.1 0, 30, .inl (fun _ => 0)) :: .inl (G.2.2.1 0, 30, .inl (fun _ => 0)) :: .inl (G.2.2.1 0, 24, .inl (fun _ => 0)) :: .inl (G.2.2.1 0, 24, .inl (fun _ => 0)) :: .inl (G.2.2.1 0, 24, .inl (fun _ => 0)) :: .inl (G.2.2.1 0, 24, .inl (fun _ => 0)) :: .inl (G.2.2.1 0, 24, .inl (fun _ => 0)) :: .inl (G.2.2.1 0, 24, .inl (fun _ => 0)) :: .inl (G.2.2.1 0, 3001, .inl (fun _ => 0)) :: .inl (G.2.2.1 0, 3000, .inl (fun _ => 0)) :: .inl (G.2.2.1 0, 200, .inl (fun _ => 0)) :: .inl (G.2.2.1 0, 200, .inl (fun _ => 0)) :: .inl (G.2.2.1 0, 200, .inl (fun _ => 0)) :: .inl (G.2.2.1 0, 200, .inl (fun _ => 0)) :: .inl (G.2.2.1 0, 200, .inl (fun _ => 0)) :: .inl (G.2.2.1 0, 200, .inl (fun _ => 0)) :: .inl (G.2.2.1 0, 200, .inl (fun _ => 0)) :: .inl (G.2.2.1 0, 600, .inl (fun _ => 0)) :: .inl (G.2.2.1 0, 600, .inl (fun _ => 0)) :: .inl (G.2.2.1 0, 600, .inl (fun _ => 0)) :: .inl (G.2.2.1 0, 600, .inl (fun _ => 0)) :: .inl (G.2.2.1 0, 3000, .inl (fun _ => 0)) :: .inl (G.2.2.1 0, 3000, .inl (fun _ => 0)) :: .inl (G.2.2.1 0, 200, .inl (fun _ => 0)) :: .inl (G.2.2.1 0, 200, .inl (fun _ => 0)) :: .inl (G.2.2.1 0, 200, .inl (fun _ => 0)) :: .inl (G.2.2.1 0, 200, .inl (fun _ => 0)) :: .inl (G.2.2.1 0, 200, .inl (fun _ => 0)) :: .inl (G.2.2.1 0, 120, .inl (fun _ => 0)) :: .inl (G.2.2.1 0, 3000, .inl (fun _ => 0)) :: .inl (G.2.2.1 0, 30, .inl (fun _ => 0)) :: .inl (G.2.2.1 0, 30, .inl (fun _ => 0)) :: []
def w0 (G : xG) : List va_E := wX G ++ wM G
def hasI (n i : Int32) : Bool := if i < 0 then false else if n ≤ i then false else true
theorem hasI_0 (i : Int32) : hasI 0 i = false := by
  unfold hasI
  by_cases h : i < 0
  · simp [h]
  · simp [h, Int32.not_lt.mp h]
set_option maxRecDepth 100000 in
set_option maxHeartbeats 4000000 in
theorem c_X1_has {G : xG} {cs : List va_E} (d : Nat) {h : Nat} {v0 v1 v2 : Value} {n : Int32} (hh : cs[h]? = some (.inr (1, [v0, v1, v2, .int n]))) (i : Int32) : X G yX1_has cX1_has 2 (some .boolean) d [.ref (G.1 + h), .int i] cs (fun r cs1 => r = some (.int (bI (hasI n i))) ∧ cs1 = cs) := by
  refine X.of false (by decide +kernel) (by decide) (Nat.le_of_ble_eq_true rfl) ?_
  show Z (RX1, cX1_has, 2, some .boolean, false) G d _ 0 [(0, .ref (G.1 + h)), (1, .int i)] [] cs
  refine z_iload_n dX1_has_0 rfl rfl ?_
  refine z_if_lt (tgt := 16) dX1_has_1 (by decide) (fun h1 => ?_) (fun h1 => ?_)
  · refine z_iconst (v := 0) dX1_has_16 (by decide) ?_
    exact z_ireturn dX1_has_17 rfl (by decide) ⟨by simp [hasI, bI, *], rfl⟩
  · refine z_iload_n dX1_has_4 rfl rfl ?_
    refine z_aload_n dX1_has_5 rfl rfl ?_
    refine z_get kX1 fX1_21 dX1_has_6 (by assumption) (by rfl) ?_
    refine z_icmp_ge (tgt := 16) dX1_has_9 (by decide) (fun h2 => ?_) (fun h2 => ?_)
    · refine z_iconst (v := 0) dX1_has_16 (by decide) ?_
      exact z_ireturn dX1_has_17 rfl (by decide) ⟨by simp [hasI, bI, *], rfl⟩
    · refine z_iconst (v := 1) dX1_has_12 (by decide) ?_
      refine z_goto (tgt := 17) dX1_has_13 (by decide) ?_
      exact z_ireturn dX1_has_17 rfl (by decide) ⟨by simp [hasI, bI, *], rfl⟩

set_option maxRecDepth 100000 in
set_option maxHeartbeats 4000000 in
theorem c_X1_size {G : xG} {cs : List va_E} (d : Nat) {h : Nat} {v0 v1 v2 : Value} {n : Int32} (hh : cs[h]? = some (.inr (1, [v0, v1, v2, .int n]))) : X G yX1_size cX1_size 1 (some .int) d [.ref (G.1 + h)] cs (fun r cs1 => r = some (.int (n)) ∧ cs1 = cs) := by
  refine X.of false (by decide +kernel) (by decide) (Nat.le_of_ble_eq_true rfl) ?_
  show Z (RX1, cX1_size, 1, some .int, false) G d _ 0 [(0, .ref (G.1 + h))] [] cs
  refine z_aload_n dX1_size_0 rfl rfl ?_
  refine z_get kX1 fX1_21 dX1_size_1 (by assumption) (by rfl) ?_
  exact z_ireturn dX1_size_4 rfl (by rfl) ⟨rfl, rfl⟩

set_option maxRecDepth 100000 in
set_option maxHeartbeats 4000000 in
theorem c_X4_isClass {G : xG} {cs : List va_E} (d : Nat) {h : Nat} {v0 v1 v2 v3 v4 v5 v6 v7 : Value} {n : Int32} (hh : cs[h]? = some (.inr (4, [v0, v1, v2, v3, v4, v5, v6, v7, .int n]))) (i : Int32) : X G yX4_isClass cX4_isClass 2 (some .boolean) d [.ref (G.1 + h), .int i] cs (fun r cs1 => r = some (.int (bI (hasI n i))) ∧ cs1 = cs) := by
  refine X.of false (by decide +kernel) (by decide) (Nat.le_of_ble_eq_true rfl) ?_
  show Z (RX4, cX4_isClass, 2, some .boolean, false) G d _ 0 [(0, .ref (G.1 + h)), (1, .int i)] [] cs
  refine z_iload_n dX4_isClass_0 rfl rfl ?_
  refine z_if_lt (tgt := 16) dX4_isClass_1 (by decide) (fun h1 => ?_) (fun h1 => ?_)
  · refine z_iconst (v := 0) dX4_isClass_16 (by decide) ?_
    exact z_ireturn dX4_isClass_17 rfl (by decide) ⟨by simp [hasI, bI, *], rfl⟩
  · refine z_iload_n dX4_isClass_4 rfl rfl ?_
    refine z_aload_n dX4_isClass_5 rfl rfl ?_
    refine z_get kX4 fX4_38 dX4_isClass_6 (by assumption) (by rfl) ?_
    refine z_icmp_ge (tgt := 16) dX4_isClass_9 (by decide) (fun h2 => ?_) (fun h2 => ?_)
    · refine z_iconst (v := 0) dX4_isClass_16 (by decide) ?_
      exact z_ireturn dX4_isClass_17 rfl (by decide) ⟨by simp [hasI, bI, *], rfl⟩
    · refine z_iconst (v := 1) dX4_isClass_12 (by decide) ?_
      refine z_goto (tgt := 17) dX4_isClass_13 (by decide) ?_
      exact z_ireturn dX4_isClass_17 rfl (by decide) ⟨by simp [hasI, bI, *], rfl⟩

set_option maxRecDepth 100000 in
set_option maxHeartbeats 4000000 in
theorem c_X4_size {G : xG} {cs : List va_E} (d : Nat) {h : Nat} {v0 v1 v2 v3 v4 v5 v6 v7 : Value} {n : Int32} (hh : cs[h]? = some (.inr (4, [v0, v1, v2, v3, v4, v5, v6, v7, .int n]))) : X G yX4_size cX4_size 1 (some .int) d [.ref (G.1 + h)] cs (fun r cs1 => r = some (.int (n)) ∧ cs1 = cs) := by
  refine X.of false (by decide +kernel) (by decide) (Nat.le_of_ble_eq_true rfl) ?_
  show Z (RX4, cX4_size, 1, some .int, false) G d _ 0 [(0, .ref (G.1 + h))] [] cs
  refine z_aload_n dX4_size_0 rfl rfl ?_
  refine z_get kX4 fX4_38 dX4_size_1 (by assumption) (by rfl) ?_
  exact z_ireturn dX4_size_4 rfl (by rfl) ⟨rfl, rfl⟩

def isHp (i : Int32) : Bool := if i = 0 then true else if i = 1 then true else false
set_option maxRecDepth 100000 in
set_option maxHeartbeats 4000000 in
theorem c_X10_isHeap {G : xG} {cs : List va_E} (d : Nat) (i : Int32) : X G yX10_isHeap cX10_isHeap 1 (some .boolean) d [.int i] cs (fun r cs1 => r = some (.int (bI (isHp i))) ∧ cs1 = cs) := by
  refine X.of false (by decide +kernel) (by decide) (Nat.le_of_ble_eq_true rfl) ?_
  show Z (RX10, cX10_isHeap, 1, some .boolean, false) G d _ 0 [(0, .int i)] [] cs
  refine z_iload_n dX10_isHeap_0 rfl rfl ?_
  refine z_if_eq (tgt := 9) dX10_isHeap_1 (by decide) (fun h1 => ?_) (fun h1 => ?_)
  · refine z_iconst (v := 1) dX10_isHeap_9 (by decide) ?_
    refine z_goto (tgt := 14) dX10_isHeap_10 (by decide) ?_
    exact z_ireturn dX10_isHeap_14 rfl (by decide) ⟨by simp [isHp, bI, *], rfl⟩
  · refine z_iload_n dX10_isHeap_4 rfl rfl ?_
    refine z_iconst (v := 1) dX10_isHeap_5 (by decide) ?_
    refine z_icmp_ne (tgt := 13) dX10_isHeap_6 (by decide) (fun h2 => ?_) (fun h2 => ?_)
    · refine z_iconst (v := 0) dX10_isHeap_13 (by decide) ?_
      exact z_ireturn dX10_isHeap_14 rfl (by decide) ⟨by simp [isHp, bI, *], rfl⟩
    · refine z_iconst (v := 1) dX10_isHeap_9 (by decide) ?_
      refine z_goto (tgt := 14) dX10_isHeap_10 (by decide) ?_
      exact z_ireturn dX10_isHeap_14 rfl (by decide) ⟨by simp [isHp, bI, *], rfl⟩

def isSgn (u : Int32) : Bool := if u < 32 then (if u = 9 then true else if u = 10 then true else if u = 13 then true else false) else if u ≤ 126 then true else if u = 9 then true else if u = 10 then true else if u = 13 then true else false
set_option maxRecDepth 100000 in
set_option maxHeartbeats 4000000 in
theorem c_X10_isSign {G : xG} {cs : List va_E} (d : Nat) (u : Int32) : X G yX10_isSign cX10_isSign 1 (some .boolean) d [.int u] cs (fun r cs1 => r = some (.int (bI (isSgn u))) ∧ cs1 = cs) := by
  refine X.of false (by decide +kernel) (by decide) (Nat.le_of_ble_eq_true rfl) ?_
  show Z (RX10, cX10_isSign, 1, some .boolean, false) G d _ 0 [(0, .int u)] [] cs
  refine z_iload_n dX10_isSign_0 rfl rfl ?_
  refine z_bipush (v := 32) dX10_isSign_1 (by decide) ?_
  refine z_icmp_lt (tgt := 12) dX10_isSign_3 (by decide) (fun h1 => ?_) (fun h1 => ?_)
  · refine z_iload_n dX10_isSign_12 rfl rfl ?_
    refine z_bipush (v := 9) dX10_isSign_13 (by decide) ?_
    refine z_icmp_eq (tgt := 30) dX10_isSign_15 (by decide) (fun h2 => ?_) (fun h2 => ?_)
    · refine z_iconst (v := 1) dX10_isSign_30 (by decide) ?_
      refine z_goto (tgt := 35) dX10_isSign_31 (by decide) ?_
      exact z_ireturn dX10_isSign_35 rfl (by decide) ⟨by simp [isSgn, bI, *], rfl⟩
    · refine z_iload_n dX10_isSign_18 rfl rfl ?_
      refine z_bipush (v := 10) dX10_isSign_19 (by decide) ?_
      refine z_icmp_eq (tgt := 30) dX10_isSign_21 (by decide) (fun h3 => ?_) (fun h3 => ?_)
      · refine z_iconst (v := 1) dX10_isSign_30 (by decide) ?_
        refine z_goto (tgt := 35) dX10_isSign_31 (by decide) ?_
        exact z_ireturn dX10_isSign_35 rfl (by decide) ⟨by simp [isSgn, bI, *], rfl⟩
      · refine z_iload_n dX10_isSign_24 rfl rfl ?_
        refine z_bipush (v := 13) dX10_isSign_25 (by decide) ?_
        refine z_icmp_ne (tgt := 34) dX10_isSign_27 (by decide) (fun h4 => ?_) (fun h4 => ?_)
        · refine z_iconst (v := 0) dX10_isSign_34 (by decide) ?_
          exact z_ireturn dX10_isSign_35 rfl (by decide) ⟨by simp [isSgn, bI, *], rfl⟩
        · refine z_iconst (v := 1) dX10_isSign_30 (by decide) ?_
          refine z_goto (tgt := 35) dX10_isSign_31 (by decide) ?_
          exact z_ireturn dX10_isSign_35 rfl (by decide) ⟨by simp [isSgn, bI, *], rfl⟩
  · refine z_iload_n dX10_isSign_6 rfl rfl ?_
    refine z_bipush (v := 126) dX10_isSign_7 (by decide) ?_
    refine z_icmp_le (tgt := 30) dX10_isSign_9 (by decide) (fun h5 => ?_) (fun h5 => ?_)
    · refine z_iconst (v := 1) dX10_isSign_30 (by decide) ?_
      refine z_goto (tgt := 35) dX10_isSign_31 (by decide) ?_
      exact z_ireturn dX10_isSign_35 rfl (by decide) ⟨by simp [isSgn, bI, *], rfl⟩
    · refine z_iload_n dX10_isSign_12 rfl rfl ?_
      refine z_bipush (v := 9) dX10_isSign_13 (by decide) ?_
      refine z_icmp_eq (tgt := 30) dX10_isSign_15 (by decide) (fun h6 => ?_) (fun h6 => ?_)
      · refine z_iconst (v := 1) dX10_isSign_30 (by decide) ?_
        refine z_goto (tgt := 35) dX10_isSign_31 (by decide) ?_
        exact z_ireturn dX10_isSign_35 rfl (by decide) ⟨by simp [isSgn, bI, *], rfl⟩
      · refine z_iload_n dX10_isSign_18 rfl rfl ?_
        refine z_bipush (v := 10) dX10_isSign_19 (by decide) ?_
        refine z_icmp_eq (tgt := 30) dX10_isSign_21 (by decide) (fun h7 => ?_) (fun h7 => ?_)
        · refine z_iconst (v := 1) dX10_isSign_30 (by decide) ?_
          refine z_goto (tgt := 35) dX10_isSign_31 (by decide) ?_
          exact z_ireturn dX10_isSign_35 rfl (by decide) ⟨by simp [isSgn, bI, *], rfl⟩
        · refine z_iload_n dX10_isSign_24 rfl rfl ?_
          refine z_bipush (v := 13) dX10_isSign_25 (by decide) ?_
          refine z_icmp_ne (tgt := 34) dX10_isSign_27 (by decide) (fun h8 => ?_) (fun h8 => ?_)
          · refine z_iconst (v := 0) dX10_isSign_34 (by decide) ?_
            exact z_ireturn dX10_isSign_35 rfl (by decide) ⟨by simp [isSgn, bI, *], rfl⟩
          · refine z_iconst (v := 1) dX10_isSign_30 (by decide) ?_
            refine z_goto (tgt := 35) dX10_isSign_31 (by decide) ?_
            exact z_ireturn dX10_isSign_35 rfl (by decide) ⟨by simp [isSgn, bI, *], rfl⟩

set_option maxRecDepth 100000 in
set_option maxHeartbeats 4000000 in
theorem c_shapeIn0 {G : xG} {cs : List va_E} (d : Nat) (hd : 1 ≤ d) {h x : Nat} {v0 v1 v2 : Value} (hh : cs[h]? = some (.inr (1, [v0, v1, v2, .int 0]))) (o f : Int32) : X G yX10_shapeIn cX10_shapeIn 4 (some .int) d [.ref (G.1 + x), .ref (G.1 + h), .int o, .int f] cs (fun r cs1 => r = some (.int 0) ∧ cs1 = cs) := by
  refine X.of false (by decide +kernel) (by decide) (Nat.le_of_ble_eq_true rfl) ?_
  show Z (RX10, cX10_shapeIn, 4, some .int, false) G d _ 0 [(0, .ref (G.1 + x)), (1, .ref (G.1 + h)), (2, .int o), (3, .int f)] [] cs
  refine z_aload_n dX10_shapeIn_0 rfl rfl ?_
  refine z_iload_n dX10_shapeIn_1 rfl rfl ?_
  refine z_callV (As := [_]) eX1_has sX1_has lX10_94 rfl dX10_shapeIn_2 hh (c_X1_has 0 hh _) (by omega) rfl (Nat.le_of_ble_eq_true rfl) (fun r cs1 hp => ?_)
  obtain ⟨rfl, rfl⟩ := hp
  refine z_st (st' := [.int 0]) (by rw [hasI_0]; rfl) ?_
  refine z_if_eq (tgt := 24) dX10_shapeIn_5 (by decide) (fun h1 => ?_) (fun h1 => ?_)
  · refine z_iconst (v := 0) dX10_shapeIn_24 (by decide) ?_
    exact z_ireturn dX10_shapeIn_25 rfl (by rfl) ⟨rfl, rfl⟩
  · first | exact absurd h1 (by decide) | exact absurd h2 (by decide) | exact absurd h3 (by decide) | exact absurd h4 (by decide) | exact absurd h5 (by decide) | exact absurd h6 (by decide) | exact absurd h7 (by decide) | exact absurd (by decide) h1 | exact absurd (by decide) h2 | exact absurd (by decide) h3 | exact absurd (by decide) h4 | exact absurd (by decide) h5 | exact absurd (by decide) h6 | exact absurd (by decide) h7

set_option maxRecDepth 100000 in
set_option maxHeartbeats 4000000 in
theorem fx_make {G : xG} (d : Nat) (hd : 1 ≤ d) (c : Int32) : X G yX10_make cX10_make 2 (some .int) d [.ref (G.1 + 0), .int c] (w0 G) (fun r cs1 => r = some (.int (-1)) ∧ cs1 = w0 G) := by
  refine X.of false (by decide +kernel) (by decide) (Nat.le_of_ble_eq_true rfl) ?_
  show Z (RX10, cX10_make, 2, some .int, false) G d _ 0 [(0, .ref (G.1 + 0)), (1, .int c)] [] (w0 G)
  refine z_aload_n dX10_make_0 rfl rfl ?_
  refine z_get kX10 fX10_32 dX10_make_1 (by rfl) (by rfl) ?_
  refine z_iload_n dX10_make_4 rfl rfl ?_
  refine z_callV (As := [_]) eX4_isClass sX4_isClass lX10_79 rfl dX10_make_5 (by rfl) (c_X4_isClass 0 (h := 24) (by rfl) _) (by omega) rfl (Nat.le_of_ble_eq_true rfl) (fun r cs1 hp => ?_)
  obtain ⟨rfl, rfl⟩ := hp
  refine z_st (st' := [.int 0]) (by rw [hasI_0]; rfl) ?_
  refine z_if_eq (tgt := 30) dX10_make_8 (by decide) (fun h1 => ?_) (fun h1 => ?_)
  · refine z_iconst (v := (-1)) dX10_make_30 (by decide) ?_
    exact z_ireturn dX10_make_31 rfl (by rfl) ⟨by rfl, rfl⟩
  · first | exact absurd h1 (by decide) | exact absurd h2 (by decide) | exact absurd h3 (by decide) | exact absurd h4 (by decide) | exact absurd h5 (by decide) | exact absurd h6 (by decide) | exact absurd h7 (by decide) | exact absurd (by decide) h1 | exact absurd (by decide) h2 | exact absurd (by decide) h3 | exact absurd (by decide) h4 | exact absurd (by decide) h5 | exact absurd (by decide) h6 | exact absurd (by decide) h7

set_option maxRecDepth 100000 in
set_option maxHeartbeats 4000000 in
theorem fx_set {G : xG} (d : Nat) (hd : 2 ≤ d) (o f v : Int32) : X G yX10_set cX10_set 6 (some .boolean) d [.ref (G.1 + 0), .int o, .int f, .int v] (w0 G) (fun r cs1 => r = some (.int (0)) ∧ cs1 = w0 G) := by
  refine X.of false (by decide +kernel) (by decide) (Nat.le_of_ble_eq_true rfl) ?_
  show Z (RX10, cX10_set, 6, some .boolean, false) G d _ 0 [(0, .ref (G.1 + 0)), (1, .int o), (2, .int f), (3, .int v)] [] (w0 G)
  refine z_aload_n dX10_set_0 rfl rfl ?_
  refine z_aload_n dX10_set_1 rfl rfl ?_
  refine z_get kX10 fX10_42 dX10_set_2 (by rfl) (by rfl) ?_
  refine z_iload_n dX10_set_5 rfl rfl ?_
  refine z_iload_n dX10_set_6 rfl rfl ?_
  refine z_callV (As := [_, _, _]) eX10_shapeIn sX10_shapeIn lX10_90 rfl dX10_set_7 (by rfl) (c_shapeIn0 1 (Nat.le_refl _) (h := 42) (by rfl) _ _) (by omega) rfl (Nat.le_of_ble_eq_true rfl) (fun r cs1 hp => ?_)
  obtain ⟨rfl, rfl⟩ := hp
  refine z_st (st' := [.int 0]) rfl ?_
  refine z_istore dX10_set_10 (by decide) ?_
  refine z_iload dX10_set_12 rfl ?_
  refine z_iconst (v := 1) dX10_set_14 (by decide) ?_
  refine z_icmp_eq (tgt := 41) dX10_set_15 (by decide) (fun h1 => ?_) (fun h1 => ?_)
  · first | exact absurd h1 (by decide) | exact absurd h2 (by decide) | exact absurd h3 (by decide) | exact absurd h4 (by decide) | exact absurd h5 (by decide) | exact absurd h6 (by decide) | exact absurd h7 (by decide) | exact absurd (by decide) h1 | exact absurd (by decide) h2 | exact absurd (by decide) h3 | exact absurd (by decide) h4 | exact absurd (by decide) h5 | exact absurd (by decide) h6 | exact absurd (by decide) h7
  · refine z_iload dX10_set_18 rfl ?_
    refine z_iconst (v := 3) dX10_set_20 (by decide) ?_
    refine z_icmp_ne (tgt := 45) dX10_set_21 (by decide) (fun h2 => ?_) (fun h2 => ?_)
    · refine z_iconst (v := 0) dX10_set_45 (by decide) ?_
      refine z_istore dX10_set_46 (by decide) ?_
      refine z_iload dX10_set_48 rfl ?_
      refine z_if_eq (tgt := 63) dX10_set_50 (by decide) (fun h3 => ?_) (fun h3 => ?_)
      · refine z_iload dX10_set_63 rfl ?_
        exact z_ireturn dX10_set_65 rfl (by decide) ⟨by rfl, rfl⟩
      · first | exact absurd h1 (by decide) | exact absurd h2 (by decide) | exact absurd h3 (by decide) | exact absurd h4 (by decide) | exact absurd h5 (by decide) | exact absurd h6 (by decide) | exact absurd h7 (by decide) | exact absurd (by decide) h1 | exact absurd (by decide) h2 | exact absurd (by decide) h3 | exact absurd (by decide) h4 | exact absurd (by decide) h5 | exact absurd (by decide) h6 | exact absurd (by decide) h7
    · first | exact absurd h1 (by decide) | exact absurd h2 (by decide) | exact absurd h3 (by decide) | exact absurd h4 (by decide) | exact absurd h5 (by decide) | exact absurd h6 (by decide) | exact absurd h7 (by decide) | exact absurd (by decide) h1 | exact absurd (by decide) h2 | exact absurd (by decide) h3 | exact absurd (by decide) h4 | exact absurd (by decide) h5 | exact absurd (by decide) h6 | exact absurd (by decide) h7

set_option maxRecDepth 100000 in
set_option maxHeartbeats 4000000 in
theorem fx_text {G : xG} (d : Nat) (hd : 2 ≤ d) (o f : Int32) : X G yX10_text cX10_text 3 (some .boolean) d [.ref (G.1 + 0), .int o, .int f] (w0 G) (fun r cs1 => r = some (.int (0)) ∧ cs1 = w0 G) := by
  refine X.of false (by decide +kernel) (by decide) (Nat.le_of_ble_eq_true rfl) ?_
  show Z (RX10, cX10_text, 3, some .boolean, false) G d _ 0 [(0, .ref (G.1 + 0)), (1, .int o), (2, .int f)] [] (w0 G)
  refine z_aload_n dX10_text_0 rfl rfl ?_
  refine z_aload_n dX10_text_1 rfl rfl ?_
  refine z_get kX10 fX10_42 dX10_text_2 (by rfl) (by rfl) ?_
  refine z_iload_n dX10_text_5 rfl rfl ?_
  refine z_iload_n dX10_text_6 rfl rfl ?_
  refine z_callV (As := [_, _, _]) eX10_shapeIn sX10_shapeIn lX10_90 rfl dX10_text_7 (by rfl) (c_shapeIn0 1 (Nat.le_refl _) (h := 42) (by rfl) _ _) (by omega) rfl (Nat.le_of_ble_eq_true rfl) (fun r cs1 hp => ?_)
  obtain ⟨rfl, rfl⟩ := hp
  refine z_st (st' := [.int 0]) rfl ?_
  refine z_iconst (v := 2) dX10_text_10 (by decide) ?_
  refine z_icmp_ne (tgt := 32) dX10_text_11 (by decide) (fun h1 => ?_) (fun h1 => ?_)
  · refine z_iconst (v := 0) dX10_text_32 (by decide) ?_
    exact z_ireturn dX10_text_33 rfl (by decide) ⟨by rfl, rfl⟩
  · first | exact absurd h1 (by decide) | exact absurd h2 (by decide) | exact absurd h3 (by decide) | exact absurd h4 (by decide) | exact absurd h5 (by decide) | exact absurd h6 (by decide) | exact absurd h7 (by decide) | exact absurd (by decide) h1 | exact absurd (by decide) h2 | exact absurd (by decide) h3 | exact absurd (by decide) h4 | exact absurd (by decide) h5 | exact absurd (by decide) h6 | exact absurd (by decide) h7

set_option maxRecDepth 100000 in
set_option maxHeartbeats 4000000 in
theorem fx_add {G : xG} (d : Nat) (hd : 2 ≤ d) (o f v : Int32) : X G yX10_add cX10_add 4 (some .int) d [.ref (G.1 + 0), .int o, .int f, .int v] (w0 G) (fun r cs1 => r = some (.int (-1)) ∧ cs1 = w0 G) := by
  refine X.of false (by decide +kernel) (by decide) (Nat.le_of_ble_eq_true rfl) ?_
  show Z (RX10, cX10_add, 4, some .int, false) G d _ 0 [(0, .ref (G.1 + 0)), (1, .int o), (2, .int f), (3, .int v)] [] (w0 G)
  refine z_aload_n dX10_add_0 rfl rfl ?_
  refine z_aload_n dX10_add_1 rfl rfl ?_
  refine z_get kX10 fX10_42 dX10_add_2 (by rfl) (by rfl) ?_
  refine z_iload_n dX10_add_5 rfl rfl ?_
  refine z_iload_n dX10_add_6 rfl rfl ?_
  refine z_callV (As := [_, _, _]) eX10_shapeIn sX10_shapeIn lX10_90 rfl dX10_add_7 (by rfl) (c_shapeIn0 1 (Nat.le_refl _) (h := 42) (by rfl) _ _) (by omega) rfl (Nat.le_of_ble_eq_true rfl) (fun r cs1 hp => ?_)
  obtain ⟨rfl, rfl⟩ := hp
  refine z_st (st' := [.int 0]) rfl ?_
  refine z_iconst (v := 4) dX10_add_10 (by decide) ?_
  refine z_icmp_ne (tgt := 25) dX10_add_11 (by decide) (fun h1 => ?_) (fun h1 => ?_)
  · refine z_iconst (v := (-1)) dX10_add_25 (by decide) ?_
    exact z_ireturn dX10_add_26 rfl (by rfl) ⟨by rfl, rfl⟩
  · first | exact absurd h1 (by decide) | exact absurd h2 (by decide) | exact absurd h3 (by decide) | exact absurd h4 (by decide) | exact absurd h5 (by decide) | exact absurd h6 (by decide) | exact absurd h7 (by decide) | exact absurd (by decide) h1 | exact absurd (by decide) h2 | exact absurd (by decide) h3 | exact absurd (by decide) h4 | exact absurd (by decide) h5 | exact absurd (by decide) h6 | exact absurd (by decide) h7

set_option maxRecDepth 100000 in
set_option maxHeartbeats 4000000 in
theorem fx_write {G : xG} (d : Nat) (hd : 1 ≤ d) (o m : Int32) : X G yX10_write cX10_write 5 (some .int) d [.ref (G.1 + 0), .int o, .int m] (w0 G) (fun r cs1 => r = some (.int (-1)) ∧ cs1 = w0 G) := by
  refine X.of false (by decide +kernel) (by decide) (Nat.le_of_ble_eq_true rfl) ?_
  show Z (RX10, cX10_write, 5, some .int, false) G d _ 0 [(0, .ref (G.1 + 0)), (1, .int o), (2, .int m)] [] (w0 G)
  refine z_aload_n dX10_write_0 rfl rfl ?_
  refine z_get kX10 fX10_42 dX10_write_1 (by rfl) (by rfl) ?_
  refine z_iload_n dX10_write_4 rfl rfl ?_
  refine z_callV (As := [_]) eX1_has sX1_has lX10_94 rfl dX10_write_5 (by rfl) (c_X1_has 0 (h := 42) (by rfl) _) (by omega) rfl (Nat.le_of_ble_eq_true rfl) (fun r cs1 hp => ?_)
  obtain ⟨rfl, rfl⟩ := hp
  refine z_st (st' := [.int 0]) (by rw [hasI_0]; rfl) ?_
  refine z_if_eq (tgt := 20) dX10_write_8 (by decide) (fun h1 => ?_) (fun h1 => ?_)
  · refine z_iconst (v := (-1)) dX10_write_20 (by decide) ?_
    exact z_ireturn dX10_write_21 rfl (by rfl) ⟨by rfl, rfl⟩
  · first | exact absurd h1 (by decide) | exact absurd h2 (by decide) | exact absurd h3 (by decide) | exact absurd h4 (by decide) | exact absurd h5 (by decide) | exact absurd h6 (by decide) | exact absurd h7 (by decide) | exact absurd (by decide) h1 | exact absurd (by decide) h2 | exact absurd (by decide) h3 | exact absurd (by decide) h4 | exact absurd (by decide) h5 | exact absurd (by decide) h6 | exact absurd (by decide) h7

set_option maxRecDepth 100000 in
set_option maxHeartbeats 4000000 in
theorem fx_read {G : xG} (d : Nat) (hd : 1 ≤ d) : X G yX10_read cX10_read 4 (some .int) d [.ref (G.1 + 0)] (w0 G) (fun r cs1 => r = some (.int (-3001)) ∧ cs1 = w0 G) := by
  refine X.of false (by decide +kernel) (by decide) (Nat.le_of_ble_eq_true rfl) ?_
  show Z (RX10, cX10_read, 4, some .int, false) G d _ 0 [(0, .ref (G.1 + 0))] [] (w0 G)
  refine z_aload_n dX10_read_0 rfl rfl ?_
  refine z_get kX10 fX10_32 dX10_read_1 (by rfl) (by rfl) ?_
  refine z_callV (As := []) eX4_size sX4_size lX10_76 rfl dX10_read_4 (by rfl) (c_X4_size 0 (h := 24) (by rfl)) (by omega) rfl (Nat.le_of_ble_eq_true rfl) (fun r cs1 hp => ?_)
  obtain ⟨rfl, rfl⟩ := hp
  refine z_st (st' := [.int 0]) rfl ?_
  refine z_if_ne (tgt := 14) dX10_read_7 (by decide) (fun h1 => ?_) (fun h1 => ?_)
  · first | exact absurd h1 (by decide) | exact absurd h2 (by decide) | exact absurd h3 (by decide) | exact absurd h4 (by decide) | exact absurd h5 (by decide) | exact absurd h6 (by decide) | exact absurd h7 (by decide) | exact absurd (by decide) h1 | exact absurd (by decide) h2 | exact absurd (by decide) h3 | exact absurd (by decide) h4 | exact absurd (by decide) h5 | exact absurd (by decide) h6 | exact absurd (by decide) h7
  · refine z_sipush (v := (-3001)) dX10_read_10 (by decide) ?_
    exact z_ireturn dX10_read_13 rfl (by rfl) ⟨by rfl, rfl⟩

set_option maxRecDepth 100000 in
set_option maxHeartbeats 4000000 in
theorem fx_same {G : xG} (d : Nat) (hd : 1 ≤ d) (o : Int32) : X G yX10_same cX10_same 2 (some .boolean) d [.ref (G.1 + 0), .int o] (w0 G) (fun r cs1 => r = some (.int (0)) ∧ cs1 = w0 G) := by
  refine X.of false (by decide +kernel) (by decide) (Nat.le_of_ble_eq_true rfl) ?_
  show Z (RX10, cX10_same, 2, some .boolean, false) G d _ 0 [(0, .ref (G.1 + 0)), (1, .int o)] [] (w0 G)
  refine z_aload_n dX10_same_0 rfl rfl ?_
  refine z_get kX10 fX10_42 dX10_same_1 (by rfl) (by rfl) ?_
  refine z_iload_n dX10_same_4 rfl rfl ?_
  refine z_callV (As := [_]) eX1_has sX1_has lX10_94 rfl dX10_same_5 (by rfl) (c_X1_has 0 (h := 42) (by rfl) _) (by omega) rfl (Nat.le_of_ble_eq_true rfl) (fun r cs1 hp => ?_)
  obtain ⟨rfl, rfl⟩ := hp
  refine z_st (st' := [.int 0]) (by rw [hasI_0]; rfl) ?_
  refine z_if_eq (tgt := 53) dX10_same_8 (by decide) (fun h1 => ?_) (fun h1 => ?_)
  · refine z_iconst (v := 0) dX10_same_53 (by decide) ?_
    exact z_ireturn dX10_same_54 rfl (by decide) ⟨by rfl, rfl⟩
  · first | exact absurd h1 (by decide) | exact absurd h2 (by decide) | exact absurd h3 (by decide) | exact absurd h4 (by decide) | exact absurd h5 (by decide) | exact absurd h6 (by decide) | exact absurd h7 (by decide) | exact absurd (by decide) h1 | exact absurd (by decide) h2 | exact absurd (by decide) h3 | exact absurd (by decide) h4 | exact absurd (by decide) h5 | exact absurd (by decide) h6 | exact absurd (by decide) h7

set_option maxRecDepth 100000 in
theorem c_heapAt {G : xG} {cs : List va_E} (d : Nat) {x h1 h2 : Nat} {v0 v1 v2 v3 v4 v5 v8 v9 : Value} (hx : cs[x]? = some (.inr (10, [v0, v1, v2, v3, v4, v5, .ref (G.1 + h1), .ref (G.1 + h2), v8, v9]))) (i : Int32) : X G yX10_heapAt cX10_heapAt 2 (some (.object "GraphScribe$Heap")) d [.ref (G.1 + x), .int i] cs (fun r cs1 => r = some (.ref (G.1 + (if i = 0 then h1 else h2))) ∧ cs1 = cs) := by
  refine X.of false (by decide +kernel) (by decide) (Nat.le_of_ble_eq_true rfl) ?_
  show Z (RX10, cX10_heapAt, 2, some (.object "GraphScribe$Heap"), false) G d _ 0 [(0, .ref (G.1 + x)), (1, .int i)] [] cs
  refine z_iload_n dX10_heapAt_0 rfl rfl ?_
  refine z_if_ne (tgt := 11) dX10_heapAt_1 (by decide) (fun q1 => ?_) (fun q1 => ?_)
  · refine z_aload_n dX10_heapAt_11 rfl rfl ?_
    refine z_get kX10 fX10_46 dX10_heapAt_12 hx (by rfl) ?_
    exact z_areturn dX10_heapAt_15 rfl (Or.inl ⟨_, rfl⟩) ⟨by simp [*], rfl⟩
  · refine z_aload_n dX10_heapAt_4 rfl rfl ?_
    refine z_get kX10 fX10_42 dX10_heapAt_5 hx (by rfl) ?_
    refine z_goto (tgt := 15) dX10_heapAt_8 (by decide) ?_
    exact z_areturn dX10_heapAt_15 rfl (Or.inl ⟨_, rfl⟩) ⟨by simp [*], rfl⟩
theorem hp_at (G : xG) (i : Int32) : ∃ v0 v1 v2 : Value, (w0 G)[if i = 0 then 42 else 46]? = some (.inr (1, [v0, v1, v2, .int 0])) := by
  by_cases h : i = 0
  · rw [if_pos h]; exact ⟨_, _, _, rfl⟩
  · rw [if_neg h]; exact ⟨_, _, _, rfl⟩
set_option maxRecDepth 100000 in
set_option maxHeartbeats 4000000 in
theorem fx_kind {G : xG} (d : Nat) (hd : 1 ≤ d) (i o : Int32) : X G yX10_kind cX10_kind 3 (some .int) d [.ref (G.1 + 0), .int i, .int o] (w0 G) (fun r cs1 => r = some (.int (-1)) ∧ cs1 = w0 G) := by
  refine X.of false (by decide +kernel) (by decide) (Nat.le_of_ble_eq_true rfl) ?_
  show Z (RX10, cX10_kind, 3, some .int, false) G d _ 0 [(0, .ref (G.1 + 0)), (1, .int i), (2, .int o)] [] (w0 G)
  refine z_iload_n dX10_kind_0 rfl rfl ?_
  refine z_callS (As := [_]) eX10_isHeap sX10_isHeap lX10_168 dX10_kind_1 (c_X10_isHeap 0 _) (by omega) rfl (Nat.le_of_ble_eq_true rfl) (fun r cs1 hp => ?_)
  obtain ⟨rfl, rfl⟩ := hp
  refine z_st (st' := [.int (bI (isHp i))]) rfl ?_
  refine z_if_eq (tgt := 31) dX10_kind_4 (by decide) (fun h1 => ?_) (fun h1 => ?_)
  · refine z_iconst (v := (-1)) dX10_kind_31 (by decide) ?_
    exact z_ireturn dX10_kind_32 rfl (by rfl) ⟨by rfl, rfl⟩
  · refine z_aload_n dX10_kind_7 rfl rfl ?_
    refine z_iload_n dX10_kind_8 rfl rfl ?_
    refine z_callV (As := [_]) eX10_heapAt sX10_heapAt lX10_171 rfl dX10_kind_9 (by rfl) (c_heapAt 0 (x := 0) (h1 := 42) (h2 := 46) (by rfl) _) (by omega) rfl (Nat.le_of_ble_eq_true rfl) (fun r cs1 hp => ?_)
    obtain ⟨rfl, rfl⟩ := hp
    refine z_st (st' := [.ref (G.1 + (if i = 0 then 42 else 46))]) rfl ?_
    obtain ⟨v0, v1, v2, hh⟩ := hp_at G i
    refine z_iload_n dX10_kind_12 rfl rfl ?_
    refine z_callV (As := [_]) eX1_has sX1_has lX10_94 rfl dX10_kind_13 hh (c_X1_has 0 hh _) (by omega) rfl (Nat.le_of_ble_eq_true rfl) (fun r cs1 hp => ?_)
    obtain ⟨rfl, rfl⟩ := hp
    refine z_st (st' := [.int 0]) (by rw [hasI_0]; rfl) ?_
    refine z_if_eq (tgt := 31) dX10_kind_16 (by decide) (fun h2 => ?_) (fun h2 => ?_)
    · refine z_iconst (v := (-1)) dX10_kind_31 (by decide) ?_
      exact z_ireturn dX10_kind_32 rfl (by rfl) ⟨by rfl, rfl⟩
    · first | exact absurd h1 (by decide) | exact absurd h2 (by decide) | exact absurd h3 (by decide) | exact absurd h4 (by decide) | exact absurd h5 (by decide) | exact absurd h6 (by decide) | exact absurd h7 (by decide) | exact absurd (by decide) h1 | exact absurd (by decide) h2 | exact absurd (by decide) h3 | exact absurd (by decide) h4 | exact absurd (by decide) h5 | exact absurd (by decide) h6 | exact absurd (by decide) h7

set_option maxRecDepth 100000 in
set_option maxHeartbeats 4000000 in
theorem fx_value {G : xG} (d : Nat) (hd : 2 ≤ d) (i o f j : Int32) : X G yX10_value cX10_value 7 (some .int) d [.ref (G.1 + 0), .int i, .int o, .int f, .int j] (w0 G) (fun r cs1 => r = some (.int (0)) ∧ cs1 = w0 G) := by
  refine X.of false (by decide +kernel) (by decide) (Nat.le_of_ble_eq_true rfl) ?_
  show Z (RX10, cX10_value, 7, some .int, false) G d _ 0 [(0, .ref (G.1 + 0)), (1, .int i), (2, .int o), (3, .int f), (4, .int j)] [] (w0 G)
  refine z_iload_n dX10_value_0 rfl rfl ?_
  refine z_callS (As := [_]) eX10_isHeap sX10_isHeap lX10_168 dX10_value_1 (c_X10_isHeap 0 _) (by omega) rfl (Nat.le_of_ble_eq_true rfl) (fun r cs1 hp => ?_)
  obtain ⟨rfl, rfl⟩ := hp
  refine z_st (st' := [.int (bI (isHp i))]) rfl ?_
  refine z_if_ne (tgt := 9) dX10_value_4 (by decide) (fun h1 => ?_) (fun h1 => ?_)
  · refine z_aload_n dX10_value_9 rfl rfl ?_
    refine z_aload_n dX10_value_10 rfl rfl ?_
    refine z_iload_n dX10_value_11 rfl rfl ?_
    refine z_callV (As := [_]) eX10_heapAt sX10_heapAt lX10_171 rfl dX10_value_12 (by rfl) (c_heapAt 0 (x := 0) (h1 := 42) (h2 := 46) (by rfl) _) (by omega) rfl (Nat.le_of_ble_eq_true rfl) (fun r cs1 hp => ?_)
    obtain ⟨rfl, rfl⟩ := hp
    refine z_st (st' := [.ref (G.1 + (if i = 0 then 42 else 46)), .ref (G.1 + 0)]) rfl ?_
    obtain ⟨v0, v1, v2, hh⟩ := hp_at G i
    refine z_iload_n dX10_value_15 rfl rfl ?_
    refine z_iload_n dX10_value_16 rfl rfl ?_
    refine z_callV (As := [_, _, _]) eX10_shapeIn sX10_shapeIn lX10_90 rfl dX10_value_17 (by rfl) (c_shapeIn0 1 (Nat.le_refl _) hh _ _) (by omega) rfl (Nat.le_of_ble_eq_true rfl) (fun r cs1 hp => ?_)
    obtain ⟨rfl, rfl⟩ := hp
    refine z_st (st' := [.int 0]) rfl ?_
    refine z_istore dX10_value_20 (by decide) ?_
    refine z_iload dX10_value_22 rfl ?_
    refine z_if_ne (tgt := 29) dX10_value_24 (by decide) (fun h2 => ?_) (fun h2 => ?_)
    · first | exact absurd h1 (by decide) | exact absurd h2 (by decide) | exact absurd h3 (by decide) | exact absurd h4 (by decide) | exact absurd h5 (by decide) | exact absurd h6 (by decide) | exact absurd h7 (by decide) | exact absurd (by decide) h1 | exact absurd (by decide) h2 | exact absurd (by decide) h3 | exact absurd (by decide) h4 | exact absurd (by decide) h5 | exact absurd (by decide) h6 | exact absurd (by decide) h7
    · refine z_iconst (v := 0) dX10_value_27 (by decide) ?_
      exact z_ireturn dX10_value_28 rfl (by rfl) ⟨by rfl, rfl⟩
  · refine z_iconst (v := 0) dX10_value_7 (by decide) ?_
    exact z_ireturn dX10_value_8 rfl (by rfl) ⟨by rfl, rfl⟩

theorem sg_0 (G : xG) : Sg G (w0 G) 1 2 64 [] false := ⟨fun _ => 0, rfl, rfl, by decide, by decide, by decide, by decide, fun j h => absurd h (Nat.not_lt_zero _), fun x h => absurd h List.not_mem_nil⟩
theorem sg_20 (G : xG) : Sg G (w0 G) 20 21 64 [] false := ⟨fun _ => 0, rfl, rfl, by decide, by decide, by decide, by decide, fun j h => absurd h (Nat.not_lt_zero _), fun x h => absurd h List.not_mem_nil⟩
theorem sgHas_0 (i : Int32) : sgHas [] i = false := hasI_0 i
set_option maxRecDepth 100000 in
set_option maxHeartbeats 4000000 in
theorem fx_sign {G : xG} (d : Nat) (hd : 1 ≤ d) (i : Int32) : X G yX10_sign cX10_sign 2 (some .int) d [.ref (G.1 + 0), .int i] (w0 G) (fun r cs1 => r = some (.int (-1)) ∧ cs1 = w0 G) := by
  refine X.of false (by decide +kernel) (by decide) (Nat.le_of_ble_eq_true rfl) ?_
  show Z (RX10, cX10_sign, 2, some .int, false) G d _ 0 [(0, .ref (G.1 + 0)), (1, .int i)] [] (w0 G)
  refine z_aload_n dX10_sign_0 rfl rfl ?_
  refine z_get kX10 fX10_23 dX10_sign_1 (by rfl) (by rfl) ?_
  refine z_iload_n dX10_sign_4 rfl rfl ?_
  refine z_callV (As := [_]) eX5_has sX5_has lX10_128 rfl dX10_sign_5 (by rfl) (c_X5_has 0 (sg_20 G) _) (by omega) rfl (Nat.le_of_ble_eq_true rfl) (fun r cs1 hp => ?_)
  obtain ⟨rfl, rfl⟩ := hp
  refine z_st (st' := [.int 0]) (by rw [sgHas_0]; rfl) ?_
  refine z_if_eq (tgt := 22) dX10_sign_8 (by decide) (fun h1 => ?_) (fun h1 => ?_)
  · refine z_iconst (v := (-1)) dX10_sign_22 (by decide) ?_
    exact z_ireturn dX10_sign_23 rfl (by rfl) ⟨by rfl, rfl⟩
  · first | exact absurd h1 (by decide) | exact absurd h2 (by decide) | exact absurd h3 (by decide) | exact absurd h4 (by decide) | exact absurd h5 (by decide) | exact absurd h6 (by decide) | exact absurd h7 (by decide) | exact absurd (by decide) h1 | exact absurd (by decide) h2 | exact absurd (by decide) h3 | exact absurd (by decide) h4 | exact absurd (by decide) h5 | exact absurd (by decide) h6 | exact absurd (by decide) h7

/-- the model's cells as they were -/
def Mf (G : xG) (cs : List va_E) : Prop := ∀ k, k < 53 → cs[54 + k]? = (wM G)[k]?
theorem wX_len (G : xG) : (wX G).length = 54 := rfl
theorem wM_len (G : xG) : (wM G).length = 53 := rfl
theorem w0_len (G : xG) : (w0 G).length = 107 := by unfold w0; rw [List.length_append, wX_len, wM_len]
theorem Mf_0 (G : xG) : Mf G (w0 G) := by
  intro k hk
  unfold w0
  rw [List.getElem?_append_right (by rw [wX_len]; omega), wX_len]
  congr 1
  omega
theorem Mf.set {G : xG} {cs : List va_E} {j : Nat} {e : va_E} (h : Mf G cs) (hj : j < 54) : Mf G (cs.set j e) := by
  intro k hk
  rw [List.getElem?_set_ne (by omega)]
  exact h k hk
theorem w0_Z (G : xG) : xZ (w0 G) ≤ 100000 := by
  have e : (w0 G).map xSzE = (10 :: 3 :: 64 :: 18 :: 3 :: 64 :: 200 :: 200 :: 200 :: 200 :: 200 :: 200 :: 200 :: 200 :: 200 :: 200 :: 600 :: 600 :: 600 :: 600 :: 3 :: 64 :: 3 :: 64 :: 9 :: 480 :: 30 :: 24 :: 24 :: 6 :: 6 :: 6 :: 6 :: 9 :: 480 :: 30 :: 24 :: 24 :: 6 :: 6 :: 6 :: 6 :: 4 :: 30 :: 120 :: 2400 :: 4 :: 30 :: 120 :: 2400 :: 4 :: 30 :: 120 :: 2400 :: 72 :: 3000 :: 6 :: 30 :: 240 :: 24 :: 24 :: 6 :: 6 :: 30 :: 240 :: 24 :: 24 :: 3 :: 90 :: 360 :: 7200 :: 3000 :: 900 :: 900 :: 900 :: 30 :: 30 :: 24 :: 24 :: 24 :: 24 :: 24 :: 24 :: 3001 :: 3000 :: 200 :: 200 :: 200 :: 200 :: 200 :: 200 :: 200 :: 600 :: 600 :: 600 :: 600 :: 3000 :: 3000 :: 200 :: 200 :: 200 :: 200 :: 200 :: 120 :: 3000 :: 30 :: 30 :: []) := rfl
  unfold xZ
  rw [e]
  decide
set_option maxRecDepth 100000 in
set_option maxHeartbeats 4000000 in
theorem fx_unit {G : xG} (d : Nat) (hd : 2 ≤ d) (u : Int32) : X G yX10_unit cX10_unit 2 (some .boolean) d [.ref (G.1 + 0), .int u] (w0 G) (fun r cs1 => r = some (.int (bI (isSgn u))) ∧ Mf G cs1) := by
  refine X.of false (by decide +kernel) (by decide) (Nat.le_of_ble_eq_true rfl) ?_
  show Z (RX10, cX10_unit, 2, some .boolean, false) G d _ 0 [(0, .ref (G.1 + 0)), (1, .int u)] [] (w0 G)
  refine z_iload_n dX10_unit_0 rfl rfl ?_
  refine z_callS (As := [_]) eX10_isSign sX10_isSign lX10_56 dX10_unit_1 (c_X10_isSign 0 _) (by omega) rfl (Nat.le_of_ble_eq_true rfl) (fun r cs1 hp => ?_)
  obtain ⟨rfl, rfl⟩ := hp
  refine z_st (st' := [.int (bI (isSgn u))]) rfl ?_
  refine z_if_eq (tgt := 22) dX10_unit_4 (by decide) (fun h1 => ?_) (fun h1 => ?_)
  · first
      | (refine z_iconst (v := 0) dX10_unit_22 (by decide) ?_; exact z_ireturn dX10_unit_23 rfl (by decide) ⟨by rw [bI_0 h1]; rfl, Mf_0 G⟩)
      | exact absurd h2 (by decide)
  · refine z_aload_n dX10_unit_7 rfl rfl ?_
    refine z_get kX10 fX10_12 dX10_unit_8 (by rfl) (by rfl) ?_
    refine z_iload_n dX10_unit_11 rfl rfl ?_
    refine z_callV (As := [_]) eX5_put sX5_put lX10_60 rfl dX10_unit_12 (by rfl) (c_X5_put 1 (Nat.le_refl _) (sg_0 G) (by have := w0_Z G; have := w0_len G; unfold Rm pz; rw [if_pos (by decide)]; omega) _) (by omega) rfl (Nat.le_of_ble_eq_true rfl) (fun r cs1 hp => ?_)
    obtain ⟨rfl, r1, n1, -, hF⟩ := hp
    refine z_st (st' := [.int 1]) rfl ?_
    refine z_if_eq (tgt := 22) dX10_unit_15 (by decide) (fun h2 => ?_) (fun h2 => ?_)
    · first
        | (refine z_iconst (v := 0) dX10_unit_22 (by decide) ?_; exact z_ireturn dX10_unit_23 rfl (by decide) ⟨by rw [bI_0 h1]; rfl, Mf_0 G⟩)
        | exact absurd h2 (by decide)
    · refine z_iconst (v := 1) dX10_unit_18 (by decide) ?_
      refine z_goto (tgt := 23) dX10_unit_19 (by decide) ?_
      exact z_ireturn dX10_unit_23 rfl (by decide) ⟨by rw [bI_n h1]; rfl, fun k hk => by rw [hF.2.2.1 (54 + k) (by rw [w0_len]; omega) (by omega) (by omega)]; exact Mf_0 G k hk⟩

def limV (m : Int32) : Int32 := if m < 1 then -1 else if m ≤ 20 then 10 else -1
set_option maxRecDepth 100000 in
set_option maxHeartbeats 4000000 in
theorem fx_limit {G : xG} (d : Nat) (m : Int32) : X G yX10_limit cX10_limit 3 (some .int) d [.ref (G.1 + 0), .int m] (w0 G) (fun r cs1 => r = some (.int (limV m)) ∧ Mf G cs1) := by
  refine X.of false (by decide +kernel) (by decide) (Nat.le_of_ble_eq_true rfl) ?_
  show Z (RX10, cX10_limit, 3, some .int, false) G d _ 0 [(0, .ref (G.1 + 0)), (1, .int m)] [] (w0 G)
  refine z_iload_n dX10_limit_0 rfl rfl ?_
  refine z_iconst (v := 1) dX10_limit_1 (by decide) ?_
  refine z_icmp_lt (tgt := 11) dX10_limit_2 (by decide) (fun h1 => ?_) (fun h1 => ?_)
  · refine z_iconst (v := (-1)) dX10_limit_11 (by decide) ?_
    exact z_ireturn dX10_limit_12 rfl (by rfl) ⟨by simp [limV, *], Mf_0 G⟩
  · refine z_iload_n dX10_limit_5 rfl rfl ?_
    refine z_bipush (v := 20) dX10_limit_6 (by decide) ?_
    refine z_icmp_le (tgt := 13) dX10_limit_8 (by decide) (fun h2 => ?_) (fun h2 => ?_)
    · refine z_aload_n dX10_limit_13 rfl rfl ?_
      refine z_get kX10 fX10_52 dX10_limit_14 (by rfl) (by rfl) ?_
      refine z_istore_n dX10_limit_17 rfl (by decide) ?_
      refine z_aload_n dX10_limit_18 rfl rfl ?_
      refine z_iload_n dX10_limit_19 rfl rfl ?_
      refine z_put kX10 fX10_52 dX10_limit_20 rfl (by rfl) (by rfl) (by rfl) (Nat.le_of_ble_eq_true rfl) ?_
      refine z_iload_n dX10_limit_23 rfl rfl ?_
      exact z_ireturn dX10_limit_24 rfl (by rfl) ⟨by simp [limV, *], (Mf_0 G).set (by decide)⟩
    · refine z_iconst (v := (-1)) dX10_limit_11 (by decide) ?_
      exact z_ireturn dX10_limit_12 rfl (by rfl) ⟨by simp [limV, *], Mf_0 G⟩

set_option maxRecDepth 100000 in
set_option maxHeartbeats 4000000 in
theorem c_become0 {G : xG} {cs : List va_E} (d : Nat) (hd : 1 ≤ d) {a r n b rb nb : Nat} {t : List Int32} {ov ob : Bool} (ha : Sg G cs a r n t ov) (hb : Sg G cs b rb nb [] ob) (hab : a ≠ b) (harb : a ≠ rb) : X G yX5_become cX5_become 3 none d [.ref (G.1 + a), .ref (G.1 + b)] cs (fun r1 cs1 => r1 = none ∧ cs1 = cs.set a (.inr (5, [.ref (G.1 + r), .int (nI ([] : List Int32).length), .int (bI false)]))) := by
  refine X.of false (by decide +kernel) (by decide) (Nat.le_of_ble_eq_true rfl) ?_
  show Z (RX5, cX5_become, 3, none, false) G d _ 0 [(0, .ref (G.1 + a)), (1, .ref (G.1 + b))] [] cs
  have hs := ha.choose_spec.1
  refine z_aload_n dX5_become_0 rfl rfl ?_
  refine z_callV (As := []) eX5_clear sX5_clear lX5_48 rfl dX5_become_1 hs (c_X5_clear 0 ha) (by omega) rfl (Nat.le_of_ble_eq_true rfl) (fun r cs1 hp => ?_)
  obtain ⟨rfl, rfl⟩ := hp
  have hb1 : Sg G (cs.set a (.inr (5, [.ref (G.1 + r), .int (nI ([] : List Int32).length), .int (bI false)]))) b rb nb [] ob := by
    obtain ⟨f, q1, q2, q3⟩ := hb
    exact ⟨f, set_ne hab q1, set_ne harb q2, q3⟩
  refine z_st (st' := []) rfl ?_
  refine z_iconst (v := 0) dX5_become_4 (by decide) ?_
  refine z_istore_n dX5_become_5 rfl (by decide) ?_
  refine z_iload_n dX5_become_6 rfl rfl ?_
  refine z_aload_n dX5_become_7 rfl rfl ?_
  refine z_callV (As := []) eX5_length sX5_length lX5_51 rfl dX5_become_8 (hb1.choose_spec.1) (c_X5_length 0 hb1) (by omega) rfl (Nat.le_of_ble_eq_true rfl) (fun r cs1 hp => ?_)
  obtain ⟨rfl, rfl⟩ := hp
  refine z_st (st' := [.int 0, .int 0]) rfl ?_
  refine z_icmp_ge (tgt := 30) dX5_become_11 (by decide) (fun h1 => ?_) (fun h1 => ?_)
  · exact z_return dX5_become_30 rfl ⟨rfl, rfl⟩
  · first | exact absurd h1 (by decide) | exact absurd h2 (by decide) | exact absurd h3 (by decide) | exact absurd h4 (by decide) | exact absurd h5 (by decide) | exact absurd h6 (by decide) | exact absurd h7 (by decide) | exact absurd (by decide) h1 | exact absurd (by decide) h2 | exact absurd (by decide) h3 | exact absurd (by decide) h4 | exact absurd (by decide) h5 | exact absurd (by decide) h6 | exact absurd (by decide) h7

set_option maxRecDepth 100000 in
set_option maxHeartbeats 4000000 in
theorem fx_take {G : xG} (d : Nat) (hd : 2 ≤ d) : X G yX10_take cX10_take 1 (some .int) d [.ref (G.1 + 0)] (w0 G) (fun r cs1 => r = some (.int (0)) ∧ Mf G cs1) := by
  refine X.of false (by decide +kernel) (by decide) (Nat.le_of_ble_eq_true rfl) ?_
  show Z (RX10, cX10_take, 1, some .int, false) G d _ 0 [(0, .ref (G.1 + 0))] [] (w0 G)
  refine z_aload_n dX10_take_0 rfl rfl ?_
  refine z_get kX10 fX10_12 dX10_take_1 (by rfl) (by rfl) ?_
  refine z_aload_n dX10_take_4 rfl rfl ?_
  refine z_get kX10 fX10_23 dX10_take_5 (by rfl) (by rfl) ?_
  refine z_callV (As := [_]) eX5_become sX5_become lX10_132 rfl dX10_take_8 (by rfl) (c_become0 1 (Nat.le_refl _) (sg_0 G) (sg_20 G) (by decide) (by decide)) (by omega) rfl (Nat.le_of_ble_eq_true rfl) (fun r cs1 hp => ?_)
  obtain ⟨rfl, rfl⟩ := hp
  refine z_st (st' := []) rfl ?_
  refine z_aload_n dX10_take_11 rfl rfl ?_
  refine z_get kX10 fX10_12 dX10_take_12 (by rfl) (by rfl) ?_
  refine z_callV (As := []) eX5_length sX5_length lX10_101 rfl dX10_take_15 (by rfl) (c_X5_length 0 (sg_0 G).cleared.1) (by omega) rfl (Nat.le_of_ble_eq_true rfl) (fun r cs1 hp => ?_)
  obtain ⟨rfl, rfl⟩ := hp
  refine z_st (st' := [.int 0]) rfl ?_
  exact z_ireturn dX10_take_18 rfl (by rfl) ⟨by rfl, (Mf_0 G).set (by decide)⟩

set_option maxRecDepth 100000 in
set_option maxHeartbeats 4000000 in
theorem c_isForbidden0 {G : xG} {cs : List va_E} (d : Nat) (hd : 1 ≤ d) {h : Nat} {v0 v1 v2 v3 v4 v5 v6 v7 : Value} (hh : cs[h]? = some (.inr (4, [v0, v1, v2, v3, v4, v5, v6, v7, .int 0]))) (c : Int32) : X G yX4_isForbidden cX4_isForbidden 2 (some .boolean) d [.ref (G.1 + h), .int c] cs (fun r cs1 => r = some (.int 0) ∧ cs1 = cs) := by
  refine X.of false (by decide +kernel) (by decide) (Nat.le_of_ble_eq_true rfl) ?_
  show Z (RX4, cX4_isForbidden, 2, some .boolean, false) G d _ 0 [(0, .ref (G.1 + h)), (1, .int c)] [] cs
  refine z_aload_n dX4_isForbidden_0 rfl rfl ?_
  refine z_iload_n dX4_isForbidden_1 rfl rfl ?_
  refine z_callV (As := [_]) eX4_isClass sX4_isClass lX4_42 rfl dX4_isForbidden_2 hh (c_X4_isClass 0 hh _) (by omega) rfl (Nat.le_of_ble_eq_true rfl) (fun r cs1 hp => ?_)
  obtain ⟨rfl, rfl⟩ := hp
  refine z_st (st' := [.int 0]) (by rw [hasI_0]; rfl) ?_
  refine z_if_eq (tgt := 21) dX4_isForbidden_5 (by decide) (fun h1 => ?_) (fun h1 => ?_)
  · refine z_iconst (v := 0) dX4_isForbidden_21 (by decide) ?_
    exact z_ireturn dX4_isForbidden_22 rfl (by decide) ⟨rfl, rfl⟩
  · first | exact absurd h1 (by decide) | exact absurd h2 (by decide) | exact absurd h3 (by decide) | exact absurd h4 (by decide) | exact absurd h5 (by decide) | exact absurd h6 (by decide) | exact absurd h7 (by decide) | exact absurd (by decide) h1 | exact absurd (by decide) h2 | exact absurd (by decide) h3 | exact absurd (by decide) h4 | exact absurd (by decide) h5 | exact absurd (by decide) h6 | exact absurd (by decide) h7

set_option maxRecDepth 100000 in
set_option maxHeartbeats 4000000 in
theorem c_putForbidden0 {G : xG} {cs : List va_E} (d : Nat) (hd : 1 ≤ d) {h : Nat} {v0 v1 v2 v3 v4 v5 v6 v7 : Value} (hh : cs[h]? = some (.inr (4, [v0, v1, v2, v3, v4, v5, v6, v7, .int 0]))) (c b : Int32) : X G yX4_putForbidden cX4_putForbidden 3 none d [.ref (G.1 + h), .int c, .int b] cs (fun r cs1 => r = none ∧ cs1 = cs) := by
  refine X.of false (by decide +kernel) (by decide) (Nat.le_of_ble_eq_true rfl) ?_
  show Z (RX4, cX4_putForbidden, 3, none, false) G d _ 0 [(0, .ref (G.1 + h)), (1, .int c), (2, .int b)] [] cs
  refine z_aload_n dX4_putForbidden_0 rfl rfl ?_
  refine z_iload_n dX4_putForbidden_1 rfl rfl ?_
  refine z_callV (As := [_]) eX4_isClass sX4_isClass lX4_42 rfl dX4_putForbidden_2 hh (c_X4_isClass 0 hh _) (by omega) rfl (Nat.le_of_ble_eq_true rfl) (fun r cs1 hp => ?_)
  obtain ⟨rfl, rfl⟩ := hp
  refine z_st (st' := [.int 0]) (by rw [hasI_0]; rfl) ?_
  refine z_if_eq (tgt := 15) dX4_putForbidden_5 (by decide) (fun h1 => ?_) (fun h1 => ?_)
  · exact z_return dX4_putForbidden_15 rfl ⟨rfl, rfl⟩
  · first | exact absurd h1 (by decide) | exact absurd h2 (by decide) | exact absurd h3 (by decide) | exact absurd h4 (by decide) | exact absurd h5 (by decide) | exact absurd h6 (by decide) | exact absurd h7 (by decide) | exact absurd (by decide) h1 | exact absurd (by decide) h2 | exact absurd (by decide) h3 | exact absurd (by decide) h4 | exact absurd (by decide) h5 | exact absurd (by decide) h6 | exact absurd (by decide) h7

set_option maxRecDepth 100000 in
set_option maxHeartbeats 4000000 in
theorem fx_forbid {G : xG} (d : Nat) (hd : 2 ≤ d) (c b : Int32) : X G yX10_forbid cX10_forbid 4 (some .boolean) d [.ref (G.1 + 0), .int c, .int b] (w0 G) (fun r cs1 => r = some (.int (0)) ∧ cs1 = w0 G) := by
  refine X.of false (by decide +kernel) (by decide) (Nat.le_of_ble_eq_true rfl) ?_
  show Z (RX10, cX10_forbid, 4, some .boolean, false) G d _ 0 [(0, .ref (G.1 + 0)), (1, .int c), (2, .int b)] [] (w0 G)
  refine z_aload_n dX10_forbid_0 rfl rfl ?_
  refine z_get kX10 fX10_32 dX10_forbid_1 (by rfl) (by rfl) ?_
  refine z_iload_n dX10_forbid_4 rfl rfl ?_
  refine z_callV (As := [_]) eX4_isForbidden sX4_isForbidden lX10_136 rfl dX10_forbid_5 (by rfl) (c_isForbidden0 1 (Nat.le_refl _) (h := 24) (by rfl) _) (by omega) rfl (Nat.le_of_ble_eq_true rfl) (fun r cs1 hp => ?_)
  obtain ⟨rfl, rfl⟩ := hp
  refine z_st (st' := [.int 0]) rfl ?_
  refine z_istore_n dX10_forbid_8 rfl (by decide) ?_
  refine z_aload_n dX10_forbid_9 rfl rfl ?_
  refine z_get kX10 fX10_32 dX10_forbid_10 (by rfl) (by rfl) ?_
  refine z_iload_n dX10_forbid_13 rfl rfl ?_
  refine z_iload_n dX10_forbid_14 rfl rfl ?_
  refine z_callV (As := [_, _]) eX4_putForbidden sX4_putForbidden lX10_139 rfl dX10_forbid_15 (by rfl) (c_putForbidden0 1 (Nat.le_refl _) (h := 24) (by rfl) _ _) (by omega) rfl (Nat.le_of_ble_eq_true rfl) (fun r cs1 hp => ?_)
  obtain ⟨rfl, rfl⟩ := hp
  refine z_st (st' := []) rfl ?_
  refine z_iload_n dX10_forbid_18 rfl rfl ?_
  exact z_ireturn dX10_forbid_19 rfl (by rfl) ⟨by rfl, rfl⟩

theorem ti_ne {x : Int32} {k : Int} (y : Int32) (hy : y.toInt = k) (h : ¬ x = y) : x.toInt ≠ k := fun e => h (Int32.toInt_inj.mp (e.trans hy.symm))
def cntV (w : Int32) : Int32 := if w = 0 then 0 else if w = 1 then 0 else if w = 2 then 0 else if w = 3 then 0 else if w = 4 then 0 else if w = 5 then 0 else -1
set_option maxRecDepth 100000 in
set_option maxHeartbeats 4000000 in
theorem c_forbiddenSize0 {G : xG} {cs : List va_E} (d : Nat) {h : Nat} {v0 v1 v2 v3 v4 v5 v6 v7 : Value} (hh : cs[h]? = some (.inr (4, [v0, v1, v2, v3, v4, v5, v6, v7, .int 0]))) : X G yX4_forbiddenSize cX4_forbiddenSize 3 (some .int) d [.ref (G.1 + h)] cs (fun r cs1 => r = some (.int 0) ∧ cs1 = cs) := by
  refine X.of false (by decide +kernel) (by decide) (Nat.le_of_ble_eq_true rfl) ?_
  show Z (RX4, cX4_forbiddenSize, 3, some .int, false) G d _ 0 [(0, .ref (G.1 + h))] [] cs
  refine z_iconst (v := 0) dX4_forbiddenSize_0 (by decide) ?_
  refine z_istore_n dX4_forbiddenSize_1 rfl (by decide) ?_
  refine z_iconst (v := 0) dX4_forbiddenSize_2 (by decide) ?_
  refine z_istore_n dX4_forbiddenSize_3 rfl (by decide) ?_
  refine z_iload_n dX4_forbiddenSize_4 rfl rfl ?_
  refine z_aload_n dX4_forbiddenSize_5 rfl rfl ?_
  refine z_get kX4 fX4_38 dX4_forbiddenSize_6 (by assumption) (by rfl) ?_
  refine z_icmp_ge (tgt := 30) dX4_forbiddenSize_9 (by decide) (fun h1 => ?_) (fun h1 => ?_)
  · refine z_iload_n dX4_forbiddenSize_30 rfl rfl ?_
    exact z_ireturn dX4_forbiddenSize_31 rfl (by rfl) ⟨rfl, rfl⟩
  · first | exact absurd h1 (by decide) | exact absurd h2 (by decide) | exact absurd h3 (by decide) | exact absurd h4 (by decide) | exact absurd h5 (by decide) | exact absurd h6 (by decide) | exact absurd h7 (by decide) | exact absurd (by decide) h1 | exact absurd (by decide) h2 | exact absurd (by decide) h3 | exact absurd (by decide) h4 | exact absurd (by decide) h5 | exact absurd (by decide) h6 | exact absurd (by decide) h7

set_option maxRecDepth 100000 in
set_option maxHeartbeats 4000000 in
theorem fx_count {G : xG} (d : Nat) (hd : 1 ≤ d) (w : Int32) : X G yX10_count cX10_count 2 (some .int) d [.ref (G.1 + 0), .int w] (w0 G) (fun r cs1 => r = some (.int (cntV w)) ∧ cs1 = w0 G) := by
  refine X.of false (by decide +kernel) (by decide) (Nat.le_of_ble_eq_true rfl) ?_
  show Z (RX10, cX10_count, 2, some .int, false) G d _ 0 [(0, .ref (G.1 + 0)), (1, .int w)] [] (w0 G)
  refine z_iload_n dX10_count_0 rfl rfl ?_
  by_cases g0 : w = 0
  · subst g0
    refine z_tableIn (tgt := 40) dX10_count_1 (by decide) (by decide) rfl (by decide) ?_
    refine z_aload_n dX10_count_40 rfl rfl ?_
    refine z_get kX10 fX10_32 dX10_count_41 (by rfl) (by rfl) ?_
    refine z_callV (As := []) eX4_size sX4_size lX10_76 rfl dX10_count_44 (by rfl) (c_X4_size 0 (h := 24) (by rfl)) (by omega) rfl (Nat.le_of_ble_eq_true rfl) (fun r cs1 hp => ?_)
    obtain ⟨rfl, rfl⟩ := hp
    refine z_st (st' := [.int 0]) rfl ?_
    exact z_ireturn dX10_count_47 rfl (by rfl) ⟨by rfl, rfl⟩
  by_cases g1 : w = 1
  · subst g1
    refine z_tableIn (tgt := 48) dX10_count_1 (by decide) (by decide) rfl (by decide) ?_
    refine z_aload_n dX10_count_48 rfl rfl ?_
    refine z_get kX10 fX10_42 dX10_count_49 (by rfl) (by rfl) ?_
    refine z_callV (As := []) eX1_size sX1_size lX10_158 rfl dX10_count_52 (by rfl) (c_X1_size 0 (h := 42) (by rfl)) (by omega) rfl (Nat.le_of_ble_eq_true rfl) (fun r cs1 hp => ?_)
    obtain ⟨rfl, rfl⟩ := hp
    refine z_st (st' := [.int 0]) rfl ?_
    exact z_ireturn dX10_count_55 rfl (by rfl) ⟨by rfl, rfl⟩
  by_cases g2 : w = 2
  · subst g2
    refine z_tableIn (tgt := 56) dX10_count_1 (by decide) (by decide) rfl (by decide) ?_
    refine z_aload_n dX10_count_56 rfl rfl ?_
    refine z_get kX10 fX10_46 dX10_count_57 (by rfl) (by rfl) ?_
    refine z_callV (As := []) eX1_size sX1_size lX10_158 rfl dX10_count_60 (by rfl) (c_X1_size 0 (h := 46) (by rfl)) (by omega) rfl (Nat.le_of_ble_eq_true rfl) (fun r cs1 hp => ?_)
    obtain ⟨rfl, rfl⟩ := hp
    refine z_st (st' := [.int 0]) rfl ?_
    exact z_ireturn dX10_count_63 rfl (by rfl) ⟨by rfl, rfl⟩
  by_cases g3 : w = 3
  · subst g3
    refine z_tableIn (tgt := 64) dX10_count_1 (by decide) (by decide) rfl (by decide) ?_
    refine z_aload_n dX10_count_64 rfl rfl ?_
    refine z_get kX10 fX10_23 dX10_count_65 (by rfl) (by rfl) ?_
    refine z_callV (As := []) eX5_length sX5_length lX10_101 rfl dX10_count_68 (by rfl) (c_X5_length 0 (sg_20 G)) (by omega) rfl (Nat.le_of_ble_eq_true rfl) (fun r cs1 hp => ?_)
    obtain ⟨rfl, rfl⟩ := hp
    refine z_st (st' := [.int 0]) rfl ?_
    exact z_ireturn dX10_count_71 rfl (by rfl) ⟨by rfl, rfl⟩
  by_cases g4 : w = 4
  · subst g4
    refine z_tableIn (tgt := 72) dX10_count_1 (by decide) (by decide) rfl (by decide) ?_
    refine z_aload_n dX10_count_72 rfl rfl ?_
    refine z_get kX10 fX10_12 dX10_count_73 (by rfl) (by rfl) ?_
    refine z_callV (As := []) eX5_length sX5_length lX10_101 rfl dX10_count_76 (by rfl) (c_X5_length 0 (sg_0 G)) (by omega) rfl (Nat.le_of_ble_eq_true rfl) (fun r cs1 hp => ?_)
    obtain ⟨rfl, rfl⟩ := hp
    refine z_st (st' := [.int 0]) rfl ?_
    exact z_ireturn dX10_count_79 rfl (by rfl) ⟨by rfl, rfl⟩
  by_cases g5 : w = 5
  · subst g5
    refine z_tableIn (tgt := 80) dX10_count_1 (by decide) (by decide) rfl (by decide) ?_
    refine z_aload_n dX10_count_80 rfl rfl ?_
    refine z_get kX10 fX10_32 dX10_count_81 (by rfl) (by rfl) ?_
    refine z_callV (As := []) eX4_forbiddenSize sX4_forbiddenSize lX10_184 rfl dX10_count_84 (by rfl) (c_forbiddenSize0 0 (h := 24) (by rfl)) (by omega) rfl (Nat.le_of_ble_eq_true rfl) (fun r cs1 hp => ?_)
    obtain ⟨rfl, rfl⟩ := hp
    refine z_st (st' := [.int 0]) rfl ?_
    exact z_ireturn dX10_count_87 rfl (by rfl) ⟨by rfl, rfl⟩
  have t0 := ti_ne (k := 0) 0 (by decide) g0; have t1 := ti_ne (k := 1) 1 (by decide) g1; have t2 := ti_ne (k := 2) 2 (by decide) g2; have t3 := ti_ne (k := 3) 3 (by decide) g3; have t4 := ti_ne (k := 4) 4 (by decide) g4; have t5 := ti_ne (k := 5) 5 (by decide) g5
  refine z_tableOut (tgt := 88) dX10_count_1 (by omega) (by decide) ?_
  refine z_iconst (v := (-1)) dX10_count_88 (by decide) ?_
  exact z_ireturn dX10_count_89 rfl (by rfl) ⟨by simp [cntV, *], rfl⟩

def isDg (u : Int32) : Bool := if u < 48 then false else if 57 < u then false else true
def isLt (u : Int32) : Bool := if u < 97 then (if u < 65 then false else if 90 < u then false else true) else if u ≤ 122 then true else if u < 65 then false else if 90 < u then false else true
def isNs (u : Int32) : Bool := isLt u || isDg u || decide (u = 95) || decide (u = 36)
set_option maxRecDepth 100000 in
set_option maxHeartbeats 4000000 in
theorem c_X10_isDigit {G : xG} {cs : List va_E} (d : Nat) (u : Int32) : X G yX10_isDigit cX10_isDigit 1 (some .boolean) d [.int u] cs (fun r cs1 => r = some (.int (bI (isDg u))) ∧ cs1 = cs) := by
  refine X.of false (by decide +kernel) (by decide) (Nat.le_of_ble_eq_true rfl) ?_
  show Z (RX10, cX10_isDigit, 1, some .boolean, false) G d _ 0 [(0, .int u)] [] cs
  refine z_iload_n dX10_isDigit_0 rfl rfl ?_
  refine z_bipush (v := 48) dX10_isDigit_1 (by decide) ?_
  refine z_icmp_lt (tgt := 16) dX10_isDigit_3 (by decide) (fun h1 => ?_) (fun h1 => ?_)
  · refine z_iconst (v := 0) dX10_isDigit_16 (by decide) ?_
    exact z_ireturn dX10_isDigit_17 rfl (by decide) ⟨by simp [isDg, bI, *], rfl⟩
  · refine z_iload_n dX10_isDigit_6 rfl rfl ?_
    refine z_bipush (v := 57) dX10_isDigit_7 (by decide) ?_
    refine z_icmp_gt (tgt := 16) dX10_isDigit_9 (by decide) (fun h2 => ?_) (fun h2 => ?_)
    · refine z_iconst (v := 0) dX10_isDigit_16 (by decide) ?_
      exact z_ireturn dX10_isDigit_17 rfl (by decide) ⟨by simp [isDg, bI, *], rfl⟩
    · refine z_iconst (v := 1) dX10_isDigit_12 (by decide) ?_
      refine z_goto (tgt := 17) dX10_isDigit_13 (by decide) ?_
      exact z_ireturn dX10_isDigit_17 rfl (by decide) ⟨by simp [isDg, bI, *], rfl⟩

set_option maxRecDepth 100000 in
set_option maxHeartbeats 4000000 in
theorem c_X10_isLetter {G : xG} {cs : List va_E} (d : Nat) (u : Int32) : X G yX10_isLetter cX10_isLetter 1 (some .boolean) d [.int u] cs (fun r cs1 => r = some (.int (bI (isLt u))) ∧ cs1 = cs) := by
  refine X.of false (by decide +kernel) (by decide) (Nat.le_of_ble_eq_true rfl) ?_
  show Z (RX10, cX10_isLetter, 1, some .boolean, false) G d _ 0 [(0, .int u)] [] cs
  refine z_iload_n dX10_isLetter_0 rfl rfl ?_
  refine z_bipush (v := 97) dX10_isLetter_1 (by decide) ?_
  refine z_icmp_lt (tgt := 12) dX10_isLetter_3 (by decide) (fun h1 => ?_) (fun h1 => ?_)
  · refine z_iload_n dX10_isLetter_12 rfl rfl ?_
    refine z_bipush (v := 65) dX10_isLetter_13 (by decide) ?_
    refine z_icmp_lt (tgt := 28) dX10_isLetter_15 (by decide) (fun h2 => ?_) (fun h2 => ?_)
    · refine z_iconst (v := 0) dX10_isLetter_28 (by decide) ?_
      exact z_ireturn dX10_isLetter_29 rfl (by decide) ⟨by simp [isLt, bI, *], rfl⟩
    · refine z_iload_n dX10_isLetter_18 rfl rfl ?_
      refine z_bipush (v := 90) dX10_isLetter_19 (by decide) ?_
      refine z_icmp_gt (tgt := 28) dX10_isLetter_21 (by decide) (fun h3 => ?_) (fun h3 => ?_)
      · refine z_iconst (v := 0) dX10_isLetter_28 (by decide) ?_
        exact z_ireturn dX10_isLetter_29 rfl (by decide) ⟨by simp [isLt, bI, *], rfl⟩
      · refine z_iconst (v := 1) dX10_isLetter_24 (by decide) ?_
        refine z_goto (tgt := 29) dX10_isLetter_25 (by decide) ?_
        exact z_ireturn dX10_isLetter_29 rfl (by decide) ⟨by simp [isLt, bI, *], rfl⟩
  · refine z_iload_n dX10_isLetter_6 rfl rfl ?_
    refine z_bipush (v := 122) dX10_isLetter_7 (by decide) ?_
    refine z_icmp_le (tgt := 24) dX10_isLetter_9 (by decide) (fun h4 => ?_) (fun h4 => ?_)
    · refine z_iconst (v := 1) dX10_isLetter_24 (by decide) ?_
      refine z_goto (tgt := 29) dX10_isLetter_25 (by decide) ?_
      exact z_ireturn dX10_isLetter_29 rfl (by decide) ⟨by simp [isLt, bI, *], rfl⟩
    · refine z_iload_n dX10_isLetter_12 rfl rfl ?_
      refine z_bipush (v := 65) dX10_isLetter_13 (by decide) ?_
      refine z_icmp_lt (tgt := 28) dX10_isLetter_15 (by decide) (fun h5 => ?_) (fun h5 => ?_)
      · refine z_iconst (v := 0) dX10_isLetter_28 (by decide) ?_
        exact z_ireturn dX10_isLetter_29 rfl (by decide) ⟨by simp [isLt, bI, *], rfl⟩
      · refine z_iload_n dX10_isLetter_18 rfl rfl ?_
        refine z_bipush (v := 90) dX10_isLetter_19 (by decide) ?_
        refine z_icmp_gt (tgt := 28) dX10_isLetter_21 (by decide) (fun h6 => ?_) (fun h6 => ?_)
        · refine z_iconst (v := 0) dX10_isLetter_28 (by decide) ?_
          exact z_ireturn dX10_isLetter_29 rfl (by decide) ⟨by simp [isLt, bI, *], rfl⟩
        · refine z_iconst (v := 1) dX10_isLetter_24 (by decide) ?_
          refine z_goto (tgt := 29) dX10_isLetter_25 (by decide) ?_
          exact z_ireturn dX10_isLetter_29 rfl (by decide) ⟨by simp [isLt, bI, *], rfl⟩

set_option maxRecDepth 100000 in
set_option maxHeartbeats 4000000 in
theorem c_X0_isNameSign {G : xG} {cs : List va_E} (d : Nat) (hd : 1 ≤ d) (u : Int32) : X G yX0_isNameSign cX0_isNameSign 1 (some .boolean) d [.int u] cs (fun r cs1 => r = some (.int (bI (isNs u))) ∧ cs1 = cs) := by
  refine X.of false (by decide +kernel) (by decide) (Nat.le_of_ble_eq_true rfl) ?_
  show Z (RX0, cX0_isNameSign, 1, some .boolean, false) G d _ 0 [(0, .int u)] [] cs
  refine z_iload_n dX0_isNameSign_0 rfl rfl ?_
  refine z_callSN (As := [_]) eX10_isLetter sX10_isLetter lX0_92 dX0_isNameSign_1 (c_X10_isLetter 0 _) (by omega) rfl (Nat.le_of_ble_eq_true rfl) (fun r cs1 hp => ?_)
  obtain ⟨rfl, rfl⟩ := hp
  refine z_st (st' := [.int (bI (isLt u))]) rfl ?_
  refine z_if_ne (tgt := 26) dX0_isNameSign_4 (by decide) (fun h1 => ?_) (fun h1 => ?_)
  · refine z_iconst (v := 1) dX0_isNameSign_26 (by decide) ?_
    refine z_goto (tgt := 31) dX0_isNameSign_27 (by decide) ?_
    exact z_ireturn dX0_isNameSign_31 rfl (by decide) (by
  first
    | exact ⟨by have q1 := bI_n h1; simp [isNs, bI, *], rfl⟩
    | exact ⟨by have q1 := bI_0 h1; have q2 := bI_n h2; simp [isNs, bI, *], rfl⟩
    | exact ⟨by have q1 := bI_0 h1; have q2 := bI_0 h2; simp [isNs, bI, *], rfl⟩)
  · refine z_iload_n dX0_isNameSign_7 rfl rfl ?_
    refine z_callSN (As := [_]) eX10_isDigit sX10_isDigit lX0_83 dX0_isNameSign_8 (c_X10_isDigit 0 _) (by omega) rfl (Nat.le_of_ble_eq_true rfl) (fun r cs1 hp => ?_)
    obtain ⟨rfl, rfl⟩ := hp
    refine z_st (st' := [.int (bI (isDg u))]) rfl ?_
    refine z_if_ne (tgt := 26) dX0_isNameSign_11 (by decide) (fun h2 => ?_) (fun h2 => ?_)
    · refine z_iconst (v := 1) dX0_isNameSign_26 (by decide) ?_
      refine z_goto (tgt := 31) dX0_isNameSign_27 (by decide) ?_
      exact z_ireturn dX0_isNameSign_31 rfl (by decide) (by
  first
    | exact ⟨by have q1 := bI_n h1; simp [isNs, bI, *], rfl⟩
    | exact ⟨by have q1 := bI_0 h1; have q2 := bI_n h2; simp [isNs, bI, *], rfl⟩
    | exact ⟨by have q1 := bI_0 h1; have q2 := bI_0 h2; simp [isNs, bI, *], rfl⟩)
    · refine z_iload_n dX0_isNameSign_14 rfl rfl ?_
      refine z_bipush (v := 95) dX0_isNameSign_15 (by decide) ?_
      refine z_icmp_eq (tgt := 26) dX0_isNameSign_17 (by decide) (fun h3 => ?_) (fun h3 => ?_)
      · refine z_iconst (v := 1) dX0_isNameSign_26 (by decide) ?_
        refine z_goto (tgt := 31) dX0_isNameSign_27 (by decide) ?_
        exact z_ireturn dX0_isNameSign_31 rfl (by decide) (by
  first
    | exact ⟨by have q1 := bI_n h1; simp [isNs, bI, *], rfl⟩
    | exact ⟨by have q1 := bI_0 h1; have q2 := bI_n h2; simp [isNs, bI, *], rfl⟩
    | exact ⟨by have q1 := bI_0 h1; have q2 := bI_0 h2; simp [isNs, bI, *], rfl⟩)
      · refine z_iload_n dX0_isNameSign_20 rfl rfl ?_
        refine z_bipush (v := 36) dX0_isNameSign_21 (by decide) ?_
        refine z_icmp_ne (tgt := 30) dX0_isNameSign_23 (by decide) (fun h4 => ?_) (fun h4 => ?_)
        · refine z_iconst (v := 0) dX0_isNameSign_30 (by decide) ?_
          exact z_ireturn dX0_isNameSign_31 rfl (by decide) (by
  first
    | exact ⟨by have q1 := bI_n h1; simp [isNs, bI, *], rfl⟩
    | exact ⟨by have q1 := bI_0 h1; have q2 := bI_n h2; simp [isNs, bI, *], rfl⟩
    | exact ⟨by have q1 := bI_0 h1; have q2 := bI_0 h2; simp [isNs, bI, *], rfl⟩)
        · refine z_iconst (v := 1) dX0_isNameSign_26 (by decide) ?_
          refine z_goto (tgt := 31) dX0_isNameSign_27 (by decide) ?_
          exact z_ireturn dX0_isNameSign_31 rfl (by decide) (by
  first
    | exact ⟨by have q1 := bI_n h1; simp [isNs, bI, *], rfl⟩
    | exact ⟨by have q1 := bI_0 h1; have q2 := bI_n h2; simp [isNs, bI, *], rfl⟩
    | exact ⟨by have q1 := bI_0 h1; have q2 := bI_0 h2; simp [isNs, bI, *], rfl⟩)

set_option maxRecDepth 100000 in
set_option maxHeartbeats 4000000 in
theorem c_X4_clear {G : xG} {cs : List va_E} (d : Nat) {h : Nat} {v0 v1 v2 v3 v4 v5 v6 v7 : Value} {n : Int32} (hh : cs[h]? = some (.inr (4, [v0, v1, v2, v3, v4, v5, v6, v7, .int n]))) : X G yX4_clear cX4_clear 1 none d [.ref (G.1 + h)] cs (fun r cs1 => r = none ∧ cs1 = cs.set h (.inr (4, [v0, v1, v2, v3, v4, v5, v6, v7, .int 0]))) := by
  refine X.of false (by decide +kernel) (by decide) (Nat.le_of_ble_eq_true rfl) ?_
  show Z (RX4, cX4_clear, 1, none, false) G d _ 0 [(0, .ref (G.1 + h))] [] cs
  refine z_aload_n dX4_clear_0 rfl rfl ?_
  refine z_iconst (v := 0) dX4_clear_1 (by decide) ?_
  refine z_put kX4 fX4_38 dX4_clear_2 rfl hh (by rfl) (by rfl) (Nat.le_of_ble_eq_true rfl) ?_
  exact z_return dX4_clear_5 rfl ⟨rfl, rfl⟩

set_option maxRecDepth 100000 in
set_option maxHeartbeats 4000000 in
theorem c_isNameRight0 {G : xG} {cs : List va_E} (d : Nat) (hd : 2 ≤ d) {x : Nat} {v1 : Value} (hc : cs[x]? = some (.inr (0, [.ref (G.1 + 1), v1, .int 0]))) (hs : Sg G cs 1 2 64 [] false) (nm : Int32) : X G yX0_isNameRight cX0_isNameRight 3 (some .boolean) d [.ref (G.1 + x), .int nm] cs (fun r cs1 => r = some (.int 0) ∧ cs1 = cs) := by
  refine X.of false (by decide +kernel) (by decide) (Nat.le_of_ble_eq_true rfl) ?_
  show Z (RX0, cX0_isNameRight, 3, some .boolean, false) G d _ 0 [(0, .ref (G.1 + x)), (1, .int nm)] [] cs
  refine z_aload_n dX0_isNameRight_0 rfl rfl ?_
  refine z_get kX0 fX0_15 dX0_isNameRight_1 hc (by rfl) ?_
  refine z_aload_n dX0_isNameRight_4 rfl rfl ?_
  refine z_get kX0 fX0_9 dX0_isNameRight_5 hc (by rfl) ?_
  refine z_callV (As := [_]) eX5_at sX5_at lX0_62 rfl dX0_isNameRight_8 (hs.choose_spec.1) (c_X5_at 0 hs _) (by omega) rfl (Nat.le_of_ble_eq_true rfl) (fun r cs1 hp => ?_)
  obtain ⟨rfl, rfl⟩ := hp
  refine z_st (st' := [.int (-1)]) rfl ?_
  refine z_callSN (As := [_]) eX10_isDigit sX10_isDigit lX0_83 dX0_isNameRight_11 (c_X10_isDigit 0 _) (by omega) rfl (Nat.le_of_ble_eq_true rfl) (fun r cs1 hp => ?_)
  obtain ⟨rfl, rfl⟩ := hp
  refine z_st (st' := [.int 0]) rfl ?_
  refine z_if_ne (tgt := 34) dX0_isNameRight_14 (by decide) (fun h1 => ?_) (fun h1 => ?_)
  · refine z_iconst (v := 0) dX0_isNameRight_34 (by decide) ?_
    exact z_ireturn dX0_isNameRight_35 rfl (by decide) ⟨rfl, rfl⟩
  · refine z_aload_n dX0_isNameRight_17 rfl rfl ?_
    refine z_get kX0 fX0_15 dX0_isNameRight_18 hc (by rfl) ?_
    refine z_aload_n dX0_isNameRight_21 rfl rfl ?_
    refine z_get kX0 fX0_9 dX0_isNameRight_22 hc (by rfl) ?_
    refine z_callV (As := [_]) eX5_at sX5_at lX0_62 rfl dX0_isNameRight_25 (hs.choose_spec.1) (c_X5_at 0 hs _) (by omega) rfl (Nat.le_of_ble_eq_true rfl) (fun r cs1 hp => ?_)
    obtain ⟨rfl, rfl⟩ := hp
    refine z_st (st' := [.int (-1)]) rfl ?_
    refine z_callS (As := [_]) eX0_isNameSign sX0_isNameSign lX0_86 dX0_isNameRight_28 (c_X0_isNameSign 1 (Nat.le_refl _) _) (by omega) rfl (Nat.le_of_ble_eq_true rfl) (fun r cs1 hp => ?_)
    obtain ⟨rfl, rfl⟩ := hp
    refine z_st (st' := [.int 0]) rfl ?_
    refine z_if_ne (tgt := 36) dX0_isNameRight_31 (by decide) (fun h2 => ?_) (fun h2 => ?_)
    · first | exact absurd h1 (by decide) | exact absurd h2 (by decide) | exact absurd h3 (by decide) | exact absurd h4 (by decide) | exact absurd h5 (by decide) | exact absurd h6 (by decide) | exact absurd h7 (by decide) | exact absurd (by decide) h1 | exact absurd (by decide) h2 | exact absurd (by decide) h3 | exact absurd (by decide) h4 | exact absurd (by decide) h5 | exact absurd (by decide) h6 | exact absurd (by decide) h7
    · refine z_iconst (v := 0) dX0_isNameRight_34 (by decide) ?_
      exact z_ireturn dX0_isNameRight_35 rfl (by decide) ⟨rfl, rfl⟩

theorem Sg.kept {G : xG} {cs c1 : List va_E} {a r n : Nat} {t : List Int32} {ov : Bool} (h : Sg G cs a r n t ov) (ha : c1[a]? = cs[a]?) (hr : c1[r]? = cs[r]?) : Sg G c1 a r n t ov := by
  obtain ⟨f, q1, q2, q3⟩ := h
  exact ⟨f, ha.trans q1, hr.trans q2, q3⟩
/-- all cells but those of the Schema at 33 are as they were -/
def Fk (cs c1 : List va_E) : Prop := ∀ k, k < 33 ∨ 42 ≤ k → c1[k]? = cs[k]?
theorem Fk.rf {cs : List va_E} : Fk cs cs := fun _ _ => rfl
theorem Fk.set {cs c1 : List va_E} {j : Nat} {e : va_E} (h : Fk cs c1) (h1 : 33 ≤ j) (h2 : j < 42) : Fk cs (c1.set j e) := by
  intro k hk
  rw [List.getElem?_set_ne (by omega)]
  exact h k hk
theorem Fk.tr {c0 c1 c2 : List va_E} (h : Fk c0 c1) (k : Fk c1 c2) : Fk c0 c2 := fun q hq => (k q hq).trans (h q hq)
set_option maxRecDepth 100000 in
set_option maxHeartbeats 4000000 in
theorem c_beginClass0 {G : xG} {cs : List va_E} (d : Nat) (hs : cs[33]? = some (.inr (4, [.ref (G.1 + 34), .ref (G.1 + 35), .ref (G.1 + 36), .ref (G.1 + 37), .ref (G.1 + 38), .ref (G.1 + 39), .ref (G.1 + 40), .ref (G.1 + 41), .int 0]))) {f35 : Nat → Int32} (h35 : cs[35]? = some (.inl (G.2.2.1 0, 30, .inl f35))) {f38 : Nat → Int32} (h38 : cs[38]? = some (.inl (G.2.2.1 0, 6, .inl f38))) {f39 : Nat → Int32} (h39 : cs[39]? = some (.inl (G.2.2.1 0, 6, .inl f39))) {f40 : Nat → Int32} (h40 : cs[40]? = some (.inl (G.2.2.1 0, 6, .inl f40))) {f41 : Nat → Int32} (h41 : cs[41]? = some (.inl (G.2.2.1 2, 6, .inl f41))) : X G yX4_beginClass cX4_beginClass 1 none d [.ref (G.1 + 33)] cs (fun r cs1 => r = none ∧ Fk cs cs1) := by
  refine X.of false (by decide +kernel) (by decide) (Nat.le_of_ble_eq_true rfl) ?_
  show Z (RX4, cX4_beginClass, 1, none, false) G d _ 0 [(0, .ref (G.1 + 33))] [] cs
  refine z_aload_n dX4_beginClass_0 rfl rfl ?_
  refine z_get kX4 fX4_38 dX4_beginClass_1 hs (by rfl) ?_
  refine z_bipush (v := 6) dX4_beginClass_4 (by decide) ?_
  refine z_icmp_lt (tgt := 10) dX4_beginClass_6 (by decide) (fun h1 => ?_) (fun h1 => ?_)
  · refine z_aload_n dX4_beginClass_10 rfl rfl ?_
    refine z_get kX4 fX4_15 dX4_beginClass_11 hs (by rfl) ?_
    refine z_aload_n dX4_beginClass_14 rfl rfl ?_
    refine z_get kX4 fX4_38 dX4_beginClass_15 hs (by rfl) ?_
    refine z_iconst (v := 0) dX4_beginClass_18 (by decide) ?_
    refine z_iast dX4_beginClass_19 h35 (vp_in_nI (n := 0) (by decide) (by decide)) ?_
    refine z_aload_n dX4_beginClass_20 rfl rfl ?_
    refine z_get kX4 fX4_26 dX4_beginClass_21 (set_ne (by decide) hs) (by rfl) ?_
    refine z_aload_n dX4_beginClass_24 rfl rfl ?_
    refine z_get kX4 fX4_38 dX4_beginClass_25 (set_ne (by decide) hs) (by rfl) ?_
    refine z_iconst (v := 0) dX4_beginClass_28 (by decide) ?_
    refine z_iast dX4_beginClass_29 (set_ne (by decide) h38) (vp_in_nI (n := 0) (by decide) (by decide)) ?_
    refine z_aload_n dX4_beginClass_30 rfl rfl ?_
    refine z_get kX4 fX4_29 dX4_beginClass_31 (set_ne (by decide) (set_ne (by decide) hs)) (by rfl) ?_
    refine z_aload_n dX4_beginClass_34 rfl rfl ?_
    refine z_get kX4 fX4_38 dX4_beginClass_35 (set_ne (by decide) (set_ne (by decide) hs)) (by rfl) ?_
    refine z_iconst (v := (-1)) dX4_beginClass_38 (by decide) ?_
    refine z_iast dX4_beginClass_39 (set_ne (by decide) (set_ne (by decide) h39)) (vp_in_nI (n := 0) (by decide) (by decide)) ?_
    refine z_aload_n dX4_beginClass_40 rfl rfl ?_
    refine z_get kX4 fX4_32 dX4_beginClass_41 (set_ne (by decide) (set_ne (by decide) (set_ne (by decide) hs))) (by rfl) ?_
    refine z_aload_n dX4_beginClass_44 rfl rfl ?_
    refine z_get kX4 fX4_38 dX4_beginClass_45 (set_ne (by decide) (set_ne (by decide) (set_ne (by decide) hs))) (by rfl) ?_
    refine z_iconst (v := 0) dX4_beginClass_48 (by decide) ?_
    refine z_iast dX4_beginClass_49 (set_ne (by decide) (set_ne (by decide) (set_ne (by decide) h40))) (vp_in_nI (n := 0) (by decide) (by decide)) ?_
    refine z_aload_n dX4_beginClass_50 rfl rfl ?_
    refine z_get kX4 fX4_35 dX4_beginClass_51 (set_ne (by decide) (set_ne (by decide) (set_ne (by decide) (set_ne (by decide) hs)))) (by rfl) ?_
    refine z_aload_n dX4_beginClass_54 rfl rfl ?_
    refine z_get kX4 fX4_38 dX4_beginClass_55 (set_ne (by decide) (set_ne (by decide) (set_ne (by decide) (set_ne (by decide) hs)))) (by rfl) ?_
    refine z_iconst (v := 0) dX4_beginClass_58 (by decide) ?_
    refine z_zast dX4_beginClass_59 (set_ne (by decide) (set_ne (by decide) (set_ne (by decide) (set_ne (by decide) h41)))) (vp_in_nI (n := 0) (by decide) (by decide)) ?_
    refine z_aload_n dX4_beginClass_60 rfl rfl ?_
    refine z_dup dX4_beginClass_61 rfl ?_
    refine z_get kX4 fX4_38 dX4_beginClass_62 (set_ne (by decide) (set_ne (by decide) (set_ne (by decide) (set_ne (by decide) (set_ne (by decide) hs))))) (by rfl) ?_
    refine z_iconst (v := 1) dX4_beginClass_65 (by decide) ?_
    refine z_iadd dX4_beginClass_66 ?_
    refine z_put kX4 fX4_38 dX4_beginClass_67 rfl (set_ne (by decide) (set_ne (by decide) (set_ne (by decide) (set_ne (by decide) (set_ne (by decide) hs))))) (by rfl) (by rfl) (Nat.le_of_ble_eq_true rfl) ?_
    exact z_return dX4_beginClass_70 rfl ⟨rfl, (((((Fk.rf.set (by decide) (by decide)).set (by decide) (by decide)).set (by decide) (by decide)).set (by decide) (by decide)).set (by decide) (by decide)).set (by decide) (by decide)⟩
  · first | exact absurd h1 (by decide) | exact absurd h2 (by decide) | exact absurd h3 (by decide) | exact absurd h4 (by decide) | exact absurd h5 (by decide) | exact absurd h6 (by decide) | exact absurd h7 (by decide) | exact absurd (by decide) h1 | exact absurd (by decide) h2 | exact absurd (by decide) h3 | exact absurd (by decide) h4 | exact absurd (by decide) h5 | exact absurd (by decide) h6 | exact absurd (by decide) h7

set_option maxRecDepth 100000 in
set_option maxHeartbeats 4000000 in
theorem c_isClassRight0 {G : xG} {cs : List va_E} (d : Nat) (hd : 3 ≤ d) {x : Nat} (hx : 42 ≤ x) (hc : cs[x]? = some (.inr (0, [.ref (G.1 + 1), .ref (G.1 + 33), .int 0]))) (hg : Sg G cs 1 2 64 [] false) (hs : cs[33]? = some (.inr (4, [.ref (G.1 + 34), .ref (G.1 + 35), .ref (G.1 + 36), .ref (G.1 + 37), .ref (G.1 + 38), .ref (G.1 + 39), .ref (G.1 + 40), .ref (G.1 + 41), .int 0]))) {f35 : Nat → Int32} (h35 : cs[35]? = some (.inl (G.2.2.1 0, 30, .inl f35))) {f38 : Nat → Int32} (h38 : cs[38]? = some (.inl (G.2.2.1 0, 6, .inl f38))) {f39 : Nat → Int32} (h39 : cs[39]? = some (.inl (G.2.2.1 0, 6, .inl f39))) {f40 : Nat → Int32} (h40 : cs[40]? = some (.inl (G.2.2.1 0, 6, .inl f40))) {f41 : Nat → Int32} (h41 : cs[41]? = some (.inl (G.2.2.1 2, 6, .inl f41))) (c : Int32) : X G yX0_isClassRight cX0_isClassRight 4 (some .boolean) d [.ref (G.1 + x), .int c] cs (fun r cs1 => r = some (.int 0) ∧ Fk cs cs1) := by
  refine X.of false (by decide +kernel) (by decide) (Nat.le_of_ble_eq_true rfl) ?_
  show Z (RX0, cX0_isClassRight, 4, some .boolean, false) G d _ 0 [(0, .ref (G.1 + x)), (1, .int c)] [] cs
  refine z_aload_n dX0_isClassRight_0 rfl rfl ?_
  refine z_get kX0 fX0_19 dX0_isClassRight_1 hc (by rfl) ?_
  refine z_callV (As := []) eX4_beginClass sX4_beginClass lX0_45 rfl dX0_isClassRight_4 hs (c_beginClass0 0 hs h35 h38 h39 h40 h41) (by omega) rfl (Nat.le_of_ble_eq_true rfl) (fun r cs1 hp => ?_)
  obtain ⟨rfl, hF⟩ := hp
  have hc2 := (hF x (Or.inr hx)).trans hc
  have hg2 : Sg G cs1 1 2 64 [] false := hg.kept (hF 1 (Or.inl (by decide))) (hF 2 (Or.inl (by decide)))
  refine z_st (st' := []) rfl ?_
  refine z_aload_n dX0_isClassRight_7 rfl rfl ?_
  refine z_iload_n dX0_isClassRight_8 rfl rfl ?_
  refine z_callV (As := [_]) eX0_isNameRight sX0_isNameRight lX0_48 rfl dX0_isClassRight_9 hc2 (c_isNameRight0 2 (Nat.le_refl _) hc2 hg2 _) (by omega) rfl (Nat.le_of_ble_eq_true rfl) (fun r cs1 hp => ?_)
  obtain ⟨rfl, rfl⟩ := hp
  refine z_st (st' := [.int 0]) rfl ?_
  refine z_if_eq (tgt := 24) dX0_isClassRight_12 (by decide) (fun h1 => ?_) (fun h1 => ?_)
  · refine z_iconst (v := 0) dX0_isClassRight_24 (by decide) ?_
    exact z_ireturn dX0_isClassRight_25 rfl (by decide) ⟨rfl, hF⟩
  · first | exact absurd h1 (by decide) | exact absurd h2 (by decide) | exact absurd h3 (by decide) | exact absurd h4 (by decide) | exact absurd h5 (by decide) | exact absurd h6 (by decide) | exact absurd h7 (by decide) | exact absurd (by decide) h1 | exact absurd (by decide) h2 | exact absurd (by decide) h3 | exact absurd (by decide) h4 | exact absurd (by decide) h5 | exact absurd (by decide) h6 | exact absurd (by decide) h7

set_option maxRecDepth 100000 in
set_option maxHeartbeats 4000000 in
theorem c_firstWrong0 {G : xG} {cs : List va_E} (d : Nat) (hd : 4 ≤ d) {x : Nat} (hx : 42 ≤ x) (hc : cs[x]? = some (.inr (0, [.ref (G.1 + 1), .ref (G.1 + 33), .int 0]))) (hg : Sg G cs 1 2 64 [] false) (hs : cs[33]? = some (.inr (4, [.ref (G.1 + 34), .ref (G.1 + 35), .ref (G.1 + 36), .ref (G.1 + 37), .ref (G.1 + 38), .ref (G.1 + 39), .ref (G.1 + 40), .ref (G.1 + 41), .int 0]))) {f35 : Nat → Int32} (h35 : cs[35]? = some (.inl (G.2.2.1 0, 30, .inl f35))) {f38 : Nat → Int32} (h38 : cs[38]? = some (.inl (G.2.2.1 0, 6, .inl f38))) {f39 : Nat → Int32} (h39 : cs[39]? = some (.inl (G.2.2.1 0, 6, .inl f39))) {f40 : Nat → Int32} (h40 : cs[40]? = some (.inl (G.2.2.1 0, 6, .inl f40))) {f41 : Nat → Int32} (h41 : cs[41]? = some (.inl (G.2.2.1 2, 6, .inl f41))) : X G yX0_firstWrong cX0_firstWrong 3 (some .int) d [.ref (G.1 + x)] cs (fun r cs1 => r = some (.int 0) ∧ Fk cs cs1) := by
  refine X.of false (by decide +kernel) (by decide) (Nat.le_of_ble_eq_true rfl) ?_
  show Z (RX0, cX0_firstWrong, 3, some .int, false) G d _ 0 [(0, .ref (G.1 + x))] [] cs
  refine z_aload_n dX0_firstWrong_0 rfl rfl ?_
  refine z_get kX0 fX0_19 dX0_firstWrong_1 hc (by rfl) ?_
  refine z_callV (As := []) eX4_clear sX4_clear lX0_23 rfl dX0_firstWrong_4 hs (c_X4_clear 0 hs) (by omega) rfl (Nat.le_of_ble_eq_true rfl) (fun r cs1 hp => ?_)
  obtain ⟨rfl, rfl⟩ := hp
  have hF1 : Fk cs (cs.set 33 (.inr (4, [.ref (G.1 + 34), .ref (G.1 + 35), .ref (G.1 + 36), .ref (G.1 + 37), .ref (G.1 + 38), .ref (G.1 + 39), .ref (G.1 + 40), .ref (G.1 + 41), .int 0]))) := Fk.rf.set (by decide) (by decide)
  have hc1 := (hF1 x (Or.inr hx)).trans hc
  have hg1 : Sg G (cs.set 33 (.inr (4, [.ref (G.1 + 34), .ref (G.1 + 35), .ref (G.1 + 36), .ref (G.1 + 37), .ref (G.1 + 38), .ref (G.1 + 39), .ref (G.1 + 40), .ref (G.1 + 41), .int 0]))) 1 2 64 [] false := hg.kept (hF1 1 (Or.inl (by decide))) (hF1 2 (Or.inl (by decide)))
  refine z_st (st' := []) rfl ?_
  refine z_iconst (v := 1) dX0_firstWrong_7 (by decide) ?_
  refine z_istore_n dX0_firstWrong_8 rfl (by decide) ?_
  refine z_iconst (v := 0) dX0_firstWrong_9 (by decide) ?_
  refine z_istore_n dX0_firstWrong_10 rfl (by decide) ?_
  refine z_iload_n dX0_firstWrong_11 rfl rfl ?_
  refine z_bipush (v := 6) dX0_firstWrong_12 (by decide) ?_
  refine z_icmp_ge (tgt := 63) dX0_firstWrong_14 (by decide) (fun h1 => ?_) (fun h1 => ?_)
  · first | exact absurd h1 (by decide) | exact absurd h2 (by decide) | exact absurd h3 (by decide) | exact absurd h4 (by decide) | exact absurd h5 (by decide) | exact absurd h6 (by decide) | exact absurd h7 (by decide) | exact absurd (by decide) h1 | exact absurd (by decide) h2 | exact absurd (by decide) h3 | exact absurd (by decide) h4 | exact absurd (by decide) h5 | exact absurd (by decide) h6 | exact absurd (by decide) h7
  · refine z_iload_n dX0_firstWrong_17 rfl rfl ?_
    refine z_if_eq (tgt := 63) dX0_firstWrong_18 (by decide) (fun h2 => ?_) (fun h2 => ?_)
    · first | exact absurd h1 (by decide) | exact absurd h2 (by decide) | exact absurd h3 (by decide) | exact absurd h4 (by decide) | exact absurd h5 (by decide) | exact absurd h6 (by decide) | exact absurd h7 (by decide) | exact absurd (by decide) h1 | exact absurd (by decide) h2 | exact absurd (by decide) h3 | exact absurd (by decide) h4 | exact absurd (by decide) h5 | exact absurd (by decide) h6 | exact absurd (by decide) h7
    · refine z_aload_n dX0_firstWrong_21 rfl rfl ?_
      refine z_iload_n dX0_firstWrong_22 rfl rfl ?_
      refine z_callV (As := [_]) eX0_isClassRight sX0_isClassRight lX0_28 rfl dX0_firstWrong_23 hc1 (c_isClassRight0 3 (Nat.le_refl _) hx hc1 hg1 (set_at hs) (set_ne (by decide) h35) (set_ne (by decide) h38) (set_ne (by decide) h39) (set_ne (by decide) h40) (set_ne (by decide) h41) _) (by omega) rfl (Nat.le_of_ble_eq_true rfl) (fun r cs1 hp => ?_)
      obtain ⟨rfl, hF2⟩ := hp
      have hc3 := (hF2 x (Or.inr hx)).trans hc1
      refine z_st (st' := [.int 0]) rfl ?_
      refine z_if_ne (tgt := 34) dX0_firstWrong_26 (by decide) (fun h3 => ?_) (fun h3 => ?_)
      · first | exact absurd h1 (by decide) | exact absurd h2 (by decide) | exact absurd h3 (by decide) | exact absurd h4 (by decide) | exact absurd h5 (by decide) | exact absurd h6 (by decide) | exact absurd h7 (by decide) | exact absurd (by decide) h1 | exact absurd (by decide) h2 | exact absurd (by decide) h3 | exact absurd (by decide) h4 | exact absurd (by decide) h5 | exact absurd (by decide) h6 | exact absurd (by decide) h7
      · refine z_aload_n dX0_firstWrong_29 rfl rfl ?_
        refine z_get kX0 fX0_9 dX0_firstWrong_30 hc3 (by rfl) ?_
        exact z_ireturn dX0_firstWrong_33 rfl (by rfl) ⟨rfl, hF1.tr hF2⟩

set_option maxRecDepth 100000 in
set_option maxHeartbeats 4000000 in
theorem c_X0_init {G : xG} {cs : List va_E} (d : Nat) (hd : 1 ≤ d) {x tq sq : Nat} (hc : cs[x]? = some (.inr (0, [.null, .null, .int 0]))) : X G yX0_init cX0_init 3 none d [.ref (G.1 + x), .ref tq, .ref sq] cs (fun r cs1 => r = none ∧ cs1 = cs.set x (.inr (0, [.ref tq, .ref sq, .int 0]))) := by
  refine X.of true (by decide +kernel) (fun _ => rfl) (Nat.le_of_ble_eq_true rfl) ?_
  show Z (RX0, cX0_init, 3, none, true) G d _ 0 [(0, .ref (G.1 + x)), (1, .ref tq), (2, .ref sq)] [] cs
  refine z_aload_n dX0_init_0 rfl rfl ?_
  refine z_objInit lX0_3 obj_i obj_c dX0_init_1 (by omega) (Nat.le_of_ble_eq_true rfl) ?_
  refine z_aload_n dX0_init_4 rfl rfl ?_
  refine z_iconst (v := 0) dX0_init_5 (by decide) ?_
  refine z_put kX0 fX0_9 dX0_init_6 rfl hc (by rfl) (by rfl) (Nat.le_of_ble_eq_true rfl) ?_
  refine z_aload_n dX0_init_9 rfl rfl ?_
  refine z_aload_n dX0_init_10 rfl rfl ?_
  refine z_putF kX0 fX0_15 dX0_init_11 rfl rfl rfl (set_at hc) (by rfl) (by rfl) (Nat.le_of_ble_eq_true rfl) ?_
  refine z_aload_n dX0_init_14 rfl rfl ?_
  refine z_aload_n dX0_init_15 rfl rfl ?_
  refine z_putF kX0 fX0_19 dX0_init_16 rfl rfl rfl (set_at (set_at hc)) (by rfl) (by rfl) (Nat.le_of_ble_eq_true rfl) ?_
  exact z_return dX0_init_19 rfl ⟨rfl, by rw [List.set_set, List.set_set]; rfl⟩

set_option maxRecDepth 100000 in
set_option maxHeartbeats 4000000 in
theorem fx_classes {G : xG} (d : Nat) (hd : 5 ≤ d) : X G yX10_classes cX10_classes 3 (some .int) d [.ref (G.1 + 0)] (w0 G) (fun r cs1 => r = some (.int (-1)) ∧ Mf G cs1) := by
  refine X.of false (by decide +kernel) (by decide) (Nat.le_of_ble_eq_true rfl) ?_
  show Z (RX10, cX10_classes, 3, some .int, false) G d _ 0 [(0, .ref (G.1 + 0))] [] (w0 G)
  refine z_new (fs := [.null, .null, .int 0]) kX0 nX10_63 aX0 bX0 dX10_classes_0 (by decide +kernel) (by have := w0_Z G; have := w0_len G; omega) ?_
  refine z_dup dX10_classes_3 rfl ?_
  refine z_aload_n dX10_classes_4 rfl rfl ?_
  refine z_get kX10 fX10_12 dX10_classes_5 (by rfl) (by rfl) ?_
  refine z_aload_n dX10_classes_8 rfl rfl ?_
  refine z_get kX10 fX10_36 dX10_classes_9 (by rfl) (by rfl) ?_
  refine z_callI (As := [_, _]) eX0_init sX0_init lX10_65 dX10_classes_12 (c_X0_init 1 (Nat.le_refl _) (x := (w0 G).length) app_last) (by omega) rfl (Nat.le_of_ble_eq_true rfl) (fun r cs1 hp => ?_)
  obtain ⟨rfl, rfl⟩ := hp
  have hx : 42 ≤ (w0 G).length := by rw [w0_len]; decide
  have hcx : ((w0 G ++ ([.inr (0, [.null, .null, .int 0])] : List va_E)).set (w0 G).length (.inr (0, [.ref (G.1 + 1), .ref (G.1 + 33), .int 0]) : va_E))[(w0 G).length]? = some (.inr (0, [.ref (G.1 + 1), .ref (G.1 + 33), .int 0])) := set_at app_last
  have hk0 : ∀ k, k < 107 → ((w0 G ++ ([.inr (0, [.null, .null, .int 0])] : List va_E)).set (w0 G).length (.inr (0, [.ref (G.1 + 1), .ref (G.1 + 33), .int 0]) : va_E))[k]? = (w0 G)[k]? := fun k hk => by
    rw [List.getElem?_set_ne (by rw [w0_len]; omega), List.getElem?_append_left (by rw [w0_len]; exact hk)]
  have hg0 : Sg G ((w0 G ++ ([.inr (0, [.null, .null, .int 0])] : List va_E)).set (w0 G).length (.inr (0, [.ref (G.1 + 1), .ref (G.1 + 33), .int 0]) : va_E)) 1 2 64 [] false := (sg_0 G).kept (hk0 1 (by decide)) (hk0 2 (by decide))
  refine z_st (st' := [.ref (G.1 + (w0 G).length)]) rfl ?_
  refine z_callV (As := []) eX0_firstWrong sX0_firstWrong lX10_68 rfl dX10_classes_15 hcx (c_firstWrong0 4 (Nat.le_refl _) hx hcx hg0 ((hk0 33 (by decide)).trans (by rfl)) ((hk0 35 (by decide)).trans (by rfl)) ((hk0 38 (by decide)).trans (by rfl)) ((hk0 39 (by decide)).trans (by rfl)) ((hk0 40 (by decide)).trans (by rfl)) ((hk0 41 (by decide)).trans (by rfl))) (by omega) rfl (Nat.le_of_ble_eq_true rfl) (fun r cs1 hp => ?_)
  obtain ⟨rfl, hF⟩ := hp
  have hg1 : Sg G cs1 1 2 64 [] false := hg0.kept (hF 1 (Or.inl (by decide))) (hF 2 (Or.inl (by decide)))
  have hx0 : cs1[0]? = (w0 G)[0]? := (hF 0 (Or.inl (by decide))).trans (hk0 0 (by decide))
  refine z_st (st' := [.int 0]) rfl ?_
  refine z_istore_n dX10_classes_18 rfl (by decide) ?_
  refine z_aload_n dX10_classes_19 rfl rfl ?_
  refine z_get kX10 fX10_12 dX10_classes_20 (hx0.trans (by rfl)) (by rfl) ?_
  refine z_callV (As := []) eX5_clear sX5_clear lX10_72 rfl dX10_classes_23 hg1.choose_spec.1 (c_X5_clear 0 hg1) (by omega) rfl (Nat.le_of_ble_eq_true rfl) (fun r cs1 hp => ?_)
  obtain ⟨rfl, rfl⟩ := hp
  refine z_st (st' := []) rfl ?_
  refine z_iload_n dX10_classes_26 rfl rfl ?_
  refine z_iconst (v := (-1)) dX10_classes_27 (by decide) ?_
  refine z_icmp_eq (tgt := 35) dX10_classes_28 (by decide) (fun h1 => ?_) (fun h1 => ?_)
  · first | exact absurd h1 (by decide) | exact absurd h2 (by decide) | exact absurd h3 (by decide) | exact absurd h4 (by decide) | exact absurd h5 (by decide) | exact absurd h6 (by decide) | exact absurd h7 (by decide) | exact absurd (by decide) h1 | exact absurd (by decide) h2 | exact absurd (by decide) h3 | exact absurd (by decide) h4 | exact absurd (by decide) h5 | exact absurd (by decide) h6 | exact absurd (by decide) h7
  · refine z_iconst (v := (-1)) dX10_classes_31 (by decide) ?_
    refine z_iload_n dX10_classes_32 rfl rfl ?_
    refine z_isub dX10_classes_33 ?_
    exact z_ireturn dX10_classes_34 rfl (by rfl) ⟨by rfl, Mf.set (fun k hk => by rw [hF (54 + k) (Or.inr (by omega)), hk0 (54 + k) (by omega)]; exact Mf_0 G k hk) (by decide)⟩

