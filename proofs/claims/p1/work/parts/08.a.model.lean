/-! THE MODEL, FRESH: at, wrong and broken may have changed -/
def mO (G : xG) (a w b : Int32) : va_E := .inr (11, .int 0 :: .ref (G.1 + 55) :: .int 0 :: .ref (G.1 + 56) :: .ref (G.1 + 57) :: .ref (G.1 + 58) :: .ref (G.1 + 59) :: .ref (G.1 + 60) :: .ref (G.1 + 61) :: .ref (G.1 + 62) :: .ref (G.1 + 63) :: .ref (G.1 + 64) :: .ref (G.1 + 65) :: .ref (G.1 + 66) :: .ref (G.1 + 67) :: .ref (G.1 + 68) :: .ref (G.1 + 69) :: .ref (G.1 + 70) :: .int 0 :: .int 10 :: .int 0 :: .ref (G.1 + 71) :: .int a :: .int w :: .int b :: .int 0 :: .ref (G.1 + 72) :: .ref (G.1 + 73) :: .ref (G.1 + 74) :: .ref (G.1 + 75) :: .int 0 :: .ref (G.1 + 76) :: .int 0 :: .ref (G.1 + 77) :: .ref (G.1 + 78) :: .ref (G.1 + 79) :: .ref (G.1 + 80) :: .ref (G.1 + 81) :: .ref (G.1 + 82) :: .int 0 :: .ref (G.1 + 83) :: .int 0 :: .ref (G.1 + 84) :: .int 0 :: .ref (G.1 + 85) :: .ref (G.1 + 86) :: .ref (G.1 + 87) :: .ref (G.1 + 88) :: .ref (G.1 + 89) :: .ref (G.1 + 90) :: .ref (G.1 + 91) :: .int 0 :: .ref (G.1 + 92) :: .ref (G.1 + 93) :: .ref (G.1 + 94) :: .ref (G.1 + 95) :: .int 0 :: .ref (G.1 + 96) :: .ref (G.1 + 97) :: .int 0 :: .int 0 :: .ref (G.1 + 98) :: .ref (G.1 + 99) :: .ref (G.1 + 100) :: .ref (G.1 + 101) :: .ref (G.1 + 102) :: .ref (G.1 + 103) :: .int 0 :: .ref (G.1 + 104) :: .ref (G.1 + 105) :: .ref (G.1 + 106) :: .int 0 :: [])
def Ma (G : xG) (cs : List va_E) : Prop := ∀ k, k < 52 → cs[54 + (k + 1)]? = (wM G)[k + 1]?
theorem Mf.o {G : xG} {cs : List va_E} (h : Mf G cs) : cs[54]? = some (mO G 0 0 0) := h 0 (by decide)
theorem Mf.a {G : xG} {cs : List va_E} (h : Mf G cs) : Ma G cs := fun k hk => h (k + 1) (by omega)
theorem Ma.set {G : xG} {cs : List va_E} {e : va_E} (h : Ma G cs) : Ma G (cs.set 54 e) := by
  intro k hk
  rw [List.getElem?_set_ne (by omega)]
  exact h k hk
def inI (v lo hi : Int32) : Bool := if v < lo then false else if hi < v then false else true
theorem inI_m1 (v : Int32) : inI v 0 (0 - 1) = false := by
  unfold inI
  by_cases h : v < 0
  · simp [h]
  · have h2 : (0 - 1 : Int32) < v := by
      rw [Int32.lt_iff_toInt_lt]
      have := ge_of h
      have e : (0 - 1 : Int32).toInt = -1 := by decide
      omega
    rw [if_neg h, if_pos h2]
theorem inI_hp {v : Int32} (h : inI v 0 1 = true) : vp_in v 3 := by
  rw [vp_in_iff]
  unfold inI at h
  by_cases h1 : v < 0
  · simp [h1] at h
  · by_cases h2 : 1 < v
    · simp [h1, h2] at h
    · have a := ge_of h1
      have b := Int32.le_iff_toInt_le.mp (Int32.not_lt.mp h2)
      have e : (1 : Int32).toInt = 1 := by decide
      omega
def blk (u : Int32) : Bool := if u = 32 then true else if u = 9 then true else if u = 10 then true else if u = 13 then true else false
theorem sgn_eq (u : Int32) : isSgn u = (inI u 32 126 || blk u) := by
  unfold isSgn inI blk
  by_cases h1 : u < 32
  · have h3 : ¬ u = 32 := fun e => by rw [e] at h1; exact absurd h1 (by decide)
    simp [h1, h3]
  · by_cases h2 : u ≤ 126
    · simp [h1, h2, Int32.not_lt.mpr h2]
    · have h3 : ¬ u = 32 := fun e => by rw [e] at h2; exact absurd (by decide) h2
      simp [h1, h2, Int32.not_le.mp h2, h3]

set_option maxRecDepth 100000 in
set_option maxHeartbeats 4000000 in
theorem m_in {G : xG} {cs : List va_E} (d : Nat) (v lo hi : Int32) : X G yX11_in cX11_in 3 (some .boolean) d [.int v, .int lo, .int hi] cs (fun r cs1 => r = some (.int (bI (inI v lo hi))) ∧ cs1 = cs) := by
  refine X.of false (by decide +kernel) (by decide) (Nat.le_of_ble_eq_true rfl) ?_
  show Z (RX11, cX11_in, 3, some .boolean, false) G d _ 0 [(0, .int v), (1, .int lo), (2, .int hi)] [] cs
  refine z_iload_n dX11_in_0 rfl rfl ?_
  refine z_iload_n dX11_in_1 rfl rfl ?_
  refine z_icmp_lt (tgt := 14) dX11_in_2 (by decide) (fun h1 => ?_) (fun h1 => ?_)
  · refine z_iconst (v := 0) dX11_in_14 (by decide) ?_
    exact z_ireturn dX11_in_15 rfl (by decide) ⟨by simp [inI, bI, *], rfl⟩
  · refine z_iload_n dX11_in_5 rfl rfl ?_
    refine z_iload_n dX11_in_6 rfl rfl ?_
    refine z_icmp_gt (tgt := 14) dX11_in_7 (by decide) (fun h2 => ?_) (fun h2 => ?_)
    · refine z_iconst (v := 0) dX11_in_14 (by decide) ?_
      exact z_ireturn dX11_in_15 rfl (by decide) ⟨by simp [inI, bI, *], rfl⟩
    · refine z_iconst (v := 1) dX11_in_10 (by decide) ?_
      refine z_goto (tgt := 15) dX11_in_11 (by decide) ?_
      exact z_ireturn dX11_in_15 rfl (by decide) ⟨by simp [inI, bI, *], rfl⟩

set_option maxRecDepth 100000 in
set_option maxHeartbeats 4000000 in
theorem m_isBlank {G : xG} {cs : List va_E} (d : Nat) (u : Int32) : X G yX11_isBlank cX11_isBlank 1 (some .boolean) d [.int u] cs (fun r cs1 => r = some (.int (bI (blk u))) ∧ cs1 = cs) := by
  refine X.of false (by decide +kernel) (by decide) (Nat.le_of_ble_eq_true rfl) ?_
  show Z (RX11, cX11_isBlank, 1, some .boolean, false) G d _ 0 [(0, .int u)] [] cs
  refine z_iload_n dX11_isBlank_0 rfl rfl ?_
  refine z_bipush (v := 32) dX11_isBlank_1 (by decide) ?_
  refine z_icmp_eq (tgt := 24) dX11_isBlank_3 (by decide) (fun h1 => ?_) (fun h1 => ?_)
  · refine z_iconst (v := 1) dX11_isBlank_24 (by decide) ?_
    refine z_goto (tgt := 29) dX11_isBlank_25 (by decide) ?_
    exact z_ireturn dX11_isBlank_29 rfl (by decide) ⟨by simp [blk, bI, *], rfl⟩
  · refine z_iload_n dX11_isBlank_6 rfl rfl ?_
    refine z_bipush (v := 9) dX11_isBlank_7 (by decide) ?_
    refine z_icmp_eq (tgt := 24) dX11_isBlank_9 (by decide) (fun h2 => ?_) (fun h2 => ?_)
    · refine z_iconst (v := 1) dX11_isBlank_24 (by decide) ?_
      refine z_goto (tgt := 29) dX11_isBlank_25 (by decide) ?_
      exact z_ireturn dX11_isBlank_29 rfl (by decide) ⟨by simp [blk, bI, *], rfl⟩
    · refine z_iload_n dX11_isBlank_12 rfl rfl ?_
      refine z_bipush (v := 10) dX11_isBlank_13 (by decide) ?_
      refine z_icmp_eq (tgt := 24) dX11_isBlank_15 (by decide) (fun h3 => ?_) (fun h3 => ?_)
      · refine z_iconst (v := 1) dX11_isBlank_24 (by decide) ?_
        refine z_goto (tgt := 29) dX11_isBlank_25 (by decide) ?_
        exact z_ireturn dX11_isBlank_29 rfl (by decide) ⟨by simp [blk, bI, *], rfl⟩
      · refine z_iload_n dX11_isBlank_18 rfl rfl ?_
        refine z_bipush (v := 13) dX11_isBlank_19 (by decide) ?_
        refine z_icmp_ne (tgt := 28) dX11_isBlank_21 (by decide) (fun h4 => ?_) (fun h4 => ?_)
        · refine z_iconst (v := 0) dX11_isBlank_28 (by decide) ?_
          exact z_ireturn dX11_isBlank_29 rfl (by decide) ⟨by simp [blk, bI, *], rfl⟩
        · refine z_iconst (v := 1) dX11_isBlank_24 (by decide) ?_
          refine z_goto (tgt := 29) dX11_isBlank_25 (by decide) ?_
          exact z_ireturn dX11_isBlank_29 rfl (by decide) ⟨by simp [blk, bI, *], rfl⟩

set_option maxRecDepth 100000 in
set_option maxHeartbeats 4000000 in
theorem m_isDigit {G : xG} {cs : List va_E} (d : Nat) (u : Int32) : X G yX11_isDigit cX11_isDigit 1 (some .boolean) d [.int u] cs (fun r cs1 => r = some (.int (bI (isDg u))) ∧ cs1 = cs) := by
  refine X.of false (by decide +kernel) (by decide) (Nat.le_of_ble_eq_true rfl) ?_
  show Z (RX11, cX11_isDigit, 1, some .boolean, false) G d _ 0 [(0, .int u)] [] cs
  refine z_iload_n dX11_isDigit_0 rfl rfl ?_
  refine z_bipush (v := 48) dX11_isDigit_1 (by decide) ?_
  refine z_icmp_lt (tgt := 16) dX11_isDigit_3 (by decide) (fun h1 => ?_) (fun h1 => ?_)
  · refine z_iconst (v := 0) dX11_isDigit_16 (by decide) ?_
    exact z_ireturn dX11_isDigit_17 rfl (by decide) ⟨by simp [isDg, bI, *], rfl⟩
  · refine z_iload_n dX11_isDigit_6 rfl rfl ?_
    refine z_bipush (v := 57) dX11_isDigit_7 (by decide) ?_
    refine z_icmp_gt (tgt := 16) dX11_isDigit_9 (by decide) (fun h2 => ?_) (fun h2 => ?_)
    · refine z_iconst (v := 0) dX11_isDigit_16 (by decide) ?_
      exact z_ireturn dX11_isDigit_17 rfl (by decide) ⟨by simp [isDg, bI, *], rfl⟩
    · refine z_iconst (v := 1) dX11_isDigit_12 (by decide) ?_
      refine z_goto (tgt := 17) dX11_isDigit_13 (by decide) ?_
      exact z_ireturn dX11_isDigit_17 rfl (by decide) ⟨by simp [isDg, bI, *], rfl⟩

set_option maxRecDepth 100000 in
set_option maxHeartbeats 4000000 in
theorem m_isLetter {G : xG} {cs : List va_E} (d : Nat) (u : Int32) : X G yX11_isLetter cX11_isLetter 1 (some .boolean) d [.int u] cs (fun r cs1 => r = some (.int (bI (isLt u))) ∧ cs1 = cs) := by
  refine X.of false (by decide +kernel) (by decide) (Nat.le_of_ble_eq_true rfl) ?_
  show Z (RX11, cX11_isLetter, 1, some .boolean, false) G d _ 0 [(0, .int u)] [] cs
  refine z_iload_n dX11_isLetter_0 rfl rfl ?_
  refine z_bipush (v := 97) dX11_isLetter_1 (by decide) ?_
  refine z_icmp_lt (tgt := 12) dX11_isLetter_3 (by decide) (fun h1 => ?_) (fun h1 => ?_)
  · refine z_iload_n dX11_isLetter_12 rfl rfl ?_
    refine z_bipush (v := 65) dX11_isLetter_13 (by decide) ?_
    refine z_icmp_lt (tgt := 28) dX11_isLetter_15 (by decide) (fun h2 => ?_) (fun h2 => ?_)
    · refine z_iconst (v := 0) dX11_isLetter_28 (by decide) ?_
      exact z_ireturn dX11_isLetter_29 rfl (by decide) ⟨by simp [isLt, bI, *], rfl⟩
    · refine z_iload_n dX11_isLetter_18 rfl rfl ?_
      refine z_bipush (v := 90) dX11_isLetter_19 (by decide) ?_
      refine z_icmp_gt (tgt := 28) dX11_isLetter_21 (by decide) (fun h3 => ?_) (fun h3 => ?_)
      · refine z_iconst (v := 0) dX11_isLetter_28 (by decide) ?_
        exact z_ireturn dX11_isLetter_29 rfl (by decide) ⟨by simp [isLt, bI, *], rfl⟩
      · refine z_iconst (v := 1) dX11_isLetter_24 (by decide) ?_
        refine z_goto (tgt := 29) dX11_isLetter_25 (by decide) ?_
        exact z_ireturn dX11_isLetter_29 rfl (by decide) ⟨by simp [isLt, bI, *], rfl⟩
  · refine z_iload_n dX11_isLetter_6 rfl rfl ?_
    refine z_bipush (v := 122) dX11_isLetter_7 (by decide) ?_
    refine z_icmp_le (tgt := 24) dX11_isLetter_9 (by decide) (fun h4 => ?_) (fun h4 => ?_)
    · refine z_iconst (v := 1) dX11_isLetter_24 (by decide) ?_
      refine z_goto (tgt := 29) dX11_isLetter_25 (by decide) ?_
      exact z_ireturn dX11_isLetter_29 rfl (by decide) ⟨by simp [isLt, bI, *], rfl⟩
    · refine z_iload_n dX11_isLetter_12 rfl rfl ?_
      refine z_bipush (v := 65) dX11_isLetter_13 (by decide) ?_
      refine z_icmp_lt (tgt := 28) dX11_isLetter_15 (by decide) (fun h5 => ?_) (fun h5 => ?_)
      · refine z_iconst (v := 0) dX11_isLetter_28 (by decide) ?_
        exact z_ireturn dX11_isLetter_29 rfl (by decide) ⟨by simp [isLt, bI, *], rfl⟩
      · refine z_iload_n dX11_isLetter_18 rfl rfl ?_
        refine z_bipush (v := 90) dX11_isLetter_19 (by decide) ?_
        refine z_icmp_gt (tgt := 28) dX11_isLetter_21 (by decide) (fun h6 => ?_) (fun h6 => ?_)
        · refine z_iconst (v := 0) dX11_isLetter_28 (by decide) ?_
          exact z_ireturn dX11_isLetter_29 rfl (by decide) ⟨by simp [isLt, bI, *], rfl⟩
        · refine z_iconst (v := 1) dX11_isLetter_24 (by decide) ?_
          refine z_goto (tgt := 29) dX11_isLetter_25 (by decide) ?_
          exact z_ireturn dX11_isLetter_29 rfl (by decide) ⟨by simp [isLt, bI, *], rfl⟩

set_option maxRecDepth 100000 in
set_option maxHeartbeats 4000000 in
theorem mx_unit {G : xG} {cs : List va_E} (d : Nat) (hd : 1 ≤ d) (hM : Mf G cs) (u : Int32) : X G yX11_unit cX11_unit 2 (some .boolean) d [.ref (G.1 + 54), .int u] cs (fun r _ => r = some (.int (bI (isSgn u)))) := by
  refine X.of false (by decide +kernel) (by decide) (Nat.le_of_ble_eq_true rfl) ?_
  show Z (RX11, cX11_unit, 2, some .boolean, false) G d _ 0 [(0, .ref (G.1 + 54)), (1, .int u)] [] cs
  have ho := hM.o
  have hA := hM.a
  refine z_aload_n dX11_unit_0 rfl rfl ?_
  refine z_get kX11 fX11_171 dX11_unit_1 ho (by rfl) ?_
  refine z_sipush (v := 3000) dX11_unit_4 (by decide) ?_
  refine z_icmp_eq (tgt := 28) dX11_unit_7 (by decide) (fun h1 => ?_) (fun h1 => ?_)
  · first
      | exact absurd h1 (by decide)
      | (refine z_iconst (v := 0) dX11_unit_28 (by decide) ?_; exact z_ireturn dX11_unit_29 rfl (by decide) (by rw [sgn_eq, bI_0 h2, bI_0 h3]; rfl))
  · refine z_iload_n dX11_unit_10 rfl rfl ?_
    refine z_bipush (v := 32) dX11_unit_11 (by decide) ?_
    refine z_bipush (v := 126) dX11_unit_13 (by decide) ?_
    refine z_callS (As := [_, _, _]) eX11_in sX11_in lX11_174 dX11_unit_15 (m_in 0 _ _ _) (by omega) rfl (Nat.le_of_ble_eq_true rfl) (fun r cs1 hp => ?_)
    obtain ⟨rfl, rfl⟩ := hp
    refine z_st (st' := [.int (bI (inI u 32 126))]) rfl ?_
    refine z_if_ne (tgt := 30) dX11_unit_18 (by decide) (fun h2 => ?_) (fun h2 => ?_)
    · refine z_aload_n dX11_unit_30 rfl rfl ?_
      refine z_get kX11 fX11_7 dX11_unit_31 ho (by rfl) ?_
      refine z_aload_n dX11_unit_34 rfl rfl ?_
      refine z_get kX11 fX11_171 dX11_unit_35 ho (by rfl) ?_
      refine z_iload_n dX11_unit_38 rfl rfl ?_
      refine z_iast dX11_unit_39 (hA 0 (by decide)) (vp_in_nI (n := 0) (by decide) (by decide)) ?_
      refine z_aload_n dX11_unit_40 rfl rfl ?_
      refine z_dup dX11_unit_41 rfl ?_
      refine z_get kX11 fX11_171 dX11_unit_42 (set_ne (by decide) ho) (by rfl) ?_
      refine z_iconst (v := 1) dX11_unit_45 (by decide) ?_
      refine z_iadd dX11_unit_46 ?_
      refine z_put kX11 fX11_171 dX11_unit_47 rfl (set_ne (by decide) ho) (by rfl) (by rfl) (Nat.le_of_ble_eq_true rfl) ?_
      refine z_iconst (v := 1) dX11_unit_50 (by decide) ?_
      exact z_ireturn dX11_unit_51 rfl (by decide) (by rw [sgn_eq]; first | (rw [bI_n h2]; rfl) | (rw [bI_n h3, Bool.or_true]; rfl))
    · refine z_iload_n dX11_unit_21 rfl rfl ?_
      refine z_callS (As := [_]) eX11_isBlank sX11_isBlank lX11_178 dX11_unit_22 (m_isBlank 0 _) (by omega) rfl (Nat.le_of_ble_eq_true rfl) (fun r cs1 hp => ?_)
      obtain ⟨rfl, rfl⟩ := hp
      refine z_st (st' := [.int (bI (blk u))]) rfl ?_
      refine z_if_ne (tgt := 30) dX11_unit_25 (by decide) (fun h3 => ?_) (fun h3 => ?_)
      · refine z_aload_n dX11_unit_30 rfl rfl ?_
        refine z_get kX11 fX11_7 dX11_unit_31 ho (by rfl) ?_
        refine z_aload_n dX11_unit_34 rfl rfl ?_
        refine z_get kX11 fX11_171 dX11_unit_35 ho (by rfl) ?_
        refine z_iload_n dX11_unit_38 rfl rfl ?_
        refine z_iast dX11_unit_39 (hA 0 (by decide)) (vp_in_nI (n := 0) (by decide) (by decide)) ?_
        refine z_aload_n dX11_unit_40 rfl rfl ?_
        refine z_dup dX11_unit_41 rfl ?_
        refine z_get kX11 fX11_171 dX11_unit_42 (set_ne (by decide) ho) (by rfl) ?_
        refine z_iconst (v := 1) dX11_unit_45 (by decide) ?_
        refine z_iadd dX11_unit_46 ?_
        refine z_put kX11 fX11_171 dX11_unit_47 rfl (set_ne (by decide) ho) (by rfl) (by rfl) (Nat.le_of_ble_eq_true rfl) ?_
        refine z_iconst (v := 1) dX11_unit_50 (by decide) ?_
        exact z_ireturn dX11_unit_51 rfl (by decide) (by rw [sgn_eq]; first | (rw [bI_n h2]; rfl) | (rw [bI_n h3, Bool.or_true]; rfl))
      · first
          | exact absurd h1 (by decide)
          | (refine z_iconst (v := 0) dX11_unit_28 (by decide) ?_; exact z_ireturn dX11_unit_29 rfl (by decide) (by rw [sgn_eq, bI_0 h2, bI_0 h3]; rfl))

set_option maxRecDepth 100000 in
set_option maxHeartbeats 4000000 in
theorem mx_make {G : xG} {cs : List va_E} (d : Nat) (hd : 1 ≤ d) (hM : Mf G cs) (c : Int32) : X G yX11_make cX11_make 2 (some .int) d [.ref (G.1 + 54), .int c] cs (fun r _ => r = some (.int (-1))) := by
  refine X.of false (by decide +kernel) (by decide) (Nat.le_of_ble_eq_true rfl) ?_
  show Z (RX11, cX11_make, 2, some .int, false) G d _ 0 [(0, .ref (G.1 + 54)), (1, .int c)] [] cs
  have ho := hM.o
  have hA := hM.a
  refine z_iload_n dX11_make_0 rfl rfl ?_
  refine z_iconst (v := 0) dX11_make_1 (by decide) ?_
  refine z_aload_n dX11_make_2 rfl rfl ?_
  refine z_get kX11 fX11_238 dX11_make_3 ho (by rfl) ?_
  refine z_iconst (v := 1) dX11_make_6 (by decide) ?_
  refine z_isub dX11_make_7 ?_
  refine z_callS (As := [_, _, _]) eX11_in sX11_in lX11_174 dX11_make_8 (m_in 0 _ _ _) (by omega) rfl (Nat.le_of_ble_eq_true rfl) (fun r cs1 hp => ?_)
  obtain ⟨rfl, rfl⟩ := hp
  refine z_st (st' := [.int 0]) (by rw [inI_m1]; rfl) ?_
  refine z_if_eq (tgt := 25) dX11_make_11 (by decide) (fun h1 => ?_) (fun h1 => ?_)
  · refine z_iconst (v := (-1)) dX11_make_25 (by decide) ?_
    exact z_ireturn dX11_make_26 rfl (by rfl) rfl
  · first | exact absurd h1 (by decide) | exact absurd h2 (by decide) | exact absurd h3 (by decide) | exact absurd h4 (by decide) | exact absurd h5 (by decide) | exact absurd h6 (by decide) | exact absurd h7 (by decide) | exact absurd h8 (by decide) | exact absurd h9 (by decide) | exact absurd h10 (by decide) | exact absurd h11 (by decide) | exact absurd (by decide) h1 | exact absurd (by decide) h2 | exact absurd (by decide) h3 | exact absurd (by decide) h4 | exact absurd (by decide) h5 | exact absurd (by decide) h6 | exact absurd (by decide) h7 | exact absurd (by decide) h8 | exact absurd (by decide) h9 | exact absurd (by decide) h10 | exact absurd (by decide) h11

set_option maxRecDepth 100000 in
set_option maxHeartbeats 4000000 in
theorem m_isObject0 {G : xG} {cs : List va_E} (d : Nat) (hM : Mf G cs) {hp0 : Int32} (hv : vp_in hp0 3) (ob : Int32) : X G yX11_isObject cX11_isObject 3 (some .boolean) d [.ref (G.1 + 54), .int hp0, .int ob] cs (fun r cs1 => r = some (.int 0) ∧ cs1 = cs) := by
  refine X.of false (by decide +kernel) (by decide) (Nat.le_of_ble_eq_true rfl) ?_
  show Z (RX11, cX11_isObject, 3, some .boolean, false) G d _ 0 [(0, .ref (G.1 + 54)), (1, .int hp0), (2, .int ob)] [] cs
  have ho := hM.o
  have hA := hM.a
  refine z_iload_n dX11_isObject_0 rfl rfl ?_
  refine z_if_lt (tgt := 18) dX11_isObject_1 (by decide) (fun h1 => ?_) (fun h1 => ?_)
  · refine z_iconst (v := 0) dX11_isObject_18 (by decide) ?_
    exact z_ireturn dX11_isObject_19 rfl (by decide) ⟨rfl, rfl⟩
  · refine z_iload_n dX11_isObject_4 rfl rfl ?_
    refine z_aload_n dX11_isObject_5 rfl rfl ?_
    refine z_get kX11 fX11_47 dX11_isObject_6 ho (by rfl) ?_
    refine z_iload_n dX11_isObject_9 rfl rfl ?_
    refine z_iald dX11_isObject_10 (hA 12 (by decide)) hv ?_
    refine z_icmp_ge (tgt := 18) dX11_isObject_11 (by decide) (fun h2 => ?_) (fun h2 => ?_)
    · refine z_iconst (v := 0) dX11_isObject_18 (by decide) ?_
      exact z_ireturn dX11_isObject_19 rfl (by decide) ⟨rfl, rfl⟩
    · exact absurd (Int32.not_lt.mp h1) h2

set_option maxRecDepth 100000 in
set_option maxHeartbeats 4000000 in
theorem m_kindAt0 {G : xG} {cs : List va_E} (d : Nat) (hd : 1 ≤ d) (hM : Mf G cs) (hp0 ob f : Int32) : X G yX11_kindAt cX11_kindAt 5 (some .int) d [.ref (G.1 + 54), .int hp0, .int ob, .int f] cs (fun r cs1 => r = some (.int (-1)) ∧ cs1 = cs) := by
  refine X.of false (by decide +kernel) (by decide) (Nat.le_of_ble_eq_true rfl) ?_
  show Z (RX11, cX11_kindAt, 5, some .int, false) G d _ 0 [(0, .ref (G.1 + 54)), (1, .int hp0), (2, .int ob), (3, .int f)] [] cs
  have ho := hM.o
  have hA := hM.a
  refine z_iload_n dX11_kindAt_0 rfl rfl ?_
  refine z_iconst (v := 0) dX11_kindAt_1 (by decide) ?_
  refine z_iconst (v := 1) dX11_kindAt_2 (by decide) ?_
  refine z_callS (As := [_, _, _]) eX11_in sX11_in lX11_174 dX11_kindAt_3 (m_in 0 _ _ _) (by omega) rfl (Nat.le_of_ble_eq_true rfl) (fun r cs1 hp => ?_)
  obtain ⟨rfl, rfl⟩ := hp
  refine z_st (st' := [.int (bI (inI hp0 0 1))]) rfl ?_
  refine z_if_eq (tgt := 18) dX11_kindAt_6 (by decide) (fun h1 => ?_) (fun h1 => ?_)
  · refine z_iconst (v := (-1)) dX11_kindAt_18 (by decide) ?_
    exact z_ireturn dX11_kindAt_19 rfl (by rfl) ⟨rfl, rfl⟩
  · refine z_aload_n dX11_kindAt_9 rfl rfl ?_
    refine z_iload_n dX11_kindAt_10 rfl rfl ?_
    refine z_iload_n dX11_kindAt_11 rfl rfl ?_
    refine z_callV (As := [_, _]) eX11_isObject sX11_isObject lX11_247 rfl dX11_kindAt_12 ho (m_isObject0 0 hM (inI_hp (bI_n h1)) _) (by omega) rfl (Nat.le_of_ble_eq_true rfl) (fun r cs1 hp => ?_)
    obtain ⟨rfl, rfl⟩ := hp
    refine z_st (st' := [.int 0]) rfl ?_
    refine z_if_ne (tgt := 20) dX11_kindAt_15 (by decide) (fun h2 => ?_) (fun h2 => ?_)
    · first | exact absurd h1 (by decide) | exact absurd h2 (by decide) | exact absurd h3 (by decide) | exact absurd h4 (by decide) | exact absurd h5 (by decide) | exact absurd h6 (by decide) | exact absurd h7 (by decide) | exact absurd h8 (by decide) | exact absurd h9 (by decide) | exact absurd h10 (by decide) | exact absurd h11 (by decide) | exact absurd (by decide) h1 | exact absurd (by decide) h2 | exact absurd (by decide) h3 | exact absurd (by decide) h4 | exact absurd (by decide) h5 | exact absurd (by decide) h6 | exact absurd (by decide) h7 | exact absurd (by decide) h8 | exact absurd (by decide) h9 | exact absurd (by decide) h10 | exact absurd (by decide) h11
    · refine z_iconst (v := (-1)) dX11_kindAt_18 (by decide) ?_
      exact z_ireturn dX11_kindAt_19 rfl (by rfl) ⟨rfl, rfl⟩

set_option maxRecDepth 100000 in
set_option maxHeartbeats 4000000 in
theorem mx_set {G : xG} {cs : List va_E} (d : Nat) (hd : 2 ≤ d) (hM : Mf G cs) (p q v : Int32) : X G yX11_set cX11_set 5 (some .boolean) d [.ref (G.1 + 54), .int p, .int q, .int v] cs (fun r _ => r = some (.int (0))) := by
  refine X.of false (by decide +kernel) (by decide) (Nat.le_of_ble_eq_true rfl) ?_
  show Z (RX11, cX11_set, 5, some .boolean, false) G d _ 0 [(0, .ref (G.1 + 54)), (1, .int p), (2, .int q), (3, .int v)] [] cs
  have ho := hM.o
  have hA := hM.a
  refine z_aload_n dX11_set_0 rfl rfl ?_
  refine z_iconst (v := 0) dX11_set_1 (by decide) ?_
  refine z_iload_n dX11_set_2 rfl rfl ?_
  refine z_iload_n dX11_set_3 rfl rfl ?_
  refine z_callV (As := [_, _, _]) eX11_kindAt sX11_kindAt lX11_253 rfl dX11_set_4 ho (m_kindAt0 1 (Nat.le_refl _) hM _ _ _) (by omega) rfl (Nat.le_of_ble_eq_true rfl) (fun r cs1 hp => ?_)
  obtain ⟨rfl, rfl⟩ := hp
  refine z_st (st' := [.int (-1)]) rfl ?_
  refine z_istore dX11_set_7 (by decide) ?_
  refine z_iload dX11_set_9 rfl ?_
  refine z_if_eq (tgt := 37) dX11_set_11 (by decide) (fun h1 => ?_) (fun h1 => ?_)
  · first | exact absurd h1 (by decide) | exact absurd h2 (by decide) | exact absurd h3 (by decide) | exact absurd h4 (by decide) | exact absurd h5 (by decide) | exact absurd h6 (by decide) | exact absurd h7 (by decide) | exact absurd h8 (by decide) | exact absurd h9 (by decide) | exact absurd h10 (by decide) | exact absurd h11 (by decide) | exact absurd (by decide) h1 | exact absurd (by decide) h2 | exact absurd (by decide) h3 | exact absurd (by decide) h4 | exact absurd (by decide) h5 | exact absurd (by decide) h6 | exact absurd (by decide) h7 | exact absurd (by decide) h8 | exact absurd (by decide) h9 | exact absurd (by decide) h10 | exact absurd (by decide) h11
  · refine z_iload dX11_set_14 rfl ?_
    refine z_iconst (v := 2) dX11_set_16 (by decide) ?_
    refine z_icmp_ne (tgt := 35) dX11_set_17 (by decide) (fun h2 => ?_) (fun h2 => ?_)
    · refine z_iconst (v := 0) dX11_set_35 (by decide) ?_
      exact z_ireturn dX11_set_36 rfl (by decide) rfl
    · first | exact absurd h1 (by decide) | exact absurd h2 (by decide) | exact absurd h3 (by decide) | exact absurd h4 (by decide) | exact absurd h5 (by decide) | exact absurd h6 (by decide) | exact absurd h7 (by decide) | exact absurd h8 (by decide) | exact absurd h9 (by decide) | exact absurd h10 (by decide) | exact absurd h11 (by decide) | exact absurd (by decide) h1 | exact absurd (by decide) h2 | exact absurd (by decide) h3 | exact absurd (by decide) h4 | exact absurd (by decide) h5 | exact absurd (by decide) h6 | exact absurd (by decide) h7 | exact absurd (by decide) h8 | exact absurd (by decide) h9 | exact absurd (by decide) h10 | exact absurd (by decide) h11

set_option maxRecDepth 100000 in
set_option maxHeartbeats 4000000 in
theorem mx_text {G : xG} {cs : List va_E} (d : Nat) (hd : 2 ≤ d) (hM : Mf G cs) (p q : Int32) : X G yX11_text cX11_text 6 (some .boolean) d [.ref (G.1 + 54), .int p, .int q] cs (fun r _ => r = some (.int (0))) := by
  refine X.of false (by decide +kernel) (by decide) (Nat.le_of_ble_eq_true rfl) ?_
  show Z (RX11, cX11_text, 6, some .boolean, false) G d _ 0 [(0, .ref (G.1 + 54)), (1, .int p), (2, .int q)] [] cs
  have ho := hM.o
  have hA := hM.a
  refine z_aload_n dX11_text_0 rfl rfl ?_
  refine z_iconst (v := 0) dX11_text_1 (by decide) ?_
  refine z_iload_n dX11_text_2 rfl rfl ?_
  refine z_iload_n dX11_text_3 rfl rfl ?_
  refine z_callV (As := [_, _, _]) eX11_kindAt sX11_kindAt lX11_253 rfl dX11_text_4 ho (m_kindAt0 1 (Nat.le_refl _) hM _ _ _) (by omega) rfl (Nat.le_of_ble_eq_true rfl) (fun r cs1 hp => ?_)
  obtain ⟨rfl, rfl⟩ := hp
  refine z_st (st' := [.int (-1)]) rfl ?_
  refine z_iconst (v := 1) dX11_text_7 (by decide) ?_
  refine z_icmp_ne (tgt := 24) dX11_text_8 (by decide) (fun h1 => ?_) (fun h1 => ?_)
  · refine z_iconst (v := 0) dX11_text_24 (by decide) ?_
    refine z_istore_n dX11_text_25 rfl (by decide) ?_
    refine z_iconst (v := 0) dX11_text_26 (by decide) ?_
    refine z_istore dX11_text_27 (by decide) ?_
    refine z_iload dX11_text_29 rfl ?_
    refine z_aload_n dX11_text_31 rfl rfl ?_
    refine z_get kX11 fX11_171 dX11_text_32 ho (by rfl) ?_
    refine z_icmp_ge (tgt := 66) dX11_text_35 (by decide) (fun h2 => ?_) (fun h2 => ?_)
    · refine z_iload_n dX11_text_66 rfl rfl ?_
      refine z_if_ne (tgt := 72) dX11_text_67 (by decide) (fun h3 => ?_) (fun h3 => ?_)
      · first | exact absurd h1 (by decide) | exact absurd h2 (by decide) | exact absurd h3 (by decide) | exact absurd h4 (by decide) | exact absurd h5 (by decide) | exact absurd h6 (by decide) | exact absurd h7 (by decide) | exact absurd h8 (by decide) | exact absurd h9 (by decide) | exact absurd h10 (by decide) | exact absurd h11 (by decide) | exact absurd (by decide) h1 | exact absurd (by decide) h2 | exact absurd (by decide) h3 | exact absurd (by decide) h4 | exact absurd (by decide) h5 | exact absurd (by decide) h6 | exact absurd (by decide) h7 | exact absurd (by decide) h8 | exact absurd (by decide) h9 | exact absurd (by decide) h10 | exact absurd (by decide) h11
      · refine z_iconst (v := 0) dX11_text_70 (by decide) ?_
        exact z_ireturn dX11_text_71 rfl (by decide) rfl
    · first | exact absurd h1 (by decide) | exact absurd h2 (by decide) | exact absurd h3 (by decide) | exact absurd h4 (by decide) | exact absurd h5 (by decide) | exact absurd h6 (by decide) | exact absurd h7 (by decide) | exact absurd h8 (by decide) | exact absurd h9 (by decide) | exact absurd h10 (by decide) | exact absurd h11 (by decide) | exact absurd (by decide) h1 | exact absurd (by decide) h2 | exact absurd (by decide) h3 | exact absurd (by decide) h4 | exact absurd (by decide) h5 | exact absurd (by decide) h6 | exact absurd (by decide) h7 | exact absurd (by decide) h8 | exact absurd (by decide) h9 | exact absurd (by decide) h10 | exact absurd (by decide) h11
  · first | exact absurd h1 (by decide) | exact absurd h2 (by decide) | exact absurd h3 (by decide) | exact absurd h4 (by decide) | exact absurd h5 (by decide) | exact absurd h6 (by decide) | exact absurd h7 (by decide) | exact absurd h8 (by decide) | exact absurd h9 (by decide) | exact absurd h10 (by decide) | exact absurd h11 (by decide) | exact absurd (by decide) h1 | exact absurd (by decide) h2 | exact absurd (by decide) h3 | exact absurd (by decide) h4 | exact absurd (by decide) h5 | exact absurd (by decide) h6 | exact absurd (by decide) h7 | exact absurd (by decide) h8 | exact absurd (by decide) h9 | exact absurd (by decide) h10 | exact absurd (by decide) h11

set_option maxRecDepth 100000 in
set_option maxHeartbeats 4000000 in
theorem mx_add {G : xG} {cs : List va_E} (d : Nat) (hd : 2 ≤ d) (hM : Mf G cs) (p q v : Int32) : X G yX11_add cX11_add 5 (some .int) d [.ref (G.1 + 54), .int p, .int q, .int v] cs (fun r _ => r = some (.int (-1))) := by
  refine X.of false (by decide +kernel) (by decide) (Nat.le_of_ble_eq_true rfl) ?_
  show Z (RX11, cX11_add, 5, some .int, false) G d _ 0 [(0, .ref (G.1 + 54)), (1, .int p), (2, .int q), (3, .int v)] [] cs
  have ho := hM.o
  have hA := hM.a
  refine z_iconst (v := 4) dX11_add_0 (by decide) ?_
  refine z_iload_n dX11_add_1 rfl rfl ?_
  refine z_imul dX11_add_2 ?_
  refine z_iload_n dX11_add_3 rfl rfl ?_
  refine z_iadd dX11_add_4 ?_
  refine z_istore dX11_add_5 (by decide) ?_
  refine z_aload_n dX11_add_7 rfl rfl ?_
  refine z_iconst (v := 0) dX11_add_8 (by decide) ?_
  refine z_iload_n dX11_add_9 rfl rfl ?_
  refine z_iload_n dX11_add_10 rfl rfl ?_
  refine z_callV (As := [_, _, _]) eX11_kindAt sX11_kindAt lX11_253 rfl dX11_add_11 ho (m_kindAt0 1 (Nat.le_refl _) hM _ _ _) (by omega) rfl (Nat.le_of_ble_eq_true rfl) (fun r cs1 hp => ?_)
  obtain ⟨rfl, rfl⟩ := hp
  refine z_st (st' := [.int (-1)]) rfl ?_
  refine z_iconst (v := 3) dX11_add_14 (by decide) ?_
  refine z_icmp_ne (tgt := 39) dX11_add_15 (by decide) (fun h1 => ?_) (fun h1 => ?_)
  · refine z_iconst (v := (-1)) dX11_add_39 (by decide) ?_
    exact z_ireturn dX11_add_40 rfl (by rfl) rfl
  · first | exact absurd h1 (by decide) | exact absurd h2 (by decide) | exact absurd h3 (by decide) | exact absurd h4 (by decide) | exact absurd h5 (by decide) | exact absurd h6 (by decide) | exact absurd h7 (by decide) | exact absurd h8 (by decide) | exact absurd h9 (by decide) | exact absurd h10 (by decide) | exact absurd h11 (by decide) | exact absurd (by decide) h1 | exact absurd (by decide) h2 | exact absurd (by decide) h3 | exact absurd (by decide) h4 | exact absurd (by decide) h5 | exact absurd (by decide) h6 | exact absurd (by decide) h7 | exact absurd (by decide) h8 | exact absurd (by decide) h9 | exact absurd (by decide) h10 | exact absurd (by decide) h11

set_option maxRecDepth 100000 in
set_option maxHeartbeats 4000000 in
theorem mx_limit {G : xG} {cs : List va_E} (d : Nat) (hd : 1 ≤ d) (hM : Mf G cs) (v : Int32) : X G yX11_limit cX11_limit 3 (some .int) d [.ref (G.1 + 54), .int v] cs (fun r _ => r = some (.int (limV v))) := by
  refine X.of false (by decide +kernel) (by decide) (Nat.le_of_ble_eq_true rfl) ?_
  show Z (RX11, cX11_limit, 3, some .int, false) G d _ 0 [(0, .ref (G.1 + 54)), (1, .int v)] [] cs
  have ho := hM.o
  have hA := hM.a
  refine z_iload_n dX11_limit_0 rfl rfl ?_
  refine z_iconst (v := 1) dX11_limit_1 (by decide) ?_
  refine z_bipush (v := 20) dX11_limit_2 (by decide) ?_
  refine z_callS (As := [_, _, _]) eX11_in sX11_in lX11_174 dX11_limit_4 (m_in 0 _ _ _) (by omega) rfl (Nat.le_of_ble_eq_true rfl) (fun r cs1 hp => ?_)
  obtain ⟨rfl, rfl⟩ := hp
  refine z_st (st' := [.int (bI (inI v 1 20))]) rfl ?_
  refine z_if_ne (tgt := 12) dX11_limit_7 (by decide) (fun h1 => ?_) (fun h1 => ?_)
  · refine z_aload_n dX11_limit_12 rfl rfl ?_
    refine z_get kX11 fX11_59 dX11_limit_13 ho (by rfl) ?_
    refine z_istore_n dX11_limit_16 rfl (by decide) ?_
    refine z_aload_n dX11_limit_17 rfl rfl ?_
    refine z_iload_n dX11_limit_18 rfl rfl ?_
    refine z_put kX11 fX11_59 dX11_limit_19 rfl ho (by rfl) (by rfl) (Nat.le_of_ble_eq_true rfl) ?_
    refine z_iload_n dX11_limit_22 rfl rfl ?_
    exact z_ireturn dX11_limit_23 rfl (by rfl) (by have q := bI_n h1; unfold inI at q; unfold limV; by_cases g : v < 1 <;> by_cases g2 : 20 < v <;> simp_all [Int32.not_lt])
  · refine z_iconst (v := (-1)) dX11_limit_10 (by decide) ?_
    exact z_ireturn dX11_limit_11 rfl (by rfl) (by have q := bI_0 (by simpa using h1); unfold inI at q; unfold limV; by_cases g : v < 1 <;> by_cases g2 : 20 < v <;> simp_all [Int32.not_le.mpr])

set_option maxRecDepth 100000 in
set_option maxHeartbeats 4000000 in
theorem mx_write {G : xG} {cs : List va_E} (d : Nat) (hd : 1 ≤ d) (hM : Mf G cs) (p q : Int32) : X G yX11_write cX11_write 5 (some .int) d [.ref (G.1 + 54), .int p, .int q] cs (fun r _ => r = some (.int (-1))) := by
  refine X.of false (by decide +kernel) (by decide) (Nat.le_of_ble_eq_true rfl) ?_
  show Z (RX11, cX11_write, 5, some .int, false) G d _ 0 [(0, .ref (G.1 + 54)), (1, .int p), (2, .int q)] [] cs
  have ho := hM.o
  have hA := hM.a
  refine z_aload_n dX11_write_0 rfl rfl ?_
  refine z_iconst (v := 0) dX11_write_1 (by decide) ?_
  refine z_iload_n dX11_write_2 rfl rfl ?_
  refine z_callV (As := [_, _]) eX11_isObject sX11_isObject lX11_247 rfl dX11_write_3 ho (m_isObject0 0 hM (vp_in_nI (n := 0) (by decide) (by decide)) _) (by omega) rfl (Nat.le_of_ble_eq_true rfl) (fun r cs1 hp => ?_)
  obtain ⟨rfl, rfl⟩ := hp
  refine z_st (st' := [.int 0]) rfl ?_
  refine z_if_eq (tgt := 18) dX11_write_6 (by decide) (fun h1 => ?_) (fun h1 => ?_)
  · refine z_iconst (v := (-1)) dX11_write_18 (by decide) ?_
    exact z_ireturn dX11_write_19 rfl (by rfl) rfl
  · first | exact absurd h1 (by decide) | exact absurd h2 (by decide) | exact absurd h3 (by decide) | exact absurd h4 (by decide) | exact absurd h5 (by decide) | exact absurd h6 (by decide) | exact absurd h7 (by decide) | exact absurd h8 (by decide) | exact absurd h9 (by decide) | exact absurd h10 (by decide) | exact absurd h11 (by decide) | exact absurd (by decide) h1 | exact absurd (by decide) h2 | exact absurd (by decide) h3 | exact absurd (by decide) h4 | exact absurd (by decide) h5 | exact absurd (by decide) h6 | exact absurd (by decide) h7 | exact absurd (by decide) h8 | exact absurd (by decide) h9 | exact absurd (by decide) h10 | exact absurd (by decide) h11

set_option maxRecDepth 100000 in
set_option maxHeartbeats 4000000 in
theorem mx_sign {G : xG} {cs : List va_E} (d : Nat) (hd : 1 ≤ d) (hM : Mf G cs) (i : Int32) : X G yX11_sign cX11_sign 2 (some .int) d [.ref (G.1 + 54), .int i] cs (fun r _ => r = some (.int (-1))) := by
  refine X.of false (by decide +kernel) (by decide) (Nat.le_of_ble_eq_true rfl) ?_
  show Z (RX11, cX11_sign, 2, some .int, false) G d _ 0 [(0, .ref (G.1 + 54)), (1, .int i)] [] cs
  have ho := hM.o
  have hA := hM.a
  refine z_iload_n dX11_sign_0 rfl rfl ?_
  refine z_iconst (v := 0) dX11_sign_1 (by decide) ?_
  refine z_aload_n dX11_sign_2 rfl rfl ?_
  refine z_get kX11 fX11_244 dX11_sign_3 ho (by rfl) ?_
  refine z_iconst (v := 1) dX11_sign_6 (by decide) ?_
  refine z_isub dX11_sign_7 ?_
  refine z_callS (As := [_, _, _]) eX11_in sX11_in lX11_174 dX11_sign_8 (m_in 0 _ _ _) (by omega) rfl (Nat.le_of_ble_eq_true rfl) (fun r cs1 hp => ?_)
  obtain ⟨rfl, rfl⟩ := hp
  refine z_st (st' := [.int 0]) (by rw [inI_m1]; rfl) ?_
  refine z_if_eq (tgt := 23) dX11_sign_11 (by decide) (fun h1 => ?_) (fun h1 => ?_)
  · refine z_iconst (v := (-1)) dX11_sign_23 (by decide) ?_
    exact z_ireturn dX11_sign_24 rfl (by rfl) rfl
  · first | exact absurd h1 (by decide) | exact absurd h2 (by decide) | exact absurd h3 (by decide) | exact absurd h4 (by decide) | exact absurd h5 (by decide) | exact absurd h6 (by decide) | exact absurd h7 (by decide) | exact absurd h8 (by decide) | exact absurd h9 (by decide) | exact absurd h10 (by decide) | exact absurd h11 (by decide) | exact absurd (by decide) h1 | exact absurd (by decide) h2 | exact absurd (by decide) h3 | exact absurd (by decide) h4 | exact absurd (by decide) h5 | exact absurd (by decide) h6 | exact absurd (by decide) h7 | exact absurd (by decide) h8 | exact absurd (by decide) h9 | exact absurd (by decide) h10 | exact absurd (by decide) h11

set_option maxRecDepth 100000 in
set_option maxHeartbeats 4000000 in
theorem mx_take {G : xG} {cs : List va_E} (d : Nat) (hM : Mf G cs) : X G yX11_take cX11_take 2 (some .int) d [.ref (G.1 + 54)] cs (fun r _ => r = some (.int (0))) := by
  refine X.of false (by decide +kernel) (by decide) (Nat.le_of_ble_eq_true rfl) ?_
  show Z (RX11, cX11_take, 2, some .int, false) G d _ 0 [(0, .ref (G.1 + 54))] [] cs
  have ho := hM.o
  have hA := hM.a
  refine z_aload_n dX11_take_0 rfl rfl ?_
  refine z_aload_n dX11_take_1 rfl rfl ?_
  refine z_get kX11 fX11_244 dX11_take_2 ho (by rfl) ?_
  refine z_put kX11 fX11_171 dX11_take_5 rfl ho (by rfl) (by rfl) (Nat.le_of_ble_eq_true rfl) ?_
  refine z_iconst (v := 0) dX11_take_8 (by decide) ?_
  refine z_istore_n dX11_take_9 rfl (by decide) ?_
  refine z_iload_n dX11_take_10 rfl rfl ?_
  refine z_aload_n dX11_take_11 rfl rfl ?_
  refine z_get kX11 fX11_244 dX11_take_12 (set_at ho) (by rfl) ?_
  refine z_icmp_ge (tgt := 36) dX11_take_15 (by decide) (fun h1 => ?_) (fun h1 => ?_)
  · refine z_aload_n dX11_take_36 rfl rfl ?_
    refine z_get kX11 fX11_244 dX11_take_37 (set_at ho) (by rfl) ?_
    exact z_ireturn dX11_take_40 rfl (by rfl) rfl
  · first | exact absurd h1 (by decide) | exact absurd h2 (by decide) | exact absurd h3 (by decide) | exact absurd h4 (by decide) | exact absurd h5 (by decide) | exact absurd h6 (by decide) | exact absurd h7 (by decide) | exact absurd h8 (by decide) | exact absurd h9 (by decide) | exact absurd h10 (by decide) | exact absurd h11 (by decide) | exact absurd (by decide) h1 | exact absurd (by decide) h2 | exact absurd (by decide) h3 | exact absurd (by decide) h4 | exact absurd (by decide) h5 | exact absurd (by decide) h6 | exact absurd (by decide) h7 | exact absurd (by decide) h8 | exact absurd (by decide) h9 | exact absurd (by decide) h10 | exact absurd (by decide) h11

set_option maxRecDepth 100000 in
set_option maxHeartbeats 4000000 in
theorem mx_forbid {G : xG} {cs : List va_E} (d : Nat) (hd : 1 ≤ d) (hM : Mf G cs) (c b : Int32) : X G yX11_forbid cX11_forbid 4 (some .boolean) d [.ref (G.1 + 54), .int c, .int b] cs (fun r _ => r = some (.int (0))) := by
  refine X.of false (by decide +kernel) (by decide) (Nat.le_of_ble_eq_true rfl) ?_
  show Z (RX11, cX11_forbid, 4, some .boolean, false) G d _ 0 [(0, .ref (G.1 + 54)), (1, .int c), (2, .int b)] [] cs
  have ho := hM.o
  have hA := hM.a
  refine z_iload_n dX11_forbid_0 rfl rfl ?_
  refine z_iconst (v := 0) dX11_forbid_1 (by decide) ?_
  refine z_aload_n dX11_forbid_2 rfl rfl ?_
  refine z_get kX11 fX11_238 dX11_forbid_3 ho (by rfl) ?_
  refine z_iconst (v := 1) dX11_forbid_6 (by decide) ?_
  refine z_isub dX11_forbid_7 ?_
  refine z_callS (As := [_, _, _]) eX11_in sX11_in lX11_174 dX11_forbid_8 (m_in 0 _ _ _) (by omega) rfl (Nat.le_of_ble_eq_true rfl) (fun r cs1 hp => ?_)
  obtain ⟨rfl, rfl⟩ := hp
  refine z_st (st' := [.int 0]) (by rw [inI_m1]; rfl) ?_
  refine z_if_ne (tgt := 16) dX11_forbid_11 (by decide) (fun h1 => ?_) (fun h1 => ?_)
  · first | exact absurd h1 (by decide) | exact absurd h2 (by decide) | exact absurd h3 (by decide) | exact absurd h4 (by decide) | exact absurd h5 (by decide) | exact absurd h6 (by decide) | exact absurd h7 (by decide) | exact absurd h8 (by decide) | exact absurd h9 (by decide) | exact absurd h10 (by decide) | exact absurd h11 (by decide) | exact absurd (by decide) h1 | exact absurd (by decide) h2 | exact absurd (by decide) h3 | exact absurd (by decide) h4 | exact absurd (by decide) h5 | exact absurd (by decide) h6 | exact absurd (by decide) h7 | exact absurd (by decide) h8 | exact absurd (by decide) h9 | exact absurd (by decide) h10 | exact absurd (by decide) h11
  · refine z_iconst (v := 0) dX11_forbid_14 (by decide) ?_
    exact z_ireturn dX11_forbid_15 rfl (by decide) rfl

set_option maxRecDepth 100000 in
set_option maxHeartbeats 4000000 in
theorem mx_read {G : xG} {cs : List va_E} (d : Nat) (hM : Mf G cs) : X G yX11_read cX11_read 3 (some .int) d [.ref (G.1 + 54)] cs (fun r _ => r = some (.int (-3001))) := by
  refine X.of false (by decide +kernel) (by decide) (Nat.le_of_ble_eq_true rfl) ?_
  show Z (RX11, cX11_read, 3, some .int, false) G d _ 0 [(0, .ref (G.1 + 54))] [] cs
  have ho := hM.o
  have hA := hM.a
  refine z_aload_n dX11_read_0 rfl rfl ?_
  refine z_get kX11 fX11_238 dX11_read_1 ho (by rfl) ?_
  refine z_if_ne (tgt := 11) dX11_read_4 (by decide) (fun h1 => ?_) (fun h1 => ?_)
  · first | exact absurd h1 (by decide) | exact absurd h2 (by decide) | exact absurd h3 (by decide) | exact absurd h4 (by decide) | exact absurd h5 (by decide) | exact absurd h6 (by decide) | exact absurd h7 (by decide) | exact absurd h8 (by decide) | exact absurd h9 (by decide) | exact absurd h10 (by decide) | exact absurd h11 (by decide) | exact absurd (by decide) h1 | exact absurd (by decide) h2 | exact absurd (by decide) h3 | exact absurd (by decide) h4 | exact absurd (by decide) h5 | exact absurd (by decide) h6 | exact absurd (by decide) h7 | exact absurd (by decide) h8 | exact absurd (by decide) h9 | exact absurd (by decide) h10 | exact absurd (by decide) h11
  · refine z_sipush (v := (-3001)) dX11_read_7 (by decide) ?_
    exact z_ireturn dX11_read_10 rfl (by rfl) rfl

set_option maxRecDepth 100000 in
set_option maxHeartbeats 4000000 in
theorem mx_same {G : xG} {cs : List va_E} (d : Nat) (hM : Mf G cs) (p : Int32) : X G yX11_same cX11_same 4 (some .boolean) d [.ref (G.1 + 54), .int p] cs (fun r _ => r = some (.int (0))) := by
  refine X.of false (by decide +kernel) (by decide) (Nat.le_of_ble_eq_true rfl) ?_
  show Z (RX11, cX11_same, 4, some .boolean, false) G d _ 0 [(0, .ref (G.1 + 54)), (1, .int p)] [] cs
  have ho := hM.o
  have hA := hM.a
  refine z_aload_n dX11_same_0 rfl rfl ?_
  refine z_get kX11 fX11_241 dX11_same_1 ho (by rfl) ?_
  refine z_if_eq (tgt := 16) dX11_same_4 (by decide) (fun h1 => ?_) (fun h1 => ?_)
  · refine z_iconst (v := 0) dX11_same_16 (by decide) ?_
    exact z_ireturn dX11_same_17 rfl (by decide) rfl
  · first | exact absurd h1 (by decide) | exact absurd h2 (by decide) | exact absurd h3 (by decide) | exact absurd h4 (by decide) | exact absurd h5 (by decide) | exact absurd h6 (by decide) | exact absurd h7 (by decide) | exact absurd h8 (by decide) | exact absurd h9 (by decide) | exact absurd h10 (by decide) | exact absurd h11 (by decide) | exact absurd (by decide) h1 | exact absurd (by decide) h2 | exact absurd (by decide) h3 | exact absurd (by decide) h4 | exact absurd (by decide) h5 | exact absurd (by decide) h6 | exact absurd (by decide) h7 | exact absurd (by decide) h8 | exact absurd (by decide) h9 | exact absurd (by decide) h10 | exact absurd (by decide) h11

set_option maxRecDepth 100000 in
set_option maxHeartbeats 4000000 in
theorem mx_kind {G : xG} {cs : List va_E} (d : Nat) (hd : 1 ≤ d) (hM : Mf G cs) (i p : Int32) : X G yX11_kind cX11_kind 3 (some .int) d [.ref (G.1 + 54), .int i, .int p] cs (fun r _ => r = some (.int (-1))) := by
  refine X.of false (by decide +kernel) (by decide) (Nat.le_of_ble_eq_true rfl) ?_
  show Z (RX11, cX11_kind, 3, some .int, false) G d _ 0 [(0, .ref (G.1 + 54)), (1, .int i), (2, .int p)] [] cs
  have ho := hM.o
  have hA := hM.a
  refine z_iload_n dX11_kind_0 rfl rfl ?_
  refine z_iconst (v := 0) dX11_kind_1 (by decide) ?_
  refine z_iconst (v := 1) dX11_kind_2 (by decide) ?_
  refine z_callS (As := [_, _, _]) eX11_in sX11_in lX11_174 dX11_kind_3 (m_in 0 _ _ _) (by omega) rfl (Nat.le_of_ble_eq_true rfl) (fun r cs1 hp => ?_)
  obtain ⟨rfl, rfl⟩ := hp
  refine z_st (st' := [.int (bI (inI i 0 1))]) rfl ?_
  refine z_if_eq (tgt := 32) dX11_kind_6 (by decide) (fun h1 => ?_) (fun h1 => ?_)
  · refine z_iconst (v := (-1)) dX11_kind_32 (by decide) ?_
    exact z_ireturn dX11_kind_33 rfl (by rfl) rfl
  · refine z_aload_n dX11_kind_9 rfl rfl ?_
    refine z_iload_n dX11_kind_10 rfl rfl ?_
    refine z_iload_n dX11_kind_11 rfl rfl ?_
    refine z_callV (As := [_, _]) eX11_isObject sX11_isObject lX11_247 rfl dX11_kind_12 ho (m_isObject0 0 hM (inI_hp (bI_n h1)) _) (by omega) rfl (Nat.le_of_ble_eq_true rfl) (fun r cs1 hp => ?_)
    obtain ⟨rfl, rfl⟩ := hp
    refine z_st (st' := [.int 0]) rfl ?_
    refine z_if_eq (tgt := 32) dX11_kind_15 (by decide) (fun h2 => ?_) (fun h2 => ?_)
    · refine z_iconst (v := (-1)) dX11_kind_32 (by decide) ?_
      exact z_ireturn dX11_kind_33 rfl (by rfl) rfl
    · first | exact absurd h1 (by decide) | exact absurd h2 (by decide) | exact absurd h3 (by decide) | exact absurd h4 (by decide) | exact absurd h5 (by decide) | exact absurd h6 (by decide) | exact absurd h7 (by decide) | exact absurd h8 (by decide) | exact absurd h9 (by decide) | exact absurd h10 (by decide) | exact absurd h11 (by decide) | exact absurd (by decide) h1 | exact absurd (by decide) h2 | exact absurd (by decide) h3 | exact absurd (by decide) h4 | exact absurd (by decide) h5 | exact absurd (by decide) h6 | exact absurd (by decide) h7 | exact absurd (by decide) h8 | exact absurd (by decide) h9 | exact absurd (by decide) h10 | exact absurd (by decide) h11

set_option maxRecDepth 100000 in
set_option maxHeartbeats 4000000 in
theorem mx_value {G : xG} {cs : List va_E} (d : Nat) (hd : 2 ≤ d) (hM : Mf G cs) (i p q j : Int32) : X G yX11_value cX11_value 7 (some .int) d [.ref (G.1 + 54), .int i, .int p, .int q, .int j] cs (fun r _ => r = some (.int (0))) := by
  refine X.of false (by decide +kernel) (by decide) (Nat.le_of_ble_eq_true rfl) ?_
  show Z (RX11, cX11_value, 7, some .int, false) G d _ 0 [(0, .ref (G.1 + 54)), (1, .int i), (2, .int p), (3, .int q), (4, .int j)] [] cs
  have ho := hM.o
  have hA := hM.a
  refine z_aload_n dX11_value_0 rfl rfl ?_
  refine z_iload_n dX11_value_1 rfl rfl ?_
  refine z_iload_n dX11_value_2 rfl rfl ?_
  refine z_iload_n dX11_value_3 rfl rfl ?_
  refine z_callV (As := [_, _, _]) eX11_kindAt sX11_kindAt lX11_253 rfl dX11_value_4 ho (m_kindAt0 1 (Nat.le_refl _) hM _ _ _) (by omega) rfl (Nat.le_of_ble_eq_true rfl) (fun r cs1 hp => ?_)
  obtain ⟨rfl, rfl⟩ := hp
  refine z_st (st' := [.int (-1)]) rfl ?_
  refine z_istore dX11_value_7 (by decide) ?_
  refine z_iload dX11_value_9 rfl ?_
  refine z_iconst (v := (-1)) dX11_value_11 (by decide) ?_
  refine z_icmp_ne (tgt := 17) dX11_value_12 (by decide) (fun h1 => ?_) (fun h1 => ?_)
  · first | exact absurd h1 (by decide) | exact absurd h2 (by decide) | exact absurd h3 (by decide) | exact absurd h4 (by decide) | exact absurd h5 (by decide) | exact absurd h6 (by decide) | exact absurd h7 (by decide) | exact absurd h8 (by decide) | exact absurd h9 (by decide) | exact absurd h10 (by decide) | exact absurd h11 (by decide) | exact absurd (by decide) h1 | exact absurd (by decide) h2 | exact absurd (by decide) h3 | exact absurd (by decide) h4 | exact absurd (by decide) h5 | exact absurd (by decide) h6 | exact absurd (by decide) h7 | exact absurd (by decide) h8 | exact absurd (by decide) h9 | exact absurd (by decide) h10 | exact absurd (by decide) h11
  · refine z_iconst (v := 0) dX11_value_15 (by decide) ?_
    exact z_ireturn dX11_value_16 rfl (by rfl) rfl

set_option maxRecDepth 100000 in
set_option maxHeartbeats 4000000 in
theorem mx_count {G : xG} {cs : List va_E} (d : Nat) (hM : Mf G cs) (v : Int32) : X G yX11_count cX11_count 4 (some .int) d [.ref (G.1 + 54), .int v] cs (fun r _ => r = some (.int (cntV v))) := by
  refine X.of false (by decide +kernel) (by decide) (Nat.le_of_ble_eq_true rfl) ?_
  show Z (RX11, cX11_count, 4, some .int, false) G d _ 0 [(0, .ref (G.1 + 54)), (1, .int v)] [] cs
  have ho := hM.o
  have hA := hM.a
  refine z_iconst (v := 0) dX11_count_0 (by decide) ?_
  refine z_istore_n dX11_count_1 rfl (by decide) ?_
  refine z_iconst (v := 0) dX11_count_2 (by decide) ?_
  refine z_istore_n dX11_count_3 rfl (by decide) ?_
  refine z_iload_n dX11_count_4 rfl rfl ?_
  refine z_aload_n dX11_count_5 rfl rfl ?_
  refine z_get kX11 fX11_238 dX11_count_6 ho (by rfl) ?_
  refine z_icmp_ge (tgt := 35) dX11_count_9 (by decide) (fun h1 => ?_) (fun h1 => ?_)
  · refine z_iload_n dX11_count_35 rfl rfl ?_
    by_cases g0 : v = 0
    · subst g0
      refine z_tableIn (tgt := 76) dX11_count_36 (by decide) (by decide) rfl (by decide) ?_
      refine z_aload_n dX11_count_76 rfl rfl ?_
      refine z_get kX11 fX11_238 dX11_count_77 ho (by rfl) ?_
      exact z_ireturn dX11_count_80 rfl (by rfl) rfl
    by_cases g1 : v = 1
    · subst g1
      refine z_tableIn (tgt := 81) dX11_count_36 (by decide) (by decide) rfl (by decide) ?_
      refine z_aload_n dX11_count_81 rfl rfl ?_
      refine z_get kX11 fX11_47 dX11_count_82 ho (by rfl) ?_
      refine z_iconst (v := 0) dX11_count_85 (by decide) ?_
      refine z_iald dX11_count_86 (hA 12 (by decide)) (vp_in_nI (n := 0) (by decide) (by decide)) ?_
      exact z_ireturn dX11_count_87 rfl (by rfl) rfl
    by_cases g2 : v = 2
    · subst g2
      refine z_tableIn (tgt := 88) dX11_count_36 (by decide) (by decide) rfl (by decide) ?_
      refine z_aload_n dX11_count_88 rfl rfl ?_
      refine z_get kX11 fX11_47 dX11_count_89 ho (by rfl) ?_
      refine z_iconst (v := 1) dX11_count_92 (by decide) ?_
      refine z_iald dX11_count_93 (hA 12 (by decide)) (vp_in_nI (n := 1) (by decide) (by decide)) ?_
      exact z_ireturn dX11_count_94 rfl (by rfl) rfl
    by_cases g3 : v = 3
    · subst g3
      refine z_tableIn (tgt := 95) dX11_count_36 (by decide) (by decide) rfl (by decide) ?_
      refine z_aload_n dX11_count_95 rfl rfl ?_
      refine z_get kX11 fX11_244 dX11_count_96 ho (by rfl) ?_
      exact z_ireturn dX11_count_99 rfl (by rfl) rfl
    by_cases g4 : v = 4
    · subst g4
      refine z_tableIn (tgt := 100) dX11_count_36 (by decide) (by decide) rfl (by decide) ?_
      refine z_aload_n dX11_count_100 rfl rfl ?_
      refine z_get kX11 fX11_171 dX11_count_101 ho (by rfl) ?_
      exact z_ireturn dX11_count_104 rfl (by rfl) rfl
    by_cases g5 : v = 5
    · subst g5
      refine z_tableIn (tgt := 105) dX11_count_36 (by decide) (by decide) rfl (by decide) ?_
      refine z_iload_n dX11_count_105 rfl rfl ?_
      exact z_ireturn dX11_count_106 rfl (by rfl) rfl
    have t0 := ti_ne (k := 0) 0 (by decide) g0; have t1 := ti_ne (k := 1) 1 (by decide) g1; have t2 := ti_ne (k := 2) 2 (by decide) g2; have t3 := ti_ne (k := 3) 3 (by decide) g3; have t4 := ti_ne (k := 4) 4 (by decide) g4; have t5 := ti_ne (k := 5) 5 (by decide) g5
    refine z_tableOut (tgt := 107) dX11_count_36 (by omega) (by decide) ?_
    refine z_iconst (v := (-1)) dX11_count_107 (by decide) ?_
    exact z_ireturn dX11_count_108 rfl (by rfl) (by simp [cntV, *])
  · first | exact absurd h1 (by decide) | exact absurd h2 (by decide) | exact absurd h3 (by decide) | exact absurd h4 (by decide) | exact absurd h5 (by decide) | exact absurd h6 (by decide) | exact absurd h7 (by decide) | exact absurd h8 (by decide) | exact absurd h9 (by decide) | exact absurd h10 (by decide) | exact absurd h11 (by decide) | exact absurd (by decide) h1 | exact absurd (by decide) h2 | exact absurd (by decide) h3 | exact absurd (by decide) h4 | exact absurd (by decide) h5 | exact absurd (by decide) h6 | exact absurd (by decide) h7 | exact absurd (by decide) h8 | exact absurd (by decide) h9 | exact absurd (by decide) h10 | exact absurd (by decide) h11

def Mb (G : xG) (cs : List va_E) : Prop := (∃ f, cs[63]? = some (.inl (G.2.2.1 0, 30, .inl f))) ∧ ∃ f, cs[62]? = some (.inl (G.2.2.1 0, 6, .inl f))
theorem Ma.b {G : xG} {cs : List va_E} (h : Ma G cs) : Mb G cs := ⟨⟨_, h 8 (by decide)⟩, ⟨_, h 7 (by decide)⟩⟩
theorem Mb.o {G : xG} {cs : List va_E} {e : va_E} (h : Mb G cs) : Mb G (cs.set 54 e) := by
  obtain ⟨⟨f, h1⟩, g, h2⟩ := h
  exact ⟨⟨f, set_ne (by decide) h1⟩, g, set_ne (by decide) h2⟩
set_option maxRecDepth 100000 in
set_option maxHeartbeats 4000000 in
theorem m_signAt0 {G : xG} {cs : List va_E} (d : Nat) {a w b : Int32} (ho : cs[54]? = some (mO G a w b)) : X G yX11_signAt cX11_signAt 2 (some .int) d [.ref (G.1 + 54), .int 0] cs (fun r cs1 => r = some (.int 0) ∧ cs1 = cs) := by
  refine X.of false (by decide +kernel) (by decide) (Nat.le_of_ble_eq_true rfl) ?_
  show Z (RX11, cX11_signAt, 2, some .int, false) G d _ 0 [(0, .ref (G.1 + 54)), (1, .int 0)] [] cs
  refine z_iload_n dX11_signAt_0 rfl rfl ?_
  refine z_aload_n dX11_signAt_1 rfl rfl ?_
  refine z_get kX11 fX11_171 dX11_signAt_2 ho (by rfl) ?_
  refine z_icmp_ge (tgt := 17) dX11_signAt_5 (by decide) (fun h1 => ?_) (fun h1 => ?_)
  · refine z_iconst (v := 0) dX11_signAt_17 (by decide) ?_
    exact z_ireturn dX11_signAt_18 rfl (by rfl) ⟨rfl, rfl⟩
  · first | exact absurd h1 (by decide) | exact absurd h2 (by decide) | exact absurd h3 (by decide) | exact absurd h4 (by decide) | exact absurd h5 (by decide) | exact absurd h6 (by decide) | exact absurd h7 (by decide) | exact absurd h8 (by decide) | exact absurd h9 (by decide) | exact absurd h10 (by decide) | exact absurd h11 (by decide) | exact absurd (by decide) h1 | exact absurd (by decide) h2 | exact absurd (by decide) h3 | exact absurd (by decide) h4 | exact absurd (by decide) h5 | exact absurd (by decide) h6 | exact absurd (by decide) h7 | exact absurd (by decide) h8 | exact absurd (by decide) h9 | exact absurd (by decide) h10 | exact absurd (by decide) h11

set_option maxRecDepth 100000 in
set_option maxHeartbeats 4000000 in
theorem m_nameAt0 {G : xG} {cs : List va_E} (d : Nat) (hd : 1 ≤ d) {a w b : Int32} (ho : cs[54]? = some (mO G a w b)) (hb : Mb G cs) : X G yX11_nameAt cX11_nameAt 5 (some .int) d [.ref (G.1 + 54), .int 0, .int 0] cs (fun r cs1 => r = some (.int (-2)) ∧ cs1[54]? = some (mO G a w b) ∧ Mb G cs1) := by
  refine X.of false (by decide +kernel) (by decide) (Nat.le_of_ble_eq_true rfl) ?_
  show Z (RX11, cX11_nameAt, 5, some .int, false) G d _ 0 [(0, .ref (G.1 + 54)), (1, .int 0), (2, .int 0)] [] cs
  obtain ⟨⟨fs, hs⟩, ff, hf⟩ := hb
  refine z_iconst (v := 0) dX11_nameAt_0 (by decide) ?_
  refine z_istore_n dX11_nameAt_1 rfl (by decide) ?_
  refine z_aload_n dX11_nameAt_2 rfl rfl ?_
  refine z_iload_n dX11_nameAt_3 rfl rfl ?_
  refine z_callV (As := [_]) eX11_signAt sX11_signAt lX11_182 rfl dX11_nameAt_4 ho (m_signAt0 0 ho) (by omega) rfl (Nat.le_of_ble_eq_true rfl) (fun r cs1 hp => ?_)
  obtain ⟨rfl, rfl⟩ := hp
  refine z_st (st' := [.int 0]) rfl ?_
  refine z_istore dX11_nameAt_7 (by decide) ?_
  refine z_iload dX11_nameAt_9 rfl ?_
  refine z_callS (As := [_]) eX11_isLetter sX11_isLetter lX11_186 dX11_nameAt_11 (m_isLetter 0 _) (by omega) rfl (Nat.le_of_ble_eq_true rfl) (fun r cs1 hp => ?_)
  obtain ⟨rfl, rfl⟩ := hp
  refine z_st (st' := [.int 0]) rfl ?_
  refine z_if_ne (tgt := 43) dX11_nameAt_14 (by decide) (fun h1 => ?_) (fun h1 => ?_)
  · first | exact absurd h1 (by decide) | exact absurd h2 (by decide) | exact absurd h3 (by decide) | exact absurd h4 (by decide) | exact absurd h5 (by decide) | exact absurd h6 (by decide) | exact absurd h7 (by decide) | exact absurd h8 (by decide) | exact absurd h9 (by decide) | exact absurd h10 (by decide) | exact absurd h11 (by decide) | exact absurd (by decide) h1 | exact absurd (by decide) h2 | exact absurd (by decide) h3 | exact absurd (by decide) h4 | exact absurd (by decide) h5 | exact absurd (by decide) h6 | exact absurd (by decide) h7 | exact absurd (by decide) h8 | exact absurd (by decide) h9 | exact absurd (by decide) h10 | exact absurd (by decide) h11
  · refine z_iload dX11_nameAt_17 rfl ?_
    refine z_bipush (v := 95) dX11_nameAt_19 (by decide) ?_
    refine z_icmp_eq (tgt := 43) dX11_nameAt_21 (by decide) (fun h2 => ?_) (fun h2 => ?_)
    · first | exact absurd h1 (by decide) | exact absurd h2 (by decide) | exact absurd h3 (by decide) | exact absurd h4 (by decide) | exact absurd h5 (by decide) | exact absurd h6 (by decide) | exact absurd h7 (by decide) | exact absurd h8 (by decide) | exact absurd h9 (by decide) | exact absurd h10 (by decide) | exact absurd h11 (by decide) | exact absurd (by decide) h1 | exact absurd (by decide) h2 | exact absurd (by decide) h3 | exact absurd (by decide) h4 | exact absurd (by decide) h5 | exact absurd (by decide) h6 | exact absurd (by decide) h7 | exact absurd (by decide) h8 | exact absurd (by decide) h9 | exact absurd (by decide) h10 | exact absurd (by decide) h11
    · refine z_iload dX11_nameAt_24 rfl ?_
      refine z_bipush (v := 36) dX11_nameAt_26 (by decide) ?_
      refine z_icmp_eq (tgt := 43) dX11_nameAt_28 (by decide) (fun h3 => ?_) (fun h3 => ?_)
      · first | exact absurd h1 (by decide) | exact absurd h2 (by decide) | exact absurd h3 (by decide) | exact absurd h4 (by decide) | exact absurd h5 (by decide) | exact absurd h6 (by decide) | exact absurd h7 (by decide) | exact absurd h8 (by decide) | exact absurd h9 (by decide) | exact absurd h10 (by decide) | exact absurd h11 (by decide) | exact absurd (by decide) h1 | exact absurd (by decide) h2 | exact absurd (by decide) h3 | exact absurd (by decide) h4 | exact absurd (by decide) h5 | exact absurd (by decide) h6 | exact absurd (by decide) h7 | exact absurd (by decide) h8 | exact absurd (by decide) h9 | exact absurd (by decide) h10 | exact absurd (by decide) h11
      · refine z_iload_n dX11_nameAt_31 rfl rfl ?_
        refine z_if_le (tgt := 80) dX11_nameAt_32 (by decide) (fun h4 => ?_) (fun h4 => ?_)
        · refine z_aload_n dX11_nameAt_80 rfl rfl ?_
          refine z_get kX11 fX11_35 dX11_nameAt_81 ho (by rfl) ?_
          refine z_iload_n dX11_nameAt_84 rfl rfl ?_
          refine z_iload_n dX11_nameAt_85 rfl rfl ?_
          refine z_iast dX11_nameAt_86 hs (vp_in_nI (n := 0) (by decide) (by decide)) ?_
          refine z_iload_n dX11_nameAt_87 rfl rfl ?_
          refine z_if_ne (tgt := 96) dX11_nameAt_88 (by decide) (fun h5 => ?_) (fun h5 => ?_)
          · first | exact absurd h1 (by decide) | exact absurd h2 (by decide) | exact absurd h3 (by decide) | exact absurd h4 (by decide) | exact absurd h5 (by decide) | exact absurd h6 (by decide) | exact absurd h7 (by decide) | exact absurd h8 (by decide) | exact absurd h9 (by decide) | exact absurd h10 (by decide) | exact absurd h11 (by decide) | exact absurd (by decide) h1 | exact absurd (by decide) h2 | exact absurd (by decide) h3 | exact absurd (by decide) h4 | exact absurd (by decide) h5 | exact absurd (by decide) h6 | exact absurd (by decide) h7 | exact absurd (by decide) h8 | exact absurd (by decide) h9 | exact absurd (by decide) h10 | exact absurd (by decide) h11
          · refine z_bipush (v := (-2)) dX11_nameAt_91 (by decide) ?_
            refine z_goto (tgt := 97) dX11_nameAt_93 (by decide) ?_
            exact z_ireturn dX11_nameAt_97 rfl (by rfl) ⟨rfl, set_ne (by decide) ho, ⟨_, set_at hs⟩, _, set_ne (by decide) hf⟩
        · first | exact absurd h1 (by decide) | exact absurd h2 (by decide) | exact absurd h3 (by decide) | exact absurd h4 (by decide) | exact absurd h5 (by decide) | exact absurd h6 (by decide) | exact absurd h7 (by decide) | exact absurd h8 (by decide) | exact absurd h9 (by decide) | exact absurd h10 (by decide) | exact absurd h11 (by decide) | exact absurd (by decide) h1 | exact absurd (by decide) h2 | exact absurd (by decide) h3 | exact absurd (by decide) h4 | exact absurd (by decide) h5 | exact absurd (by decide) h6 | exact absurd (by decide) h7 | exact absurd (by decide) h8 | exact absurd (by decide) h9 | exact absurd (by decide) h10 | exact absurd (by decide) h11

set_option maxRecDepth 100000 in
set_option maxHeartbeats 4000000 in
theorem m_name0 {G : xG} {cs : List va_E} (d : Nat) (hd : 2 ≤ d) (ho : cs[54]? = some (mO G 0 0 0)) (hb : Mb G cs) : X G yX11_name cX11_name 7 none d [.ref (G.1 + 54), .int 0, .int 0, .int 0] cs (fun r cs1 => r = none ∧ cs1[54]? = some (mO G 0 1 0) ∧ Mb G cs1) := by
  refine X.of false (by decide +kernel) (by decide) (Nat.le_of_ble_eq_true rfl) ?_
  show Z (RX11, cX11_name, 7, none, false) G d _ 0 [(0, .ref (G.1 + 54)), (1, .int 0), (2, .int 0), (3, .int 0)] [] cs
  refine z_aload_n dX11_name_0 rfl rfl ?_
  refine z_aload_n dX11_name_1 rfl rfl ?_
  refine z_get kX11 fX11_200 dX11_name_2 ho (by rfl) ?_
  refine z_iload_n dX11_name_5 rfl rfl ?_
  refine z_callV (As := [_, _]) eX11_nameAt sX11_nameAt lX11_203 rfl dX11_name_6 ho (m_nameAt0 1 (Nat.le_refl _) ho hb) (by omega) rfl (Nat.le_of_ble_eq_true rfl) (fun r cs1 hp => ?_)
  obtain ⟨rfl, ho1, hb1⟩ := hp
  refine z_st (st' := [.int (-2)]) rfl ?_
  refine z_istore dX11_name_9 (by decide) ?_
  refine z_iload dX11_name_11 rfl ?_
  refine z_if_ge (tgt := 36) dX11_name_13 (by decide) (fun h1 => ?_) (fun h1 => ?_)
  · first | exact absurd h1 (by decide) | exact absurd h2 (by decide) | exact absurd h3 (by decide) | exact absurd h4 (by decide) | exact absurd h5 (by decide) | exact absurd h6 (by decide) | exact absurd h7 (by decide) | exact absurd h8 (by decide) | exact absurd h9 (by decide) | exact absurd h10 (by decide) | exact absurd h11 (by decide) | exact absurd (by decide) h1 | exact absurd (by decide) h2 | exact absurd (by decide) h3 | exact absurd (by decide) h4 | exact absurd (by decide) h5 | exact absurd (by decide) h6 | exact absurd (by decide) h7 | exact absurd (by decide) h8 | exact absurd (by decide) h9 | exact absurd (by decide) h10 | exact absurd (by decide) h11
  · refine z_aload_n dX11_name_16 rfl rfl ?_
    refine z_aload_n dX11_name_17 rfl rfl ?_
    refine z_get kX11 fX11_200 dX11_name_18 ho1 (by rfl) ?_
    refine z_bipush (v := (-2)) dX11_name_21 (by decide) ?_
    refine z_iadd dX11_name_23 ?_
    refine z_iload dX11_name_24 rfl ?_
    refine z_isub dX11_name_26 ?_
    refine z_put kX11 fX11_200 dX11_name_27 rfl ho1 (by rfl) (by rfl) (Nat.le_of_ble_eq_true rfl) ?_
    refine z_aload_n dX11_name_30 rfl rfl ?_
    refine z_iconst (v := 1) dX11_name_31 (by decide) ?_
    refine z_put kX11 fX11_196 dX11_name_32 rfl (set_at ho1) (by rfl) (by rfl) (Nat.le_of_ble_eq_true rfl) ?_
    exact z_return dX11_name_35 rfl ⟨rfl, set_at (set_at ho1), (hb1.o).o⟩

set_option maxRecDepth 100000 in
set_option maxHeartbeats 4000000 in
theorem m_oneClass0 {G : xG} {cs : List va_E} (d : Nat) (hd : 3 ≤ d) (ho : cs[54]? = some (mO G 0 0 0)) (hb : Mb G cs) : X G yX11_oneClass cX11_oneClass 3 none d [.ref (G.1 + 54), .int 0] cs (fun r cs1 => r = none ∧ cs1[54]? = some (mO G 0 1 0)) := by
  refine X.of false (by decide +kernel) (by decide) (Nat.le_of_ble_eq_true rfl) ?_
  show Z (RX11, cX11_oneClass, 3, none, false) G d _ 0 [(0, .ref (G.1 + 54)), (1, .int 0)] [] cs
  refine z_aload_n dX11_oneClass_0 rfl rfl ?_
  refine z_iload_n dX11_oneClass_1 rfl rfl ?_
  refine z_iconst (v := 0) dX11_oneClass_2 (by decide) ?_
  refine z_iload_n dX11_oneClass_3 rfl rfl ?_
  refine z_callV (As := [_, _, _]) eX11_name sX11_name lX11_217 rfl dX11_oneClass_4 ho (m_name0 2 (Nat.le_refl _) ho hb) (by omega) rfl (Nat.le_of_ble_eq_true rfl) (fun r cs1 hp => ?_)
  obtain ⟨rfl, ho1, ⟨fs, hs⟩, ff, hf⟩ := hp
  refine z_st (st' := []) rfl ?_
  refine z_aload_n dX11_oneClass_7 rfl rfl ?_
  refine z_get kX11 fX11_32 dX11_oneClass_8 ho1 (by rfl) ?_
  refine z_iload_n dX11_oneClass_11 rfl rfl ?_
  refine z_iconst (v := 0) dX11_oneClass_12 (by decide) ?_
  refine z_iast dX11_oneClass_13 hf (vp_in_nI (n := 0) (by decide) (by decide)) ?_
  refine z_aload_n dX11_oneClass_14 rfl rfl ?_
  refine z_get kX11 fX11_196 dX11_oneClass_15 (set_ne (by decide) ho1) (by rfl) ?_
  refine z_if_eq (tgt := 22) dX11_oneClass_18 (by decide) (fun h1 => ?_) (fun h1 => ?_)
  · first | exact absurd h1 (by decide) | exact absurd h2 (by decide) | exact absurd h3 (by decide) | exact absurd h4 (by decide) | exact absurd h5 (by decide) | exact absurd h6 (by decide) | exact absurd h7 (by decide) | exact absurd h8 (by decide) | exact absurd h9 (by decide) | exact absurd h10 (by decide) | exact absurd h11 (by decide) | exact absurd (by decide) h1 | exact absurd (by decide) h2 | exact absurd (by decide) h3 | exact absurd (by decide) h4 | exact absurd (by decide) h5 | exact absurd (by decide) h6 | exact absurd (by decide) h7 | exact absurd (by decide) h8 | exact absurd (by decide) h9 | exact absurd (by decide) h10 | exact absurd (by decide) h11
  · exact z_return dX11_oneClass_21 rfl ⟨rfl, set_ne (by decide) ho1⟩

theorem z_gen {M : xM} {G : xG} {d : Nat} {Post : xP} {pc : Nat} {L : List (Nat × Value)} {st : List Value} {cs : List va_E} (Q : List va_E → Prop) (h : Q cs) (k : ∀ c, Q c → Z M G d Post pc L st c) : Z M G d Post pc L st cs := k cs h
set_option maxRecDepth 100000 in
set_option maxHeartbeats 4000000 in
theorem m_want1 {G : xG} {cs : List va_E} (d : Nat) (ho : cs[54]? = some (mO G 0 1 0)) (g : Int32) : X G yX11_want cX11_want 2 none d [.ref (G.1 + 54), .int g] cs (fun r cs1 => r = none ∧ cs1[54]? = some (mO G 0 1 0)) := by
  refine X.of false (by decide +kernel) (by decide) (Nat.le_of_ble_eq_true rfl) ?_
  show Z (RX11, cX11_want, 2, none, false) G d _ 0 [(0, .ref (G.1 + 54)), (1, .int g)] [] cs
  refine z_aload_n dX11_want_0 rfl rfl ?_
  refine z_aload_n dX11_want_1 rfl rfl ?_
  refine z_get kX11 fX11_196 dX11_want_2 ho (by rfl) ?_
  refine z_if_ne (tgt := 12) dX11_want_5 (by decide) (fun h1 => ?_) (fun h1 => ?_)
  · refine z_iconst (v := 1) dX11_want_12 (by decide) ?_
    refine z_goto (tgt := 17) dX11_want_13 (by decide) ?_
    refine z_put kX11 fX11_196 dX11_want_17 rfl ho (by rfl) (by rfl) (Nat.le_of_ble_eq_true rfl) ?_
    exact z_return dX11_want_20 rfl ⟨rfl, set_at ho⟩
  · first | exact absurd h1 (by decide) | exact absurd h2 (by decide) | exact absurd h3 (by decide) | exact absurd h4 (by decide) | exact absurd h5 (by decide) | exact absurd h6 (by decide) | exact absurd h7 (by decide) | exact absurd h8 (by decide) | exact absurd h9 (by decide) | exact absurd h10 (by decide) | exact absurd h11 (by decide) | exact absurd (by decide) h1 | exact absurd (by decide) h2 | exact absurd (by decide) h3 | exact absurd (by decide) h4 | exact absurd (by decide) h5 | exact absurd (by decide) h6 | exact absurd (by decide) h7 | exact absurd (by decide) h8 | exact absurd (by decide) h9 | exact absurd (by decide) h10 | exact absurd (by decide) h11

set_option maxRecDepth 100000 in
set_option maxHeartbeats 4000000 in
theorem mx_classes {G : xG} {cs : List va_E} (d : Nat) (hd : 4 ≤ d) (hM : Mf G cs) : X G yX11_classes cX11_classes 4 (some .int) d [.ref (G.1 + 54)] cs (fun r _ => r = some (.int (-1))) := by
  refine X.of false (by decide +kernel) (by decide) (Nat.le_of_ble_eq_true rfl) ?_
  show Z (RX11, cX11_classes, 4, some .int, false) G d _ 0 [(0, .ref (G.1 + 54))] [] cs
  have ho := hM.o
  have hA := hM.a
  refine z_aload_n dX11_classes_0 rfl rfl ?_
  refine z_iconst (v := 0) dX11_classes_1 (by decide) ?_
  refine z_put kX11 fX11_200 dX11_classes_2 rfl ho (by rfl) (by rfl) (Nat.le_of_ble_eq_true rfl) ?_
  refine z_aload_n dX11_classes_5 rfl rfl ?_
  refine z_iconst (v := 0) dX11_classes_6 (by decide) ?_
  refine z_put kX11 fX11_196 dX11_classes_7 rfl (set_at ho) (by rfl) (by rfl) (Nat.le_of_ble_eq_true rfl) ?_
  refine z_aload_n dX11_classes_10 rfl rfl ?_
  refine z_iconst (v := 0) dX11_classes_11 (by decide) ?_
  refine z_put kX11 fX11_210 dX11_classes_12 rfl (set_at (set_at ho)) (by rfl) (by rfl) (Nat.le_of_ble_eq_true rfl) ?_
  refine z_gen (fun c => c[54]? = some (mO G 0 0 0) ∧ Mb G c) ⟨set_at (set_at (set_at ho)), hA.b.o.o.o⟩ (fun c1 q1 => ?_)
  obtain ⟨ho1, hb1⟩ := q1
  refine z_iconst (v := 0) dX11_classes_15 (by decide) ?_
  refine z_istore_n dX11_classes_16 rfl (by decide) ?_
  refine z_iconst (v := 1) dX11_classes_17 (by decide) ?_
  refine z_istore_n dX11_classes_18 rfl (by decide) ?_
  refine z_iload_n dX11_classes_19 rfl rfl ?_
  refine z_if_eq (tgt := 87) dX11_classes_20 (by decide) (fun h1 => absurd h1 (by decide)) (fun h1 => ?_)
  refine z_aload_n dX11_classes_23 rfl rfl ?_
  refine z_iload_n dX11_classes_24 rfl rfl ?_
  refine z_callV (As := [_]) eX11_oneClass sX11_oneClass lX11_232 rfl dX11_classes_25 ho1 (m_oneClass0 3 (Nat.le_refl _) ho1 hb1) (by omega) rfl (Nat.le_of_ble_eq_true rfl) (fun r cs1 hp => ?_)
  obtain ⟨rfl, ho2⟩ := hp
  refine z_st (st' := []) rfl ?_
  refine z_iinc dX11_classes_28 rfl rfl (by decide) ?_
  refine z_aload_n dX11_classes_31 rfl rfl ?_
  refine z_get kX11 fX11_196 dX11_classes_32 ho2 (by rfl) ?_
  refine z_if_ne (tgt := 61) dX11_classes_35 (by decide) (fun k1 => ?_) (fun k1 => ?_)
  · refine z_iconst (v := 0) dX11_classes_61 (by decide) ?_
    refine z_istore_n dX11_classes_62 rfl (by decide) ?_
    refine z_aload_n dX11_classes_63 rfl rfl ?_
    refine z_iload_n dX11_classes_64 rfl rfl ?_
    refine z_if_eq (tgt := 77) dX11_classes_65 (by decide) (fun k2 => ?_) (fun k2 => ?_)
    · refine z_aload_n dX11_classes_77 rfl rfl ?_
      refine z_get kX11 fX11_200 dX11_classes_78 ho2 (by rfl) ?_
      refine z_put kX11 fX11_200 dX11_classes_81 rfl ho2 (by rfl) (by rfl) (Nat.le_of_ble_eq_true rfl) ?_
      refine z_goto (tgt := 19) dX11_classes_84 (by decide) ?_
      refine z_gen (fun c => c[54]? = some (mO G 0 1 0)) (set_at ho2) (fun c2 ho3 => ?_)
      refine z_iload_n dX11_classes_19 rfl rfl ?_
      refine z_if_eq (tgt := 87) dX11_classes_20 (by decide) (fun g1 => ?_) (fun g1 => absurd rfl g1)
      refine z_aload_n dX11_classes_87 rfl rfl ?_
      refine z_aload_n dX11_classes_88 rfl rfl ?_
      refine z_get kX11 fX11_200 dX11_classes_89 ho3 (by rfl) ?_
      refine z_aload_n dX11_classes_92 rfl rfl ?_
      refine z_get kX11 fX11_171 dX11_classes_93 ho3 (by rfl) ?_
      refine z_icmp_ne (tgt := 103) dX11_classes_96 (by decide) (fun h1 => ?_) (fun h1 => ?_)
      · first | exact absurd h1 (by decide) | exact absurd h2 (by decide) | exact absurd h3 (by decide) | exact absurd h4 (by decide) | exact absurd h5 (by decide) | exact absurd h6 (by decide) | exact absurd h7 (by decide) | exact absurd h8 (by decide) | exact absurd h9 (by decide) | exact absurd h10 (by decide) | exact absurd h11 (by decide) | exact absurd (by decide) h1 | exact absurd (by decide) h2 | exact absurd (by decide) h3 | exact absurd (by decide) h4 | exact absurd (by decide) h5 | exact absurd (by decide) h6 | exact absurd (by decide) h7 | exact absurd (by decide) h8 | exact absurd (by decide) h9 | exact absurd (by decide) h10 | exact absurd (by decide) h11
      · refine z_iconst (v := 1) dX11_classes_99 (by decide) ?_
        refine z_goto (tgt := 104) dX11_classes_100 (by decide) ?_
        refine z_callV (As := [_]) eX11_want sX11_want lX11_213 rfl dX11_classes_104 ho3 (m_want1 0 ho3 _) (by omega) rfl (Nat.le_of_ble_eq_true rfl) (fun r cs1 hp => ?_)
        obtain ⟨rfl, ho4⟩ := hp
        refine z_st (st' := []) rfl ?_
        refine z_aload_n dX11_classes_107 rfl rfl ?_
        refine z_get kX11 fX11_196 dX11_classes_108 ho4 (by rfl) ?_
        refine z_if_ne (tgt := 142) dX11_classes_111 (by decide) (fun h2 => ?_) (fun h2 => ?_)
        · refine z_aload_n dX11_classes_142 rfl rfl ?_
          refine z_iconst (v := 0) dX11_classes_143 (by decide) ?_
          refine z_put kX11 fX11_171 dX11_classes_144 rfl ho4 (by rfl) (by rfl) (Nat.le_of_ble_eq_true rfl) ?_
          refine z_aload_n dX11_classes_147 rfl rfl ?_
          refine z_get kX11 fX11_196 dX11_classes_148 (set_at ho4) (by rfl) ?_
          refine z_if_eq (tgt := 161) dX11_classes_151 (by decide) (fun h3 => ?_) (fun h3 => ?_)
          · first | exact absurd h1 (by decide) | exact absurd h2 (by decide) | exact absurd h3 (by decide) | exact absurd h4 (by decide) | exact absurd h5 (by decide) | exact absurd h6 (by decide) | exact absurd h7 (by decide) | exact absurd h8 (by decide) | exact absurd h9 (by decide) | exact absurd h10 (by decide) | exact absurd h11 (by decide) | exact absurd (by decide) h1 | exact absurd (by decide) h2 | exact absurd (by decide) h3 | exact absurd (by decide) h4 | exact absurd (by decide) h5 | exact absurd (by decide) h6 | exact absurd (by decide) h7 | exact absurd (by decide) h8 | exact absurd (by decide) h9 | exact absurd (by decide) h10 | exact absurd (by decide) h11
          · refine z_iconst (v := (-1)) dX11_classes_154 (by decide) ?_
            refine z_aload_n dX11_classes_155 rfl rfl ?_
            refine z_get kX11 fX11_200 dX11_classes_156 (set_at ho4) (by rfl) ?_
            refine z_isub dX11_classes_159 ?_
            exact z_ireturn dX11_classes_160 rfl (by rfl) (by rfl)
        · first | exact absurd h1 (by decide) | exact absurd h2 (by decide) | exact absurd h3 (by decide) | exact absurd h4 (by decide) | exact absurd h5 (by decide) | exact absurd h6 (by decide) | exact absurd h7 (by decide) | exact absurd h8 (by decide) | exact absurd h9 (by decide) | exact absurd h10 (by decide) | exact absurd h11 (by decide) | exact absurd (by decide) h1 | exact absurd (by decide) h2 | exact absurd (by decide) h3 | exact absurd (by decide) h4 | exact absurd (by decide) h5 | exact absurd (by decide) h6 | exact absurd (by decide) h7 | exact absurd (by decide) h8 | exact absurd (by decide) h9 | exact absurd (by decide) h10 | exact absurd (by decide) h11
    · first | exact absurd k1 (by decide) | exact absurd k2 (by decide) | exact absurd k3 (by decide) | exact absurd h4 (by decide) | exact absurd h5 (by decide) | exact absurd h6 (by decide) | exact absurd h7 (by decide) | exact absurd h8 (by decide) | exact absurd h9 (by decide) | exact absurd k10 (by decide) | exact absurd k11 (by decide) | exact absurd (by decide) k1 | exact absurd (by decide) k2 | exact absurd (by decide) k3 | exact absurd (by decide) h4 | exact absurd (by decide) h5 | exact absurd (by decide) h6 | exact absurd (by decide) h7 | exact absurd (by decide) h8 | exact absurd (by decide) h9 | exact absurd (by decide) k10 | exact absurd (by decide) k11
  · first | exact absurd k1 (by decide) | exact absurd k2 (by decide) | exact absurd k3 (by decide) | exact absurd h4 (by decide) | exact absurd h5 (by decide) | exact absurd h6 (by decide) | exact absurd h7 (by decide) | exact absurd h8 (by decide) | exact absurd h9 (by decide) | exact absurd k10 (by decide) | exact absurd k11 (by decide) | exact absurd (by decide) k1 | exact absurd (by decide) k2 | exact absurd (by decide) k3 | exact absurd (by decide) h4 | exact absurd (by decide) h5 | exact absurd (by decide) h6 | exact absurd (by decide) h7 | exact absurd (by decide) h8 | exact absurd (by decide) h9 | exact absurd (by decide) k10 | exact absurd (by decide) k11

