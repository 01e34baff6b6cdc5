/-! WHAT EVERY PART USES -/
def bI (b : Bool) : Int32 := if b then 1 else 0
theorem nar_bI (b : Bool) : narrow .boolean (.int (bI b)) = .int (bI b) := by cases b <;> decide
theorem ge_of {i : Int32} (h : ¬ i < 0) : 0 ≤ i.toInt := by
  have := Int32.not_lt.mp h
  simpa using Int32.le_iff_toInt_le.mp this
theorem vin_lt {i : Int32} {n k : Nat} (h : ¬ i < 0) (h2 : ¬ nI k ≤ i) (hk : k ≤ n) (hn : n < 2 ^ 31) : vp_in i n := by
  rw [vp_in_iff]
  refine ⟨ge_of h, ?_⟩
  have h3 := Int32.lt_iff_toInt_lt.mp (Int32.not_le.mp h2)
  rw [nI_toInt (by omega)] at h3
  omega
theorem vin_nlt {i : Int32} {n : Nat} (h : vp_in i n) : ¬ i < 0 := fun q => h (Or.inl q)
theorem vin_lt' {i : Int32} {n : Nat} (h : vp_in i n) (hn : n < 2 ^ 31) : i < nI n := by
  rw [Int32.lt_iff_toInt_lt, nI_toInt hn]
  exact (vp_in_iff.mp h).2
theorem set_at {cs : List va_E} {k : Nat} {e0 e : va_E} (h : cs[k]? = some e0) : (cs.set k e)[k]? = some e := List.getElem?_set_self (List.getElem?_eq_some_iff.mp h).1
theorem set_ne {cs : List va_E} {k j : Nat} {e x : va_E} (h : k ≠ j) (hj : cs[j]? = some x) : (cs.set k e)[j]? = some x := by rw [List.getElem?_set_ne h]; exact hj
theorem at_lt {cs : List va_E} {k : Nat} {e : va_E} (h : cs[k]? = some e) : k < cs.length := (List.getElem?_eq_some_iff.mp h).1
theorem app_at {cs : List va_E} {k : Nat} {e x : va_E} (h : cs[k]? = some e) : (cs ++ [x])[k]? = some e := by rw [List.getElem?_append_left (at_lt h)]; exact h
theorem app_last {cs : List va_E} {x : va_E} : (cs ++ [x])[cs.length]? = some x := by simp
/-! THE JDK's -/
def jMin (x y : Int32) : Int32 := if y < x then y else x
def jMax (x y : Int32) : Int32 := if x < y then y else x
def jAbs (x : Int64) : Int64 := if 0 < x then x else -x
section ZM
variable {own : String} {cc : ByteArray} {nL : Nat} {ret : Option FieldType} {ini : Bool} {G : xG} {d : Nat} {Post : xP} {pc : Nat} {L : List (Nat × Value)} {rest : List Value} {cs : List va_E}
theorem z_mmin_c : Cond.code Lib.Math.min.name Lib.Math.min.code 2 (some .int) ∈ xTs := xT1 207 (by decide +kernel) (by decide +kernel)
theorem z_mmin {idx : Nat} {x y : Int32} (hl : Cond.methodLink own idx Lib.Math.min.name ∈ xTs) (hs : Cond.static Lib.Math.min.name ∈ xTs) (hi : Cond.initialized "java/lang/Math" ∈ xTs) (hdg : decode cc pc = .ok (.invokestatic idx, 3)) (hd : 1 ≤ d) (hw : (rest.map fun v => v.category).sum ≤ 8) (kk : Z (own, cc, nL, ret, ini) G d Post (pc + 3) L (.int (jMin x y) :: rest) cs) : Z (own, cc, nL, ret, ini) G d Post pc L (.int y :: .int x :: rest) cs := by
  intro p l e R s m args below meth c H locs cells slots ls Q hC hB hL hR hq
  have hts := hC.2.2.2.2.1
  have hR0 := hR
  unfold xRoom at hR
  have hsz := hB.1
  have hcap := hB.2.2.2.2.2.2.2.2
  unfold xCap at hcap
  refine x_tight hB fun hzz => ?_
  exact va_mmin hC.1 hC.2.1 (by rw [hC.2.2.1]; exact hL.1.symm) hC.2.2.2.1 (hts _ hl) (hts _ hs) (hts _ hi) (hts _ z_mmin_c) (by omega) (by omega) (by omega) (by omega) hdg (kk p l e R s m args below meth c H locs _ _ ls Q hC hB hL hR0 hq)
theorem z_mmax_c : Cond.code Lib.Math.max.name Lib.Math.max.code 2 (some .int) ∈ xTs := xT3 125 (by decide +kernel) (by decide +kernel)
theorem z_mmax {idx : Nat} {x y : Int32} (hl : Cond.methodLink own idx Lib.Math.max.name ∈ xTs) (hs : Cond.static Lib.Math.max.name ∈ xTs) (hi : Cond.initialized "java/lang/Math" ∈ xTs) (hdg : decode cc pc = .ok (.invokestatic idx, 3)) (hd : 1 ≤ d) (hw : (rest.map fun v => v.category).sum ≤ 8) (kk : Z (own, cc, nL, ret, ini) G d Post (pc + 3) L (.int (jMax x y) :: rest) cs) : Z (own, cc, nL, ret, ini) G d Post pc L (.int y :: .int x :: rest) cs := by
  intro p l e R s m args below meth c H locs cells slots ls Q hC hB hL hR hq
  have hts := hC.2.2.2.2.1
  have hR0 := hR
  unfold xRoom at hR
  have hsz := hB.1
  have hcap := hB.2.2.2.2.2.2.2.2
  unfold xCap at hcap
  refine x_tight hB fun hzz => ?_
  exact va_mmax hC.1 hC.2.1 (by rw [hC.2.2.1]; exact hL.1.symm) hC.2.2.2.1 (hts _ hl) (hts _ hs) (hts _ hi) (hts _ z_mmax_c) (by omega) (by omega) (by omega) (by omega) hdg (kk p l e R s m args below meth c H locs _ _ ls Q hC hB hL hR0 hq)
theorem z_mabsl_c : Cond.code Lib.MathLoose.abs_long.x Lib.MathLoose.abs_long.code 2 (some .long) ∈ xTs := xT3 94 (by decide +kernel) (by decide +kernel)
theorem z_mabsl {idx : Nat} {x : Int64} (hl : Cond.methodLink own idx Lib.MathLoose.abs_long.x ∈ xTs) (hs : Cond.static Lib.MathLoose.abs_long.x ∈ xTs) (hi : Cond.initialized "java/lang/Math" ∈ xTs) (hdg : decode cc pc = .ok (.invokestatic idx, 3)) (hd : 1 ≤ d) (hw : (rest.map fun v => v.category).sum ≤ 8) (kk : Z (own, cc, nL, ret, ini) G d Post (pc + 3) L (.long (jAbs x) :: rest) cs) : Z (own, cc, nL, ret, ini) G d Post pc L (.long x :: rest) cs := by
  intro p l e R s m args below meth c H locs cells slots ls Q hC hB hL hR hq
  have hts := hC.2.2.2.2.1
  have hR0 := hR
  unfold xRoom at hR
  have hsz := hB.1
  have hcap := hB.2.2.2.2.2.2.2.2
  unfold xCap at hcap
  refine x_tight hB fun hzz => ?_
  exact va_mabs_long hC.1 hC.2.1 (by rw [hC.2.2.1]; exact hL.1.symm) hC.2.2.2.1 (hts _ hl) (hts _ hs) (hts _ hi) (hts _ z_mabsl_c) (by omega) (by omega) (by omega) (by omega) hdg (kk p l e R s m args below meth c H locs _ _ ls Q hC hB hL hR0 hq)
end ZM
set_option maxRecDepth 100000 in
set_option maxHeartbeats 4000000 in
theorem c_coder {G : xG} {cs : List va_E} (d : Nat) {i : Nat} (hi : i < xN) : X G yJ0_coder_7d493 cJ0_coder_7d493 1 (some .byte) d [.ref (G.2.2.2.1 i)] cs (fun r cs1 => r = some (.int 0) ∧ cs1 = cs) := by
  refine X.of false (by decide +kernel) (by decide) (Nat.le_of_ble_eq_true rfl) ?_
  show Z (RJ0, cJ0_coder_7d493, 1, some .byte, false) G d _ 0 [(0, .ref (G.2.2.2.1 i))] [] cs
  refine z_gets1 fJ0_38 dJ0_coder_7d493_0 ?_
  refine z_if_eq (tgt := 13) dJ0_coder_7d493_3 (by decide) (fun h1 => ?_) (fun h1 => ?_)
  · exact absurd h1 (by decide)
  · refine z_aload_n dJ0_coder_7d493_6 rfl rfl ?_
    refine z_sgetC hi fJ0_15 dJ0_coder_7d493_7 ?_
    refine z_goto (tgt := 14) dJ0_coder_7d493_10 (by decide) ?_
    exact z_ireturn dJ0_coder_7d493_14 rfl (by decide) ⟨rfl, rfl⟩

set_option maxRecDepth 100000 in
set_option maxHeartbeats 4000000 in
theorem c_isLatin1 {G : xG} {cs : List va_E} (d : Nat) {i : Nat} (hi : i < xN) : X G yJ0_isLatin1_aae02 cJ0_isLatin1_aae02 1 (some .boolean) d [.ref (G.2.2.2.1 i)] cs (fun r cs1 => r = some (.int 1) ∧ cs1 = cs) := by
  refine X.of false (by decide +kernel) (by decide) (Nat.le_of_ble_eq_true rfl) ?_
  show Z (RJ0, cJ0_isLatin1_aae02, 1, some .boolean, false) G d _ 0 [(0, .ref (G.2.2.2.1 i))] [] cs
  refine z_gets1 fJ0_38 dJ0_isLatin1_aae02_0 ?_
  refine z_if_eq (tgt := 17) dJ0_isLatin1_aae02_3 (by decide) (fun h1 => ?_) (fun h1 => ?_)
  · first | exact absurd h1 (by decide) | exact absurd rfl h2
  · refine z_aload_n dJ0_isLatin1_aae02_6 rfl rfl ?_
    refine z_sgetC hi fJ0_15 dJ0_isLatin1_aae02_7 ?_
    refine z_if_ne (tgt := 17) dJ0_isLatin1_aae02_10 (by decide) (fun h2 => ?_) (fun h2 => ?_)
    · first | exact absurd h1 (by decide) | exact absurd rfl h2
    · refine z_iconst (v := 1) dJ0_isLatin1_aae02_13 (by decide) ?_
      refine z_goto (tgt := 18) dJ0_isLatin1_aae02_14 (by decide) ?_
      exact z_ireturn dJ0_isLatin1_aae02_18 rfl (by decide) ⟨rfl, rfl⟩

set_option maxRecDepth 100000 in
set_option maxHeartbeats 4000000 in
theorem c_length {G : xG} {cs : List va_E} (d : Nat) (hd : 1 ≤ d) {i : Nat} (hi : i < xN) : X G yJ0_length_8abf5 cJ0_length_8abf5 1 (some .int) d [.ref (G.2.2.2.1 i)] cs (fun r cs1 => r = some (.int (nI (xLen.getD i 0))) ∧ cs1 = cs) := by
  refine X.of false (by decide +kernel) (by decide) (Nat.le_of_ble_eq_true rfl) ?_
  show Z (RJ0, cJ0_length_8abf5, 1, some .int, false) G d _ 0 [(0, .ref (G.2.2.2.1 i))] [] cs
  refine z_aload_n dJ0_length_8abf5_0 rfl rfl ?_
  refine z_sgetV hi fJ0_9 dJ0_length_8abf5_1 ?_
  refine z_slen hi dJ0_length_8abf5_4 ?_
  refine z_aload_n dJ0_length_8abf5_5 rfl rfl ?_
  refine z_callVS (As := []) hi eJ0_coder_7d493 sJ0_coder_7d493 lJ0_335 rfl dJ0_length_8abf5_6 (c_coder 0 hi) (by omega) rfl (Nat.le_of_ble_eq_true rfl) (fun r cs1 hp => ?_)
  obtain ⟨rfl, rfl⟩ := hp
  refine z_st (st' := [.int 0, .int (nI (xLen.getD i 0))]) rfl ?_
  refine z_ishr dJ0_length_8abf5_9 ?_
  exact z_ireturn dJ0_length_8abf5_10 rfl (by rfl) ⟨by rw [sb_shr0], rfl⟩

theorem c_checkIndex {G : xG} {cs : List va_E} (d : Nat) {j : Int32} {n : Nat} {v : Value} (hv : v = .null ∨ ∃ q : Nat, v = .ref q) (hj : vp_in j n) (hn : n < 2 ^ 31) : X G yJ3_checkIndex_8e157 cJ3_checkIndex_8e157 3 (some .int) d [.int j, .int (nI n), v] cs (fun r cs1 => r = some (.int j) ∧ cs1 = cs) := by
  rcases hv with rfl | ⟨q, rfl⟩
  · refine X.of false (by decide +kernel) (by decide) (Nat.le_of_ble_eq_true rfl) ?_
    show Z (RJ3, cJ3_checkIndex_8e157, 3, some .int, false) G d _ 0 [(0, .int j), (1, .int (nI n)), (2, .null)] [] cs
    refine z_iload_n dJ3_checkIndex_8e157_0 rfl rfl ?_
    refine z_if_lt (tgt := 9) dJ3_checkIndex_8e157_1 (by decide) (fun h1 => ?_) (fun h1 => ?_)
    · first | exact absurd h1 (vin_nlt hj) | exact absurd (vin_lt' hj hn) h2
    · refine z_iload_n dJ3_checkIndex_8e157_4 rfl rfl ?_
      refine z_iload_n dJ3_checkIndex_8e157_5 rfl rfl ?_
      refine z_icmp_lt (tgt := 16) dJ3_checkIndex_8e157_6 (by decide) (fun h2 => ?_) (fun h2 => ?_)
      · refine z_iload_n dJ3_checkIndex_8e157_16 rfl rfl ?_
        exact z_ireturn dJ3_checkIndex_8e157_17 rfl (by rfl) ⟨rfl, rfl⟩
      · first | exact absurd h1 (vin_nlt hj) | exact absurd (vin_lt' hj hn) h2
  · refine X.of false (by decide +kernel) (by decide) (Nat.le_of_ble_eq_true rfl) ?_
    show Z (RJ3, cJ3_checkIndex_8e157, 3, some .int, false) G d _ 0 [(0, .int j), (1, .int (nI n)), (2, .ref q)] [] cs
    refine z_iload_n dJ3_checkIndex_8e157_0 rfl rfl ?_
    refine z_if_lt (tgt := 9) dJ3_checkIndex_8e157_1 (by decide) (fun h1 => ?_) (fun h1 => ?_)
    · first | exact absurd h1 (vin_nlt hj) | exact absurd (vin_lt' hj hn) h2
    · refine z_iload_n dJ3_checkIndex_8e157_4 rfl rfl ?_
      refine z_iload_n dJ3_checkIndex_8e157_5 rfl rfl ?_
      refine z_icmp_lt (tgt := 16) dJ3_checkIndex_8e157_6 (by decide) (fun h2 => ?_) (fun h2 => ?_)
      · refine z_iload_n dJ3_checkIndex_8e157_16 rfl rfl ?_
        exact z_ireturn dJ3_checkIndex_8e157_17 rfl (by rfl) ⟨rfl, rfl⟩
      · first | exact absurd h1 (vin_nlt hj) | exact absurd (vin_lt' hj hn) h2
set_option maxRecDepth 100000 in
set_option maxHeartbeats 4000000 in
theorem c_checkIndex0 {G : xG} {cs : List va_E} (d : Nat) (hd : 1 ≤ d) {j : Int32} {n : Nat} (hj : vp_in j n) (hn : n < 2 ^ 31) : X G yJ0_checkIndex_df160 cJ0_checkIndex_df160 2 none d [.int j, .int (nI n)] cs (fun r cs1 => r = none ∧ cs1 = cs) := by
  refine X.of false (by decide +kernel) (by decide) (Nat.le_of_ble_eq_true rfl) ?_
  show Z (RJ0, cJ0_checkIndex_df160, 2, none, false) G d _ 0 [(0, .int j), (1, .int (nI n))] [] cs
  refine z_iload_n dJ0_checkIndex_df160_0 rfl rfl ?_
  refine z_iload_n dJ0_checkIndex_df160_1 rfl rfl ?_
  refine z_gets2 fJ0_1053 dJ0_checkIndex_df160_2 (fun v hv => ?_)
  refine z_callS (As := [_, _, _]) eJ3_checkIndex_8e157 sJ3_checkIndex_8e157 lJ0_1059 dJ0_checkIndex_df160_5 (c_checkIndex 0 hv hj hn) (by omega) rfl (Nat.le_of_ble_eq_true rfl) (fun r cs1 hp => ?_)
  obtain ⟨rfl, rfl⟩ := hp
  refine z_st (st' := [.int j]) rfl ?_
  refine z_pop dJ0_checkIndex_df160_8 rfl ?_
  exact z_return dJ0_checkIndex_df160_9 rfl ⟨rfl, rfl⟩

theorem str_len : ∀ i, i < xN → xLen.getD i 0 < 2 ^ 31 := by decide +kernel
theorem str_byte : ∀ i, i < xN → ∀ j, j < xLen.getD i 0 → ((((xByt.getD i []).getD j 0) &&& 255).toUInt32 % 65536).toInt32 = (xByt.getD i []).getD j 0 := by decide +kernel
def sxAt (i : Nat) (j : Int32) : Int32 := (xByt.getD i []).getD j.toNatClampNeg 0
set_option maxRecDepth 100000 in
set_option maxHeartbeats 4000000 in
theorem c_charAt1 {G : xG} {cs : List va_E} (d : Nat) (hd : 2 ≤ d) {i : Nat} (hi : i < xN) {j : Int32} (hj : vp_in j (xLen.getD i 0)) : X G yJ1_charAt_3b067 cJ1_charAt_3b067 2 (some .char) d [.ref (G.2.2.2.2.1 i), .int j] cs (fun r cs1 => r = some (.int (sxAt i j)) ∧ cs1 = cs) := by
  refine X.of false (by decide +kernel) (by decide) (Nat.le_of_ble_eq_true rfl) ?_
  show Z (RJ1, cJ1_charAt_3b067, 2, some .char, false) G d _ 0 [(0, .ref (G.2.2.2.2.1 i)), (1, .int j)] [] cs
  refine z_iload_n dJ1_charAt_3b067_0 rfl rfl ?_
  refine z_aload_n dJ1_charAt_3b067_1 rfl rfl ?_
  refine z_slen hi dJ1_charAt_3b067_2 ?_
  refine z_callS (As := [_, _]) eJ0_checkIndex_df160 sJ0_checkIndex_df160 lJ1_9 dJ1_charAt_3b067_3 (c_checkIndex0 1 (Nat.le_refl _) hj (str_len i hi)) (by omega) rfl (Nat.le_of_ble_eq_true rfl) (fun r cs1 hp => ?_)
  obtain ⟨rfl, rfl⟩ := hp
  refine z_st (st' := []) rfl ?_
  refine z_aload_n dJ1_charAt_3b067_6 rfl rfl ?_
  refine z_iload_n dJ1_charAt_3b067_7 rfl rfl ?_
  refine z_sald hi hj dJ1_charAt_3b067_8 ?_
  refine z_sipush (v := 255) dJ1_charAt_3b067_9 (by decide) ?_
  refine z_iand dJ1_charAt_3b067_12 ?_
  refine z_i2c dJ1_charAt_3b067_13 ?_
  exact z_ireturn dJ1_charAt_3b067_14 rfl (pk_nc _) ⟨by rw [str_byte i hi _ (Nat.not_le.mp fun q => hj (Or.inr q))]; rfl, rfl⟩

theorem str_nar : ∀ i, i < xN → ∀ j, j < xLen.getD i 0 → narrow .char (.int ((xByt.getD i []).getD j 0)) = .int ((xByt.getD i []).getD j 0) := by decide +kernel
set_option maxRecDepth 100000 in
set_option maxHeartbeats 4000000 in
theorem c_charAt {G : xG} {cs : List va_E} (d : Nat) (hd : 3 ≤ d) {i : Nat} (hi : i < xN) {j : Int32} (hj : vp_in j (xLen.getD i 0)) : X G yJ0_charAt_5068e cJ0_charAt_5068e 2 (some .char) d [.ref (G.2.2.2.1 i), .int j] cs (fun r cs1 => r = some (.int (sxAt i j)) ∧ cs1 = cs) := by
  refine X.of false (by decide +kernel) (by decide) (Nat.le_of_ble_eq_true rfl) ?_
  show Z (RJ0, cJ0_charAt_5068e, 2, some .char, false) G d _ 0 [(0, .ref (G.2.2.2.1 i)), (1, .int j)] [] cs
  refine z_aload_n dJ0_charAt_5068e_0 rfl rfl ?_
  refine z_callVS (As := []) hi eJ0_isLatin1_aae02 sJ0_isLatin1_aae02 lJ0_492 rfl dJ0_charAt_5068e_1 (c_isLatin1 0 hi) (by omega) rfl (Nat.le_of_ble_eq_true rfl) (fun r cs1 hp => ?_)
  obtain ⟨rfl, rfl⟩ := hp
  refine z_st (st' := [.int 1]) rfl ?_
  refine z_if_eq (tgt := 16) dJ0_charAt_5068e_4 (by decide) (fun h1 => ?_) (fun h1 => ?_)
  · exact absurd h1 (by decide)
  · refine z_aload_n dJ0_charAt_5068e_7 rfl rfl ?_
    refine z_sgetV hi fJ0_9 dJ0_charAt_5068e_8 ?_
    refine z_iload_n dJ0_charAt_5068e_11 rfl rfl ?_
    refine z_callS (As := [_, _]) eJ1_charAt_3b067 sJ1_charAt_3b067 lJ0_495 dJ0_charAt_5068e_12 (c_charAt1 2 (Nat.le_refl _) hi hj) (by omega) rfl (Nat.le_of_ble_eq_true rfl) (fun r cs1 hp => ?_)
    obtain ⟨rfl, rfl⟩ := hp
    refine z_st (st' := [.int (sxAt i j)]) rfl ?_
    exact z_ireturn dJ0_charAt_5068e_15 rfl (str_nar i hi _ (Nat.not_le.mp fun q => hj (Or.inr q))) ⟨rfl, rfl⟩

