/-! Likeness, XmlText, Way and Meaning are made -/
theorem c_X6_values {G : xG} {cs : List va_E} {b t : Nat} {tv : List Value} (d : Nat) (hc : cs[b]? = some (.inr (6, tv))) (hv : tv[0]? = some (.ref (G.1 + t))) : X G yX6_values cX6_values 1 (some (.object "GraphScribe$Signs")) d [.ref (G.1 + b)] cs (fun r c1 => r = some (.ref (G.1 + t)) ∧ c1 = cs) := by
  refine X.of false (by decide +kernel) (by decide) (Nat.le_of_ble_eq_true rfl) ?_
  show Z (RX6, cX6_values, 1, some (.object "GraphScribe$Signs"), false) G d _ 0 [(0, .ref (G.1 + b))] [] cs
  refine z_aload_n dX6_values_0 rfl rfl ?_
  refine z_get kX6 fX6_12 dX6_values_1 hc hv ?_
  exact z_areturn dX6_values_4 rfl (Or.inl ⟨_, rfl⟩) ⟨rfl, rfl⟩
theorem c_X6_names {G : xG} {cs : List va_E} {b t : Nat} {tv : List Value} (d : Nat) (hc : cs[b]? = some (.inr (6, tv))) (hv : tv[1]? = some (.ref (G.1 + t))) : X G yX6_names cX6_names 1 (some (.object "GraphScribe$Signs")) d [.ref (G.1 + b)] cs (fun r c1 => r = some (.ref (G.1 + t)) ∧ c1 = cs) := by
  refine X.of false (by decide +kernel) (by decide) (Nat.le_of_ble_eq_true rfl) ?_
  show Z (RX6, cX6_names, 1, some (.object "GraphScribe$Signs"), false) G d _ 0 [(0, .ref (G.1 + b))] [] cs
  refine z_aload_n dX6_names_0 rfl rfl ?_
  refine z_get kX6 fX6_18 dX6_names_1 hc hv ?_
  exact z_areturn dX6_names_4 rfl (Or.inl ⟨_, rfl⟩) ⟨rfl, rfl⟩
theorem c_X6_size {G : xG} {cs : List va_E} {b : Nat} {x : Int32} {tv : List Value} (d : Nat) (hc : cs[b]? = some (.inr (6, tv))) (hv : tv[16]? = some (.int x)) : X G yX6_size cX6_size 1 (some .int) d [.ref (G.1 + b)] cs (fun r c1 => r = some (.int x) ∧ c1 = cs) := by
  refine X.of false (by decide +kernel) (by decide) (Nat.le_of_ble_eq_true rfl) ?_
  show Z (RX6, cX6_size, 1, some .int, false) G d _ 0 [(0, .ref (G.1 + b))] [] cs
  refine z_aload_n dX6_size_0 rfl rfl ?_
  refine z_get kX6 fX6_65 dX6_size_1 hc hv ?_
  exact z_ireturn dX6_size_4 rfl rfl ⟨rfl, rfl⟩
set_option maxRecDepth 100000 in
set_option maxHeartbeats 8000000 in
theorem c_X2_init {G : xG} (d : Nat) (hd : 1 ≤ d) {pre : List va_E} {a b1 b2 b3 : Nat} (hcp0 : Cp 1 pre) (ha : pre.length = a) : X G yX2_init cX2_init 4 none d [.ref (G.1 + a), .ref (G.1 + b1), .ref (G.1 + b2), .ref (G.1 + b3)] (pre ++ [.inr (2, [.null, .null, .null, .null, .null, .null, .int 0])]) (fun r c1 => r = none ∧ c1 = pre ++ [.inr (2, [.ref (G.1 + b1), .ref (G.1 + b2), .ref (G.1 + b3), .ref (G.1 + (a + 1)), .ref (G.1 + (a + 2)), .ref (G.1 + (a + 3)), .int 0]), .inl (G.2.2.1 0, 30, .inl (fun _ => 0)), .inl (G.2.2.1 0, 30, .inl (fun _ => 0)), .inl (G.2.2.1 0, 30, .inl (fun _ => 0))]) := by
  refine X.of true (by decide +kernel) (fun _ => rfl) (Nat.le_of_ble_eq_true rfl) ?_
  show Z (RX2, cX2_init, 4, none, true) G d _ 0 [(0, .ref (G.1 + a)), (1, .ref (G.1 + b1)), (2, .ref (G.1 + b2)), (3, .ref (G.1 + b3))] [] (pre ++ [.inr (2, [.null, .null, .null, .null, .null, .null, .int 0])])
  have hcp := hcp0.one
  refine z_aload_n dX2_init_0 rfl rfl ?_
  refine z_objInit lX2_3 obj_i obj_c dX2_init_1 (Nat.le_trans (by decide) hd) (Nat.le_of_ble_eq_true rfl) ?_
  refine z_aload_n dX2_init_4 rfl rfl ?_
  refine z_bipush (v := 30) dX2_init_5 (by decide) ?_
  refine zk_newa_int (k := 1) (pre := pre) (l := [.inr (2, [.null, .null, .null, .null, .null, .null, .int 0])]) (N := 30) arr_int dX2_init_7 (by decide) (by decide) (by decide) hcp ha [7] rfl rfl (by decide) (by decide) ?_
  refine zk_pf (pre := pre) (l := [.inl (G.2.2.1 0, 30, .inl (fun _ => 0))]) kX2 fX2_9 dX2_init_9 rfl rfl ha (by rfl) (by rfl) (Nat.le_of_ble_eq_true rfl) ?_
  refine z_aload_n dX2_init_12 rfl rfl ?_
  refine z_bipush (v := 30) dX2_init_13 (by decide) ?_
  refine zk_newa_int (k := 2) (pre := pre) (l := [.inr (2, [.null, .null, .null, .ref (G.1 + (a + 1)), .null, .null, .int 0]), .inl (G.2.2.1 0, 30, .inl (fun _ => 0))]) (N := 30) arr_int dX2_init_15 (by decide) (by decide) (by decide) hcp ha [7, 30] rfl rfl (by decide) (by decide) ?_
  refine zk_pf (pre := pre) (l := [.inl (G.2.2.1 0, 30, .inl (fun _ => 0)), .inl (G.2.2.1 0, 30, .inl (fun _ => 0))]) kX2 fX2_15 dX2_init_17 rfl rfl ha (by rfl) (by rfl) (Nat.le_of_ble_eq_true rfl) ?_
  refine z_aload_n dX2_init_20 rfl rfl ?_
  refine z_bipush (v := 30) dX2_init_21 (by decide) ?_
  refine zk_newa_int (k := 3) (pre := pre) (l := [.inr (2, [.null, .null, .null, .ref (G.1 + (a + 1)), .ref (G.1 + (a + 2)), .null, .int 0]), .inl (G.2.2.1 0, 30, .inl (fun _ => 0)), .inl (G.2.2.1 0, 30, .inl (fun _ => 0))]) (N := 30) arr_int dX2_init_23 (by decide) (by decide) (by decide) hcp ha [7, 30, 30] rfl rfl (by decide) (by decide) ?_
  refine zk_pf (pre := pre) (l := [.inl (G.2.2.1 0, 30, .inl (fun _ => 0)), .inl (G.2.2.1 0, 30, .inl (fun _ => 0)), .inl (G.2.2.1 0, 30, .inl (fun _ => 0))]) kX2 fX2_18 dX2_init_25 rfl rfl ha (by rfl) (by rfl) (Nat.le_of_ble_eq_true rfl) ?_
  refine z_aload_n dX2_init_28 rfl rfl ?_
  refine z_iconst (v := 0) dX2_init_29 (by decide) ?_
  refine zk_pf (pre := pre) (l := [.inl (G.2.2.1 0, 30, .inl (fun _ => 0)), .inl (G.2.2.1 0, 30, .inl (fun _ => 0)), .inl (G.2.2.1 0, 30, .inl (fun _ => 0))]) kX2 fX2_21 dX2_init_30 rfl rfl ha (by rfl) (by rfl) (Nat.le_of_ble_eq_true rfl) ?_
  refine z_aload_n dX2_init_33 rfl rfl ?_
  refine z_aload_n dX2_init_34 rfl rfl ?_
  refine zk_pf (pre := pre) (l := [.inl (G.2.2.1 0, 30, .inl (fun _ => 0)), .inl (G.2.2.1 0, 30, .inl (fun _ => 0)), .inl (G.2.2.1 0, 30, .inl (fun _ => 0))]) kX2 fX2_25 dX2_init_35 rfl rfl ha (by rfl) (by rfl) (Nat.le_of_ble_eq_true rfl) ?_
  refine z_aload_n dX2_init_38 rfl rfl ?_
  refine z_aload_n dX2_init_39 rfl rfl ?_
  refine zk_pf (pre := pre) (l := [.inl (G.2.2.1 0, 30, .inl (fun _ => 0)), .inl (G.2.2.1 0, 30, .inl (fun _ => 0)), .inl (G.2.2.1 0, 30, .inl (fun _ => 0))]) kX2 fX2_29 dX2_init_40 rfl rfl ha (by rfl) (by rfl) (Nat.le_of_ble_eq_true rfl) ?_
  refine z_aload_n dX2_init_43 rfl rfl ?_
  refine z_aload_n dX2_init_44 rfl rfl ?_
  refine zk_pf (pre := pre) (l := [.inl (G.2.2.1 0, 30, .inl (fun _ => 0)), .inl (G.2.2.1 0, 30, .inl (fun _ => 0)), .inl (G.2.2.1 0, 30, .inl (fun _ => 0))]) kX2 fX2_33 dX2_init_45 rfl rfl ha (by rfl) (by rfl) (Nat.le_of_ble_eq_true rfl) ?_
  exact z_return dX2_init_48 rfl ⟨rfl, rfl⟩
set_option maxRecDepth 100000 in
set_option maxHeartbeats 8000000 in
theorem c_X9_init {G : xG} (d : Nat) (hd : 1 ≤ d) {pre : List va_E} {a b1 b2 : Nat} (hcp0 : Cp 1 pre) (ha : pre.length = a) {tv : List Value} {t0 : Nat} (ht : pre[b2]? = some (.inr (6, tv))) (hv0 : tv[0]? = some (.ref (G.1 + t0))) : X G yX9_init cX9_init 3 none d [.ref (G.1 + a), .ref (G.1 + b1), .ref (G.1 + b2)] (pre ++ [.inr (9, [.null, .null, .null, .int 0, .int 0, .int 0, .int 0])]) (fun r c1 => r = none ∧ c1 = pre ++ [.inr (9, [.ref (G.1 + b1), .ref (G.1 + b2), .ref (G.1 + t0), .int 0, .int (-1), .int 0, .int (-1)])]) := by
  refine X.of true (by decide +kernel) (fun _ => rfl) (Nat.le_of_ble_eq_true rfl) ?_
  show Z (RX9, cX9_init, 3, none, true) G d _ 0 [(0, .ref (G.1 + a)), (1, .ref (G.1 + b1)), (2, .ref (G.1 + b2))] [] (pre ++ [.inr (9, [.null, .null, .null, .int 0, .int 0, .int 0, .int 0])])
  have hcp := hcp0.one
  have tf : ∀ l : List va_E, (pre ++ l)[b2]? = some (.inr (6, tv)) := fun l => by
    rw [List.getElem?_append_left (at_lt ht)]
    exact ht
  refine z_aload_n dX9_init_0 rfl rfl ?_
  refine z_objInit lX9_3 obj_i obj_c dX9_init_1 (Nat.le_trans (by decide) hd) (Nat.le_of_ble_eq_true rfl) ?_
  refine z_aload_n dX9_init_4 rfl rfl ?_
  refine z_iconst (v := 0) dX9_init_5 (by decide) ?_
  refine zk_pf (pre := pre) (l := []) kX9 fX9_9 dX9_init_6 rfl rfl ha (by rfl) (by rfl) (Nat.le_of_ble_eq_true rfl) ?_
  refine z_aload_n dX9_init_9 rfl rfl ?_
  refine z_iconst (v := (-1)) dX9_init_10 (by decide) ?_
  refine zk_pf (pre := pre) (l := []) kX9 fX9_15 dX9_init_11 rfl rfl ha (by rfl) (by rfl) (Nat.le_of_ble_eq_true rfl) ?_
  refine z_aload_n dX9_init_14 rfl rfl ?_
  refine z_iconst (v := 0) dX9_init_15 (by decide) ?_
  refine zk_pf (pre := pre) (l := []) kX9 fX9_18 dX9_init_16 rfl rfl ha (by rfl) (by rfl) (Nat.le_of_ble_eq_true rfl) ?_
  refine z_aload_n dX9_init_19 rfl rfl ?_
  refine z_iconst (v := (-1)) dX9_init_20 (by decide) ?_
  refine zk_pf (pre := pre) (l := []) kX9 fX9_21 dX9_init_21 rfl rfl ha (by rfl) (by rfl) (Nat.le_of_ble_eq_true rfl) ?_
  refine z_aload_n dX9_init_24 rfl rfl ?_
  refine z_aload_n dX9_init_25 rfl rfl ?_
  refine zk_pf (pre := pre) (l := []) kX9 fX9_24 dX9_init_26 rfl rfl ha (by rfl) (by rfl) (Nat.le_of_ble_eq_true rfl) ?_
  refine z_aload_n dX9_init_29 rfl rfl ?_
  refine z_aload_n dX9_init_30 rfl rfl ?_
  refine zk_pf (pre := pre) (l := []) kX9 fX9_28 dX9_init_31 rfl rfl ha (by rfl) (by rfl) (Nat.le_of_ble_eq_true rfl) ?_
  refine z_aload_n dX9_init_34 rfl rfl ?_
  refine z_aload_n dX9_init_35 rfl rfl ?_
  refine z_callV (As := []) eX6_values sX6_values lX9_32 rfl dX9_init_36 (tf _) (c_X6_values 0 (tf _) hv0) (Nat.le_trans (by decide) hd) rfl (Nat.le_of_ble_eq_true rfl) (fun r c1 hp => ?_)
  obtain ⟨eR, eC⟩ := hp
  rw [eR, eC]
  clear eR eC r c1
  refine z_st (st' := [.ref (G.1 + t0), .ref (G.1 + a)]) rfl ?_
  refine zk_pf (pre := pre) (l := []) kX9 fX9_38 dX9_init_39 rfl rfl ha (by rfl) (by rfl) (Nat.le_of_ble_eq_true rfl) ?_
  exact z_return dX9_init_42 rfl ⟨rfl, rfl⟩
set_option maxRecDepth 100000 in
set_option maxHeartbeats 8000000 in
theorem c_X7_init {G : xG} (d : Nat) (hd : 1 ≤ d) {pre : List va_E} {a b1 : Nat} (hcp0 : Cp 1 pre) (ha : pre.length = a) {tv : List Value} {t0 : Nat} (ht : pre[b1]? = some (.inr (6, tv))) (hv0 : tv[0]? = some (.ref (G.1 + t0))) : X G yX7_init cX7_init 2 none d [.ref (G.1 + a), .ref (G.1 + b1)] (pre ++ [.inr (7, [.null, .null])]) (fun r c1 => r = none ∧ c1 = pre ++ [.inr (7, [.ref (G.1 + b1), .ref (G.1 + t0)])]) := by
  refine X.of true (by decide +kernel) (fun _ => rfl) (Nat.le_of_ble_eq_true rfl) ?_
  show Z (RX7, cX7_init, 2, none, true) G d _ 0 [(0, .ref (G.1 + a)), (1, .ref (G.1 + b1))] [] (pre ++ [.inr (7, [.null, .null])])
  have hcp := hcp0.one
  have tf : ∀ l : List va_E, (pre ++ l)[b1]? = some (.inr (6, tv)) := fun l => by
    rw [List.getElem?_append_left (at_lt ht)]
    exact ht
  refine z_aload_n dX7_init_0 rfl rfl ?_
  refine z_objInit lX7_3 obj_i obj_c dX7_init_1 (Nat.le_trans (by decide) hd) (Nat.le_of_ble_eq_true rfl) ?_
  refine z_aload_n dX7_init_4 rfl rfl ?_
  refine z_aload_n dX7_init_5 rfl rfl ?_
  refine zk_pf (pre := pre) (l := []) kX7 fX7_9 dX7_init_6 rfl rfl ha (by rfl) (by rfl) (Nat.le_of_ble_eq_true rfl) ?_
  refine z_aload_n dX7_init_9 rfl rfl ?_
  refine z_aload_n dX7_init_10 rfl rfl ?_
  refine z_callV (As := []) eX6_values sX6_values lX7_15 rfl dX7_init_11 (tf _) (c_X6_values 0 (tf _) hv0) (Nat.le_trans (by decide) hd) rfl (Nat.le_of_ble_eq_true rfl) (fun r c1 hp => ?_)
  obtain ⟨eR, eC⟩ := hp
  rw [eR, eC]
  clear eR eC r c1
  refine z_st (st' := [.ref (G.1 + t0), .ref (G.1 + a)]) rfl ?_
  refine zk_pf (pre := pre) (l := []) kX7 fX7_21 dX7_init_14 rfl rfl ha (by rfl) (by rfl) (Nat.le_of_ble_eq_true rfl) ?_
  exact z_return dX7_init_17 rfl ⟨rfl, rfl⟩
set_option maxRecDepth 100000 in
set_option maxHeartbeats 8000000 in
theorem c_X3_init {G : xG} (d : Nat) (hd : 2 ≤ d) {pre : List va_E} {a b1 b2 b3 : Nat} (hcp0 : Cp 2 pre) (ha : pre.length = a) {tv : List Value} {t0 t1 m : Nat} (ht : pre[b2]? = some (.inr (6, tv))) (hv0 : tv[0]? = some (.ref (G.1 + t0))) (hv1 : tv[1]? = some (.ref (G.1 + t1))) (hv16 : tv[16]? = some (.int (Int32.ofInt (m : Int)))) (hm : m ≤ 200) : X G yX3_init cX3_init 4 none d [.ref (G.1 + a), .ref (G.1 + b1), .ref (G.1 + b2), .ref (G.1 + b3)] (pre ++ [.inr (3, [.null, .null, .null, .null, .null, .null, .null, .null, .null, .null, .null, .null])]) (fun r c1 => r = none ∧ c1 = pre ++ [.inr (3, [.ref (G.1 + b1), .ref (G.1 + b2), .ref (G.1 + t1), .ref (G.1 + t0), .ref (G.1 + b3), .ref (G.1 + (a + 2)), .ref (G.1 + (a + 3)), .ref (G.1 + (a + 4)), .ref (G.1 + (a + 5)), .ref (G.1 + (a + 6)), .ref (G.1 + (a + 7)), .ref (G.1 + (a + 1))]), .inl (G.2.2.1 0, 30, .inl (fun _ => 0)), .inr (7, [.ref (G.1 + b2), .ref (G.1 + t0)]), .inl (G.2.2.1 0, m, .inl (fun _ => 0)), .inl (G.2.2.1 0, m, .inl (fun _ => 0)), .inl (G.2.2.1 0, m, .inl (fun _ => 0)), .inl (G.2.2.1 0, m, .inl (fun _ => 0)), .inl (G.2.2.1 0, m, .inl (fun _ => 0))]) := by
  refine X.of true (by decide +kernel) (fun _ => rfl) (Nat.le_of_ble_eq_true rfl) ?_
  show Z (RX3, cX3_init, 4, none, true) G d _ 0 [(0, .ref (G.1 + a)), (1, .ref (G.1 + b1)), (2, .ref (G.1 + b2)), (3, .ref (G.1 + b3))] [] (pre ++ [.inr (3, [.null, .null, .null, .null, .null, .null, .null, .null, .null, .null, .null, .null])])
  have hcp := hcp0.one
  have tf : ∀ l : List va_E, (pre ++ l)[b2]? = some (.inr (6, tv)) := fun l => by
    rw [List.getElem?_append_left (at_lt ht)]
    exact ht
  have hcpW : ∀ (l : List va_E) (ss : List Nat), l.map xSzE = ss → ss.length ≤ 200 → ss.sum ≤ 100000 → Cp 1 (pre ++ l) := fun l ss h1 h2 h3 => Cp.app hcp0 ss h1 h2 h3
  have hm1 : (Int32.ofInt (m : Int)).toNatClampNeg = m := by
    rw [oI_cl (n := 1001) (by omega) (by omega) (by decide)]
    omega
  have hm0 : ¬ (Int32.ofInt (m : Int)) < 0 := fun q => by
    have := (oI_lt (x := (m : Int)) (y := 0) ⟨by omega, by omega⟩ ⟨by decide, by decide⟩).mp q
    omega
  refine z_aload_n dX3_init_0 rfl rfl ?_
  refine z_objInit lX3_3 obj_i obj_c dX3_init_1 (Nat.le_trans (by decide) hd) (Nat.le_of_ble_eq_true rfl) ?_
  refine z_aload_n dX3_init_4 rfl rfl ?_
  refine z_bipush (v := 30) dX3_init_5 (by decide) ?_
  refine zk_newa_int (k := 1) (pre := pre) (l := [.inr (3, [.null, .null, .null, .null, .null, .null, .null, .null, .null, .null, .null, .null])]) (N := 30) arr_int dX3_init_7 (by decide) (by decide) (by decide) hcp ha [12] rfl rfl (by decide) (by decide) ?_
  refine zk_pf (pre := pre) (l := [.inl (G.2.2.1 0, 30, .inl (fun _ => 0))]) kX3 fX3_9 dX3_init_9 rfl rfl ha (by rfl) (by rfl) (Nat.le_of_ble_eq_true rfl) ?_
  refine z_aload_n dX3_init_12 rfl rfl ?_
  refine z_aload_n dX3_init_13 rfl rfl ?_
  refine zk_pf (pre := pre) (l := [.inl (G.2.2.1 0, 30, .inl (fun _ => 0))]) kX3 fX3_15 dX3_init_14 rfl rfl ha (by rfl) (by rfl) (Nat.le_of_ble_eq_true rfl) ?_
  refine z_aload_n dX3_init_17 rfl rfl ?_
  refine z_aload_n dX3_init_18 rfl rfl ?_
  refine zk_pf (pre := pre) (l := [.inl (G.2.2.1 0, 30, .inl (fun _ => 0))]) kX3 fX3_19 dX3_init_19 rfl rfl ha (by rfl) (by rfl) (Nat.le_of_ble_eq_true rfl) ?_
  refine z_aload_n dX3_init_22 rfl rfl ?_
  refine z_aload_n dX3_init_23 rfl rfl ?_
  refine z_callV (As := []) eX6_names sX6_names lX3_23 rfl dX3_init_24 (tf _) (c_X6_names 0 (tf _) hv1) (Nat.le_trans (by decide) hd) rfl (Nat.le_of_ble_eq_true rfl) (fun r c1 hp => ?_)
  obtain ⟨eR, eC⟩ := hp
  rw [eR, eC]
  clear eR eC r c1
  refine z_st (st' := [.ref (G.1 + t1), .ref (G.1 + a)]) rfl ?_
  refine zk_pf (pre := pre) (l := [.inl (G.2.2.1 0, 30, .inl (fun _ => 0))]) kX3 fX3_29 dX3_init_27 rfl rfl ha (by rfl) (by rfl) (Nat.le_of_ble_eq_true rfl) ?_
  refine z_aload_n dX3_init_30 rfl rfl ?_
  refine z_aload_n dX3_init_31 rfl rfl ?_
  refine z_callV (As := []) eX6_values sX6_values lX3_32 rfl dX3_init_32 (tf _) (c_X6_values 0 (tf _) hv0) (Nat.le_trans (by decide) hd) rfl (Nat.le_of_ble_eq_true rfl) (fun r c1 hp => ?_)
  obtain ⟨eR, eC⟩ := hp
  rw [eR, eC]
  clear eR eC r c1
  refine z_st (st' := [.ref (G.1 + t0), .ref (G.1 + a)]) rfl ?_
  refine zk_pf (pre := pre) (l := [.inl (G.2.2.1 0, 30, .inl (fun _ => 0))]) kX3 fX3_35 dX3_init_35 rfl rfl ha (by rfl) (by rfl) (Nat.le_of_ble_eq_true rfl) ?_
  refine z_aload_n dX3_init_38 rfl rfl ?_
  refine z_aload_n dX3_init_39 rfl rfl ?_
  refine zk_pf (pre := pre) (l := [.inl (G.2.2.1 0, 30, .inl (fun _ => 0))]) kX3 fX3_37 dX3_init_40 rfl rfl ha (by rfl) (by rfl) (Nat.le_of_ble_eq_true rfl) ?_
  refine z_aload_n dX3_init_43 rfl rfl ?_
  refine zk_new (k := 2) (pre := pre) (l := [.inr (3, [.ref (G.1 + b1), .ref (G.1 + b2), .ref (G.1 + t1), .ref (G.1 + t0), .ref (G.1 + b3), .null, .null, .null, .null, .null, .null, .ref (G.1 + (a + 1))]), .inl (G.2.2.1 0, 30, .inl (fun _ => 0))]) (fs := [.null, .null]) kX7 nX3_41 aX7 bX7 dX3_init_44 (by decide +kernel) hcp ha [12, 30] rfl rfl (by decide) (by decide) ?_
  refine z_dup dX3_init_47 rfl ?_
  refine z_aload_n dX3_init_48 rfl rfl ?_
  have hX := c_X7_init (G := G) (b1 := b2) (t0 := t0) 1 (Nat.le_refl _) (pre := pre ++ [.inr (3, [.ref (G.1 + b1), .ref (G.1 + b2), .ref (G.1 + t1), .ref (G.1 + t0), .ref (G.1 + b3), .null, .null, .null, .null, .null, .null, .ref (G.1 + (a + 1))]), .inl (G.2.2.1 0, 30, .inl (fun _ => 0))]) (tv := tv) (hcpW [.inr (3, [.ref (G.1 + b1), .ref (G.1 + b2), .ref (G.1 + t1), .ref (G.1 + t0), .ref (G.1 + b3), .null, .null, .null, .null, .null, .null, .ref (G.1 + (a + 1))]), .inl (G.2.2.1 0, 30, .inl (fun _ => 0))] [12, 30] rfl (by decide) (by decide)) (a := a + 2) (by rw [List.length_append, ha]; rfl) (tf _) hv0
  rw [List.append_assoc] at hX
  refine z_callI (As := [_]) eX7_init sX7_init lX3_43 dX3_init_49 hX (Nat.le_trans (by decide) hd) rfl (Nat.le_of_ble_eq_true rfl) (fun r c1 hp => ?_)
  obtain ⟨eR, eC⟩ := hp
  rw [eR, eC, List.append_assoc]
  clear eR eC hX r c1
  refine z_st (st' := [.ref (G.1 + (a + 2)), .ref (G.1 + a)]) rfl ?_
  show Z (RX3, cX3_init, 4, none, true) G d _ 52 [(0, .ref (G.1 + a)), (1, .ref (G.1 + b1)), (2, .ref (G.1 + b2)), (3, .ref (G.1 + b3))] [.ref (G.1 + (a + 2)), .ref (G.1 + a)] (pre ++ [.inr (3, [.ref (G.1 + b1), .ref (G.1 + b2), .ref (G.1 + t1), .ref (G.1 + t0), .ref (G.1 + b3), .null, .null, .null, .null, .null, .null, .ref (G.1 + (a + 1))]), .inl (G.2.2.1 0, 30, .inl (fun _ => 0)), .inr (7, [.ref (G.1 + b2), .ref (G.1 + t0)])])
  refine zk_pf (pre := pre) (l := [.inl (G.2.2.1 0, 30, .inl (fun _ => 0)), .inr (7, [.ref (G.1 + b2), .ref (G.1 + t0)])]) kX3 fX3_46 dX3_init_52 rfl rfl ha (by rfl) (by rfl) (Nat.le_of_ble_eq_true rfl) ?_
  refine z_aload_n dX3_init_55 rfl rfl ?_
  refine z_aload_n dX3_init_56 rfl rfl ?_
  refine z_callV (As := []) eX6_size sX6_size lX3_50 rfl dX3_init_57 (tf _) (c_X6_size 0 (tf _) hv16) (Nat.le_trans (by decide) hd) rfl (Nat.le_of_ble_eq_true rfl) (fun r c1 hp => ?_)
  obtain ⟨eR, eC⟩ := hp
  rw [eR, eC]
  clear eR eC r c1
  refine z_st (st' := [.int (Int32.ofInt (m : Int)), .ref (G.1 + a)]) rfl ?_
  refine zk_newa_int (k := 3) (pre := pre) (l := [.inr (3, [.ref (G.1 + b1), .ref (G.1 + b2), .ref (G.1 + t1), .ref (G.1 + t0), .ref (G.1 + b3), .ref (G.1 + (a + 2)), .null, .null, .null, .null, .null, .ref (G.1 + (a + 1))]), .inl (G.2.2.1 0, 30, .inl (fun _ => 0)), .inr (7, [.ref (G.1 + b2), .ref (G.1 + t0)])]) (N := m) arr_int dX3_init_60 hm0 hm1 (by omega) hcp ha [12, 30, 2] rfl rfl (by decide) (by simp only [List.sum_cons, List.sum_nil]; omega) ?_
  refine zk_pf (pre := pre) (l := [.inl (G.2.2.1 0, 30, .inl (fun _ => 0)), .inr (7, [.ref (G.1 + b2), .ref (G.1 + t0)]), .inl (G.2.2.1 0, m, .inl (fun _ => 0))]) kX3 fX3_54 dX3_init_62 rfl rfl ha (by rfl) (by rfl) (Nat.le_of_ble_eq_true rfl) ?_
  refine z_aload_n dX3_init_65 rfl rfl ?_
  refine z_aload_n dX3_init_66 rfl rfl ?_
  refine z_callV (As := []) eX6_size sX6_size lX3_50 rfl dX3_init_67 (tf _) (c_X6_size 0 (tf _) hv16) (Nat.le_trans (by decide) hd) rfl (Nat.le_of_ble_eq_true rfl) (fun r c1 hp => ?_)
  obtain ⟨eR, eC⟩ := hp
  rw [eR, eC]
  clear eR eC r c1
  refine z_st (st' := [.int (Int32.ofInt (m : Int)), .ref (G.1 + a)]) rfl ?_
  refine zk_newa_int (k := 4) (pre := pre) (l := [.inr (3, [.ref (G.1 + b1), .ref (G.1 + b2), .ref (G.1 + t1), .ref (G.1 + t0), .ref (G.1 + b3), .ref (G.1 + (a + 2)), .ref (G.1 + (a + 3)), .null, .null, .null, .null, .ref (G.1 + (a + 1))]), .inl (G.2.2.1 0, 30, .inl (fun _ => 0)), .inr (7, [.ref (G.1 + b2), .ref (G.1 + t0)]), .inl (G.2.2.1 0, m, .inl (fun _ => 0))]) (N := m) arr_int dX3_init_70 hm0 hm1 (by omega) hcp ha [12, 30, 2, m] rfl rfl (by decide) (by simp only [List.sum_cons, List.sum_nil]; omega) ?_
  refine zk_pf (pre := pre) (l := [.inl (G.2.2.1 0, 30, .inl (fun _ => 0)), .inr (7, [.ref (G.1 + b2), .ref (G.1 + t0)]), .inl (G.2.2.1 0, m, .inl (fun _ => 0)), .inl (G.2.2.1 0, m, .inl (fun _ => 0))]) kX3 fX3_57 dX3_init_72 rfl rfl ha (by rfl) (by rfl) (Nat.le_of_ble_eq_true rfl) ?_
  refine z_aload_n dX3_init_75 rfl rfl ?_
  refine z_aload_n dX3_init_76 rfl rfl ?_
  refine z_callV (As := []) eX6_size sX6_size lX3_50 rfl dX3_init_77 (tf _) (c_X6_size 0 (tf _) hv16) (Nat.le_trans (by decide) hd) rfl (Nat.le_of_ble_eq_true rfl) (fun r c1 hp => ?_)
  obtain ⟨eR, eC⟩ := hp
  rw [eR, eC]
  clear eR eC r c1
  refine z_st (st' := [.int (Int32.ofInt (m : Int)), .ref (G.1 + a)]) rfl ?_
  refine zk_newa_int (k := 5) (pre := pre) (l := [.inr (3, [.ref (G.1 + b1), .ref (G.1 + b2), .ref (G.1 + t1), .ref (G.1 + t0), .ref (G.1 + b3), .ref (G.1 + (a + 2)), .ref (G.1 + (a + 3)), .ref (G.1 + (a + 4)), .null, .null, .null, .ref (G.1 + (a + 1))]), .inl (G.2.2.1 0, 30, .inl (fun _ => 0)), .inr (7, [.ref (G.1 + b2), .ref (G.1 + t0)]), .inl (G.2.2.1 0, m, .inl (fun _ => 0)), .inl (G.2.2.1 0, m, .inl (fun _ => 0))]) (N := m) arr_int dX3_init_80 hm0 hm1 (by omega) hcp ha [12, 30, 2, m, m] rfl rfl (by decide) (by simp only [List.sum_cons, List.sum_nil]; omega) ?_
  refine zk_pf (pre := pre) (l := [.inl (G.2.2.1 0, 30, .inl (fun _ => 0)), .inr (7, [.ref (G.1 + b2), .ref (G.1 + t0)]), .inl (G.2.2.1 0, m, .inl (fun _ => 0)), .inl (G.2.2.1 0, m, .inl (fun _ => 0)), .inl (G.2.2.1 0, m, .inl (fun _ => 0))]) kX3 fX3_60 dX3_init_82 rfl rfl ha (by rfl) (by rfl) (Nat.le_of_ble_eq_true rfl) ?_
  refine z_aload_n dX3_init_85 rfl rfl ?_
  refine z_aload_n dX3_init_86 rfl rfl ?_
  refine z_callV (As := []) eX6_size sX6_size lX3_50 rfl dX3_init_87 (tf _) (c_X6_size 0 (tf _) hv16) (Nat.le_trans (by decide) hd) rfl (Nat.le_of_ble_eq_true rfl) (fun r c1 hp => ?_)
  obtain ⟨eR, eC⟩ := hp
  rw [eR, eC]
  clear eR eC r c1
  refine z_st (st' := [.int (Int32.ofInt (m : Int)), .ref (G.1 + a)]) rfl ?_
  refine zk_newa_int (k := 6) (pre := pre) (l := [.inr (3, [.ref (G.1 + b1), .ref (G.1 + b2), .ref (G.1 + t1), .ref (G.1 + t0), .ref (G.1 + b3), .ref (G.1 + (a + 2)), .ref (G.1 + (a + 3)), .ref (G.1 + (a + 4)), .ref (G.1 + (a + 5)), .null, .null, .ref (G.1 + (a + 1))]), .inl (G.2.2.1 0, 30, .inl (fun _ => 0)), .inr (7, [.ref (G.1 + b2), .ref (G.1 + t0)]), .inl (G.2.2.1 0, m, .inl (fun _ => 0)), .inl (G.2.2.1 0, m, .inl (fun _ => 0)), .inl (G.2.2.1 0, m, .inl (fun _ => 0))]) (N := m) arr_int dX3_init_90 hm0 hm1 (by omega) hcp ha [12, 30, 2, m, m, m] rfl rfl (by decide) (by simp only [List.sum_cons, List.sum_nil]; omega) ?_
  refine zk_pf (pre := pre) (l := [.inl (G.2.2.1 0, 30, .inl (fun _ => 0)), .inr (7, [.ref (G.1 + b2), .ref (G.1 + t0)]), .inl (G.2.2.1 0, m, .inl (fun _ => 0)), .inl (G.2.2.1 0, m, .inl (fun _ => 0)), .inl (G.2.2.1 0, m, .inl (fun _ => 0)), .inl (G.2.2.1 0, m, .inl (fun _ => 0))]) kX3 fX3_63 dX3_init_92 rfl rfl ha (by rfl) (by rfl) (Nat.le_of_ble_eq_true rfl) ?_
  refine z_aload_n dX3_init_95 rfl rfl ?_
  refine z_aload_n dX3_init_96 rfl rfl ?_
  refine z_callV (As := []) eX6_size sX6_size lX3_50 rfl dX3_init_97 (tf _) (c_X6_size 0 (tf _) hv16) (Nat.le_trans (by decide) hd) rfl (Nat.le_of_ble_eq_true rfl) (fun r c1 hp => ?_)
  obtain ⟨eR, eC⟩ := hp
  rw [eR, eC]
  clear eR eC r c1
  refine z_st (st' := [.int (Int32.ofInt (m : Int)), .ref (G.1 + a)]) rfl ?_
  refine zk_newa_int (k := 7) (pre := pre) (l := [.inr (3, [.ref (G.1 + b1), .ref (G.1 + b2), .ref (G.1 + t1), .ref (G.1 + t0), .ref (G.1 + b3), .ref (G.1 + (a + 2)), .ref (G.1 + (a + 3)), .ref (G.1 + (a + 4)), .ref (G.1 + (a + 5)), .ref (G.1 + (a + 6)), .null, .ref (G.1 + (a + 1))]), .inl (G.2.2.1 0, 30, .inl (fun _ => 0)), .inr (7, [.ref (G.1 + b2), .ref (G.1 + t0)]), .inl (G.2.2.1 0, m, .inl (fun _ => 0)), .inl (G.2.2.1 0, m, .inl (fun _ => 0)), .inl (G.2.2.1 0, m, .inl (fun _ => 0)), .inl (G.2.2.1 0, m, .inl (fun _ => 0))]) (N := m) arr_int dX3_init_100 hm0 hm1 (by omega) hcp ha [12, 30, 2, m, m, m, m] rfl rfl (by decide) (by simp only [List.sum_cons, List.sum_nil]; omega) ?_
  refine zk_pf (pre := pre) (l := [.inl (G.2.2.1 0, 30, .inl (fun _ => 0)), .inr (7, [.ref (G.1 + b2), .ref (G.1 + t0)]), .inl (G.2.2.1 0, m, .inl (fun _ => 0)), .inl (G.2.2.1 0, m, .inl (fun _ => 0)), .inl (G.2.2.1 0, m, .inl (fun _ => 0)), .inl (G.2.2.1 0, m, .inl (fun _ => 0)), .inl (G.2.2.1 0, m, .inl (fun _ => 0))]) kX3 fX3_66 dX3_init_102 rfl rfl ha (by rfl) (by rfl) (Nat.le_of_ble_eq_true rfl) ?_
  exact z_return dX3_init_105 rfl ⟨rfl, rfl⟩

