/-! Writer and ClassText are made -/
set_option maxRecDepth 100000 in
set_option maxHeartbeats 8000000 in
theorem c_X8_init {G : xG} (d : Nat) (hd : 1 ≤ d) {pre : List va_E} {a b1 b2 b3 : Nat} {m4 m5 : Int32} (hcp0 : Cp 1 pre) (ha : pre.length = a) : X G yX8_init cX8_init 6 none d [.ref (G.1 + a), .ref (G.1 + b1), .ref (G.1 + b2), .ref (G.1 + b3), .int m4, .int m5] (pre ++ [.inr (8, [.null, .null, .null, .int 0, .int 0, .null, .null, .null, .null, .null, .null, .int 0, .int 0])]) (fun r c1 => r = none ∧ c1 = pre ++ [.inr (8, [.ref (G.1 + b1), .ref (G.1 + b2), .ref (G.1 + b3), .int m4, .int m5, .ref (G.1 + (a + 1)), .ref (G.1 + (a + 2)), .ref (G.1 + (a + 3)), .ref (G.1 + (a + 4)), .ref (G.1 + (a + 5)), .ref (G.1 + (a + 6)), .int 0, .int 0]), .inl (G.2.2.1 0, 30, .inl (fun _ => 0)), .inl (G.2.2.1 0, 30, .inl (fun _ => 0)), .inl (G.2.2.1 0, 30, .inl (fun _ => 0)), .inl (G.2.2.1 0, 30, .inl (fun _ => 0)), .inl (G.2.2.1 0, 62, .inl (fun _ => 0)), .inl (G.2.2.1 0, 62, .inl (fun _ => 0))]) := by
  refine X.of true (by decide +kernel) (fun _ => rfl) (Nat.le_of_ble_eq_true rfl) ?_
  show Z (RX8, cX8_init, 6, none, true) G d _ 0 [(0, .ref (G.1 + a)), (1, .ref (G.1 + b1)), (2, .ref (G.1 + b2)), (3, .ref (G.1 + b3)), (4, .int m4), (5, .int m5)] [] (pre ++ [.inr (8, [.null, .null, .null, .int 0, .int 0, .null, .null, .null, .null, .null, .null, .int 0, .int 0])])
  have hcp := hcp0.one
  refine z_aload_n dX8_init_0 rfl rfl ?_
  refine z_objInit lX8_3 obj_i obj_c dX8_init_1 (Nat.le_trans (by decide) hd) (Nat.le_of_ble_eq_true rfl) ?_
  refine z_aload_n dX8_init_4 rfl rfl ?_
  refine z_bipush (v := 30) dX8_init_5 (by decide) ?_
  refine zk_newa_int (k := 1) (pre := pre) (l := [.inr (8, [.null, .null, .null, .int 0, .int 0, .null, .null, .null, .null, .null, .null, .int 0, .int 0])]) (N := 30) arr_int dX8_init_7 (by decide) (by decide) (by decide) hcp ha [13] rfl rfl (by decide) (by decide) ?_
  refine zk_pf (pre := pre) (l := [.inl (G.2.2.1 0, 30, .inl (fun _ => 0))]) kX8 fX8_9 dX8_init_9 rfl rfl ha (by rfl) (by rfl) (Nat.le_of_ble_eq_true rfl) ?_
  refine z_aload_n dX8_init_12 rfl rfl ?_
  refine z_bipush (v := 30) dX8_init_13 (by decide) ?_
  refine zk_newa_int (k := 2) (pre := pre) (l := [.inr (8, [.null, .null, .null, .int 0, .int 0, .ref (G.1 + (a + 1)), .null, .null, .null, .null, .null, .int 0, .int 0]), .inl (G.2.2.1 0, 30, .inl (fun _ => 0))]) (N := 30) arr_int dX8_init_15 (by decide) (by decide) (by decide) hcp ha [13, 30] rfl rfl (by decide) (by decide) ?_
  refine zk_pf (pre := pre) (l := [.inl (G.2.2.1 0, 30, .inl (fun _ => 0)), .inl (G.2.2.1 0, 30, .inl (fun _ => 0))]) kX8 fX8_15 dX8_init_17 rfl rfl ha (by rfl) (by rfl) (Nat.le_of_ble_eq_true rfl) ?_
  refine z_aload_n dX8_init_20 rfl rfl ?_
  refine z_bipush (v := 30) dX8_init_21 (by decide) ?_
  refine zk_newa_int (k := 3) (pre := pre) (l := [.inr (8, [.null, .null, .null, .int 0, .int 0, .ref (G.1 + (a + 1)), .ref (G.1 + (a + 2)), .null, .null, .null, .null, .int 0, .int 0]), .inl (G.2.2.1 0, 30, .inl (fun _ => 0)), .inl (G.2.2.1 0, 30, .inl (fun _ => 0))]) (N := 30) arr_int dX8_init_23 (by decide) (by decide) (by decide) hcp ha [13, 30, 30] rfl rfl (by decide) (by decide) ?_
  refine zk_pf (pre := pre) (l := [.inl (G.2.2.1 0, 30, .inl (fun _ => 0)), .inl (G.2.2.1 0, 30, .inl (fun _ => 0)), .inl (G.2.2.1 0, 30, .inl (fun _ => 0))]) kX8 fX8_18 dX8_init_25 rfl rfl ha (by rfl) (by rfl) (Nat.le_of_ble_eq_true rfl) ?_
  refine z_aload_n dX8_init_28 rfl rfl ?_
  refine z_bipush (v := 30) dX8_init_29 (by decide) ?_
  refine zk_newa_int (k := 4) (pre := pre) (l := [.inr (8, [.null, .null, .null, .int 0, .int 0, .ref (G.1 + (a + 1)), .ref (G.1 + (a + 2)), .ref (G.1 + (a + 3)), .null, .null, .null, .int 0, .int 0]), .inl (G.2.2.1 0, 30, .inl (fun _ => 0)), .inl (G.2.2.1 0, 30, .inl (fun _ => 0)), .inl (G.2.2.1 0, 30, .inl (fun _ => 0))]) (N := 30) arr_int dX8_init_31 (by decide) (by decide) (by decide) hcp ha [13, 30, 30, 30] rfl rfl (by decide) (by decide) ?_
  refine zk_pf (pre := pre) (l := [.inl (G.2.2.1 0, 30, .inl (fun _ => 0)), .inl (G.2.2.1 0, 30, .inl (fun _ => 0)), .inl (G.2.2.1 0, 30, .inl (fun _ => 0)), .inl (G.2.2.1 0, 30, .inl (fun _ => 0))]) kX8 fX8_21 dX8_init_33 rfl rfl ha (by rfl) (by rfl) (Nat.le_of_ble_eq_true rfl) ?_
  refine z_aload_n dX8_init_36 rfl rfl ?_
  refine z_bipush (v := 62) dX8_init_37 (by decide) ?_
  refine zk_newa_int (k := 5) (pre := pre) (l := [.inr (8, [.null, .null, .null, .int 0, .int 0, .ref (G.1 + (a + 1)), .ref (G.1 + (a + 2)), .ref (G.1 + (a + 3)), .ref (G.1 + (a + 4)), .null, .null, .int 0, .int 0]), .inl (G.2.2.1 0, 30, .inl (fun _ => 0)), .inl (G.2.2.1 0, 30, .inl (fun _ => 0)), .inl (G.2.2.1 0, 30, .inl (fun _ => 0)), .inl (G.2.2.1 0, 30, .inl (fun _ => 0))]) (N := 62) arr_int dX8_init_39 (by decide) (by decide) (by decide) hcp ha [13, 30, 30, 30, 30] rfl rfl (by decide) (by decide) ?_
  refine zk_pf (pre := pre) (l := [.inl (G.2.2.1 0, 30, .inl (fun _ => 0)), .inl (G.2.2.1 0, 30, .inl (fun _ => 0)), .inl (G.2.2.1 0, 30, .inl (fun _ => 0)), .inl (G.2.2.1 0, 30, .inl (fun _ => 0)), .inl (G.2.2.1 0, 62, .inl (fun _ => 0))]) kX8 fX8_24 dX8_init_41 rfl rfl ha (by rfl) (by rfl) (Nat.le_of_ble_eq_true rfl) ?_
  refine z_aload_n dX8_init_44 rfl rfl ?_
  refine z_bipush (v := 62) dX8_init_45 (by decide) ?_
  refine zk_newa_int (k := 6) (pre := pre) (l := [.inr (8, [.null, .null, .null, .int 0, .int 0, .ref (G.1 + (a + 1)), .ref (G.1 + (a + 2)), .ref (G.1 + (a + 3)), .ref (G.1 + (a + 4)), .ref (G.1 + (a + 5)), .null, .int 0, .int 0]), .inl (G.2.2.1 0, 30, .inl (fun _ => 0)), .inl (G.2.2.1 0, 30, .inl (fun _ => 0)), .inl (G.2.2.1 0, 30, .inl (fun _ => 0)), .inl (G.2.2.1 0, 30, .inl (fun _ => 0)), .inl (G.2.2.1 0, 62, .inl (fun _ => 0))]) (N := 62) arr_int dX8_init_47 (by decide) (by decide) (by decide) hcp ha [13, 30, 30, 30, 30, 62] rfl rfl (by decide) (by decide) ?_
  refine zk_pf (pre := pre) (l := [.inl (G.2.2.1 0, 30, .inl (fun _ => 0)), .inl (G.2.2.1 0, 30, .inl (fun _ => 0)), .inl (G.2.2.1 0, 30, .inl (fun _ => 0)), .inl (G.2.2.1 0, 30, .inl (fun _ => 0)), .inl (G.2.2.1 0, 62, .inl (fun _ => 0)), .inl (G.2.2.1 0, 62, .inl (fun _ => 0))]) kX8 fX8_27 dX8_init_49 rfl rfl ha (by rfl) (by rfl) (Nat.le_of_ble_eq_true rfl) ?_
  refine z_aload_n dX8_init_52 rfl rfl ?_
  refine z_iconst (v := 0) dX8_init_53 (by decide) ?_
  refine zk_pf (pre := pre) (l := [.inl (G.2.2.1 0, 30, .inl (fun _ => 0)), .inl (G.2.2.1 0, 30, .inl (fun _ => 0)), .inl (G.2.2.1 0, 30, .inl (fun _ => 0)), .inl (G.2.2.1 0, 30, .inl (fun _ => 0)), .inl (G.2.2.1 0, 62, .inl (fun _ => 0)), .inl (G.2.2.1 0, 62, .inl (fun _ => 0))]) kX8 fX8_30 dX8_init_54 rfl rfl ha (by rfl) (by rfl) (Nat.le_of_ble_eq_true rfl) ?_
  refine z_aload_n dX8_init_57 rfl rfl ?_
  refine z_iconst (v := 0) dX8_init_58 (by decide) ?_
  refine zk_pf (pre := pre) (l := [.inl (G.2.2.1 0, 30, .inl (fun _ => 0)), .inl (G.2.2.1 0, 30, .inl (fun _ => 0)), .inl (G.2.2.1 0, 30, .inl (fun _ => 0)), .inl (G.2.2.1 0, 30, .inl (fun _ => 0)), .inl (G.2.2.1 0, 62, .inl (fun _ => 0)), .inl (G.2.2.1 0, 62, .inl (fun _ => 0))]) kX8 fX8_34 dX8_init_59 rfl rfl ha (by rfl) (by rfl) (Nat.le_of_ble_eq_true rfl) ?_
  refine z_aload_n dX8_init_62 rfl rfl ?_
  refine z_aload_n dX8_init_63 rfl rfl ?_
  refine zk_pf (pre := pre) (l := [.inl (G.2.2.1 0, 30, .inl (fun _ => 0)), .inl (G.2.2.1 0, 30, .inl (fun _ => 0)), .inl (G.2.2.1 0, 30, .inl (fun _ => 0)), .inl (G.2.2.1 0, 30, .inl (fun _ => 0)), .inl (G.2.2.1 0, 62, .inl (fun _ => 0)), .inl (G.2.2.1 0, 62, .inl (fun _ => 0))]) kX8 fX8_38 dX8_init_64 rfl rfl ha (by rfl) (by rfl) (Nat.le_of_ble_eq_true rfl) ?_
  refine z_aload_n dX8_init_67 rfl rfl ?_
  refine z_aload_n dX8_init_68 rfl rfl ?_
  refine zk_pf (pre := pre) (l := [.inl (G.2.2.1 0, 30, .inl (fun _ => 0)), .inl (G.2.2.1 0, 30, .inl (fun _ => 0)), .inl (G.2.2.1 0, 30, .inl (fun _ => 0)), .inl (G.2.2.1 0, 30, .inl (fun _ => 0)), .inl (G.2.2.1 0, 62, .inl (fun _ => 0)), .inl (G.2.2.1 0, 62, .inl (fun _ => 0))]) kX8 fX8_42 dX8_init_69 rfl rfl ha (by rfl) (by rfl) (Nat.le_of_ble_eq_true rfl) ?_
  refine z_aload_n dX8_init_72 rfl rfl ?_
  refine z_aload_n dX8_init_73 rfl rfl ?_
  refine zk_pf (pre := pre) (l := [.inl (G.2.2.1 0, 30, .inl (fun _ => 0)), .inl (G.2.2.1 0, 30, .inl (fun _ => 0)), .inl (G.2.2.1 0, 30, .inl (fun _ => 0)), .inl (G.2.2.1 0, 30, .inl (fun _ => 0)), .inl (G.2.2.1 0, 62, .inl (fun _ => 0)), .inl (G.2.2.1 0, 62, .inl (fun _ => 0))]) kX8 fX8_46 dX8_init_74 rfl rfl ha (by rfl) (by rfl) (Nat.le_of_ble_eq_true rfl) ?_
  refine z_aload_n dX8_init_77 rfl rfl ?_
  refine z_iload dX8_init_78 rfl ?_
  refine zk_pf (pre := pre) (l := [.inl (G.2.2.1 0, 30, .inl (fun _ => 0)), .inl (G.2.2.1 0, 30, .inl (fun _ => 0)), .inl (G.2.2.1 0, 30, .inl (fun _ => 0)), .inl (G.2.2.1 0, 30, .inl (fun _ => 0)), .inl (G.2.2.1 0, 62, .inl (fun _ => 0)), .inl (G.2.2.1 0, 62, .inl (fun _ => 0))]) kX8 fX8_50 dX8_init_80 rfl rfl ha (by rfl) (by rfl) (Nat.le_of_ble_eq_true rfl) ?_
  refine z_aload_n dX8_init_83 rfl rfl ?_
  refine z_iload dX8_init_84 rfl ?_
  refine zk_pf (pre := pre) (l := [.inl (G.2.2.1 0, 30, .inl (fun _ => 0)), .inl (G.2.2.1 0, 30, .inl (fun _ => 0)), .inl (G.2.2.1 0, 30, .inl (fun _ => 0)), .inl (G.2.2.1 0, 30, .inl (fun _ => 0)), .inl (G.2.2.1 0, 62, .inl (fun _ => 0)), .inl (G.2.2.1 0, 62, .inl (fun _ => 0))]) kX8 fX8_53 dX8_init_86 rfl rfl ha (by rfl) (by rfl) (Nat.le_of_ble_eq_true rfl) ?_
  exact z_return dX8_init_89 rfl ⟨rfl, rfl⟩
set_option maxRecDepth 100000 in
set_option maxHeartbeats 8000000 in
theorem c_X0_init {G : xG} (d : Nat) (hd : 1 ≤ d) {pre : List va_E} {a b1 b2 : Nat} (hcp0 : Cp 1 pre) (ha : pre.length = a) : X G yX0_init cX0_init 3 none d [.ref (G.1 + a), .ref (G.1 + b1), .ref (G.1 + b2)] (pre ++ [.inr (0, [.null, .null, .int 0])]) (fun r c1 => r = none ∧ c1 = pre ++ [.inr (0, [.ref (G.1 + b1), .ref (G.1 + b2), .int 0])]) := by
  refine X.of true (by decide +kernel) (fun _ => rfl) (Nat.le_of_ble_eq_true rfl) ?_
  show Z (RX0, cX0_init, 3, none, true) G d _ 0 [(0, .ref (G.1 + a)), (1, .ref (G.1 + b1)), (2, .ref (G.1 + b2))] [] (pre ++ [.inr (0, [.null, .null, .int 0])])
  have hcp := hcp0.one
  refine z_aload_n dX0_init_0 rfl rfl ?_
  refine z_objInit lX0_3 obj_i obj_c dX0_init_1 (Nat.le_trans (by decide) hd) (Nat.le_of_ble_eq_true rfl) ?_
  refine z_aload_n dX0_init_4 rfl rfl ?_
  refine z_iconst (v := 0) dX0_init_5 (by decide) ?_
  refine zk_pf (pre := pre) (l := []) kX0 fX0_9 dX0_init_6 rfl rfl ha (by rfl) (by rfl) (Nat.le_of_ble_eq_true rfl) ?_
  refine z_aload_n dX0_init_9 rfl rfl ?_
  refine z_aload_n dX0_init_10 rfl rfl ?_
  refine zk_pf (pre := pre) (l := []) kX0 fX0_15 dX0_init_11 rfl rfl ha (by rfl) (by rfl) (Nat.le_of_ble_eq_true rfl) ?_
  refine z_aload_n dX0_init_14 rfl rfl ?_
  refine z_aload_n dX0_init_15 rfl rfl ?_
  refine zk_pf (pre := pre) (l := []) kX0 fX0_19 dX0_init_16 rfl rfl ha (by rfl) (by rfl) (Nat.le_of_ble_eq_true rfl) ?_
  exact z_return dX0_init_19 rfl ⟨rfl, rfl⟩

