set_option maxRecDepth 100000 in
set_option maxHeartbeats 4000000 in
theorem kX9_init {G : xG} {B : Nat × Nat} {τ : Tau} {cs : List va_E} {a1 : Nat} {a2 pa2 : Nat} (d : Nat) (hd : 1 ≤ d) (hW : WT G B τ cs) (ga1 : oT τ a1 5) (ga2 : τ a2 = some (.inl (6, pa2)))  (hB : B.1 + 1 ≤ 600000 ∧ B.2 + 7 ≤ 7302250) : X G yX9_init cX9_init 3 none d [.ref (G.1 + cs.length), .ref (G.1 + a1), .ref (G.1 + a2)] (cs ++ [.inr (9, [.null, .null, .null, .int 0, .int 0, .int 0, .int 0])]) (fun v c1 => v = none ∧ ∃ (τ1 : Tau) (p : Nat), WT G (B.1 + 1, B.2 + 7) τ1 c1 ∧ Fx [] τ cs τ1 c1 ∧ τ1 cs.length = some (.inl (9, p))) := by
  refine X.of true (by decide +kernel) (fun _ => rfl) (Nat.le_of_ble_eq_true rfl) ?_
  show Z (RX9, cX9_init, 3, none, true) G d _ 0 [(0, .ref (G.1 + cs.length)), (1, .ref (G.1 + a1)), (2, .ref (G.1 + a2))] [] _
  have hno := hW.non (a := cs.length) (Nat.le_refl _)
  have hty := hW.1
  have h22 := hW.l22
  have hr : (cs ++ [.inr (9, [.null, .null, .null, .int 0, .int 0, .int 0, .int 0])])[cs.length]? = some (.inr (9, [.null, .null, .null, .int 0, .int 0, .int 0, .int 0])) := app_last
  have hX : Fx [] τ cs τ (cs ++ [.inr (9, [.null, .null, .null, .int 0, .int 0, .int 0, .int 0])]) := Fx.rf.raw hty
  have hlen := hX.2.1
  obtain ⟨B0, hB1, hB2⟩ : ∃ B0 : Nat × Nat, B0.1 = B.1 + 1 ∧ B0.2 = B.2 + 7 := ⟨(_, _), rfl, rfl⟩
  have hW : WT G B0 τ (cs ++ [.inr (9, [.null, .null, .null, .int 0, .int 0, .int 0, .int 0])]) := hW.raw hB1 hB2 (by omega) (by omega)
  obtain ⟨a0, ha0⟩ : ∃ a0 : Nat, a0 = cs.length := ⟨_, rfl⟩
  rw [← ha0] at hno hr h22 ⊢
  have hle : cs.length ≤ a0 := by omega
  refine z_aload_n dX9_init_0 rfl rfl ?_
  refine z_objInit lX9_3 obj_i obj_c dX9_init_1 (Nat.le_trans (by decide) hd) (Nat.le_of_ble_eq_true rfl) ?_
  refine z_aload_n dX9_init_4 rfl rfl ?_
  refine z_iconst (v := Int32.ofInt 0) dX9_init_5 rfl ?_
  refine q_put hW hX hr hno hle kX9 fX9_9 dX9_init_6 rfl rfl (by rfl) (by rfl) (Nat.le_of_ble_eq_true rfl) (fun cs1 hW hX hr => ?_)
  have hr : cs1[a0]? = some (.inr (9, [.null, .null, .null, .int (Int32.ofInt 0), .int 0, .int 0, .int 0])) := hr
  have hlen : cs.length ≤ cs1.length := hX.2.1
  refine z_aload_n dX9_init_9 rfl rfl ?_
  refine z_iconst (v := Int32.ofInt (-1)) dX9_init_10 rfl ?_
  refine q_put hW hX hr hno hle kX9 fX9_15 dX9_init_11 rfl rfl (by rfl) (by rfl) (Nat.le_of_ble_eq_true rfl) (fun cs1 hW hX hr => ?_)
  have hr : cs1[a0]? = some (.inr (9, [.null, .null, .null, .int (Int32.ofInt 0), .int (Int32.ofInt (-1)), .int 0, .int 0])) := hr
  have hlen : cs.length ≤ cs1.length := hX.2.1
  refine z_aload_n dX9_init_14 rfl rfl ?_
  refine z_iconst (v := Int32.ofInt 0) dX9_init_15 rfl ?_
  refine q_put hW hX hr hno hle kX9 fX9_18 dX9_init_16 rfl rfl (by rfl) (by rfl) (Nat.le_of_ble_eq_true rfl) (fun cs1 hW hX hr => ?_)
  have hr : cs1[a0]? = some (.inr (9, [.null, .null, .null, .int (Int32.ofInt 0), .int (Int32.ofInt (-1)), .int (Int32.ofInt 0), .int 0])) := hr
  have hlen : cs.length ≤ cs1.length := hX.2.1
  refine z_aload_n dX9_init_19 rfl rfl ?_
  refine z_iconst (v := Int32.ofInt (-1)) dX9_init_20 rfl ?_
  refine q_put hW hX hr hno hle kX9 fX9_21 dX9_init_21 rfl rfl (by rfl) (by rfl) (Nat.le_of_ble_eq_true rfl) (fun cs1 hW hX hr => ?_)
  have hr : cs1[a0]? = some (.inr (9, [.null, .null, .null, .int (Int32.ofInt 0), .int (Int32.ofInt (-1)), .int (Int32.ofInt 0), .int (Int32.ofInt (-1))])) := hr
  have hlen : cs.length ≤ cs1.length := hX.2.1
  refine z_aload_n dX9_init_24 rfl rfl ?_
  refine z_aload_n dX9_init_25 rfl rfl ?_
  refine q_put hW hX hr hno hle kX9 fX9_24 dX9_init_26 rfl rfl (by rfl) (by rfl) (Nat.le_of_ble_eq_true rfl) (fun cs1 hW hX hr => ?_)
  have hr : cs1[a0]? = some (.inr (9, [.ref (G.1 + a1), .null, .null, .int (Int32.ofInt 0), .int (Int32.ofInt (-1)), .int (Int32.ofInt 0), .int (Int32.ofInt (-1))])) := hr
  have hlen : cs.length ≤ cs1.length := hX.2.1
  refine z_aload_n dX9_init_29 rfl rfl ?_
  refine z_aload_n dX9_init_30 rfl rfl ?_
  refine q_put hW hX hr hno hle kX9 fX9_28 dX9_init_31 rfl rfl (by rfl) (by rfl) (Nat.le_of_ble_eq_true rfl) (fun cs1 hW hX hr => ?_)
  have hr : cs1[a0]? = some (.inr (9, [.ref (G.1 + a1), .ref (G.1 + a2), .null, .int (Int32.ofInt 0), .int (Int32.ofInt (-1)), .int (Int32.ofInt 0), .int (Int32.ofInt (-1))])) := hr
  have hlen : cs.length ≤ cs1.length := hX.2.1
  refine z_aload_n dX9_init_34 rfl rfl ?_
  refine z_aload_n dX9_init_35 rfl rfl ?_
  have hX0 := kX6_values 0 (Nat.le_refl _) hW ga2
  refine z_callV (As := []) eX6_values sX6_values lX9_32 rfl dX9_init_36 (hW.ob ga2 (by decide)).choose_spec hX0 (Nat.le_trans (by decide) hd) rfl (Nat.le_of_ble_eq_true rfl) (fun r cs2 hp => ?_)
  obtain ⟨hcs, r1, rfl, gr1⟩ := hp
  obtain rfl := hcs.symm
  refine z_st (st' := [.ref (G.1 + r1), .ref (G.1 + a0)]) rfl ?_
  refine q_put hW hX hr hno hle kX9 fX9_38 dX9_init_39 rfl rfl (by rfl) (by rfl) (Nat.le_of_ble_eq_true rfl) (fun cs1 hW hX hr => ?_)
  have hr : cs1[a0]? = some (.inr (9, [.ref (G.1 + a1), .ref (G.1 + a2), .ref (G.1 + r1), .int (Int32.ofInt 0), .int (Int32.ofInt (-1)), .int (Int32.ofInt 0), .int (Int32.ofInt (-1))])) := hr
  have hlen : cs.length ≤ cs1.length := hX.2.1
  refine z_return dX9_init_42 rfl ⟨rfl, upT τ a0 (.inl (9, 0)), 0, WT.up (hW.give hno h22 (at_lt hr) (fun ci p q => by cases q; exact ⟨by decide, by decide, by decide, by decide, by omega⟩) (fun _ _ _ _ q => by cases q) (fun _ _ _ _ q => by cases q) (fun ci p q => by cases q; exact ⟨_, hr, (wF_cons ⟨a1, rfl, ga1⟩ (wF_cons ⟨a2, rfl, ⟨_, ga2⟩⟩ (wF_cons ⟨r1, rfl, gr1⟩ (wF_cons ⟨_, rfl, ⟨by decide, by decide⟩⟩ (wF_cons ⟨_, rfl, ⟨by decide, by decide⟩⟩ (wF_cons ⟨_, rfl, ⟨by decide, by decide⟩⟩ (wF_cons ⟨_, rfl, ⟨by decide, by decide⟩⟩ wF_nil)))))))⟩)) (by show _ ≤ B.1 + _; omega) (by show _ ≤ B.2 + _; omega) hB.1 hB.2, hX.give hle hno, by rw [ha0]; exact upT_at⟩

