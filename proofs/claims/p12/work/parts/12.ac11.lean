set_option maxRecDepth 100000 in
set_option maxHeartbeats 4000000 in
theorem kX6_isSolid {G : xG} {B : Nat × Nat} {τ : Tau} {cs : List va_E} {a0 pa0 : Nat} {l1 : Int} (d : Nat) (hd : 1 ≤ d) (hW : WT G B τ cs) (ga0 : τ a0 = some (.inl (6, pa0))) (gl1 : rng l1)  : X G yX6_isSolid cX6_isSolid 2 (some .boolean) d [.ref (G.1 + a0), .int (Int32.ofInt l1)] cs (rI cs (fun r => (iv 0 1 r))) := by
  refine X.of false (by decide +kernel) (by decide) (Nat.le_of_ble_eq_true rfl) ?_
  show Z (RX6, cX6_isSolid, 2, some .boolean, false) G d _ 0 [(0, .ref (G.1 + a0)), (1, .int (Int32.ofInt l1))] [] cs
  have hP : ∀ r : Int, rng r → ((iv 0 1 r)) → rI cs (fun r => (iv 0 1 r)) (some (.int (Int32.ofInt r))) cs := fun r h1 h2 => ⟨rfl, r, rfl, h1, h2⟩
  refine z_aload_n dX6_isSolid_0 rfl rfl ?_
  refine z_iload_n dX6_isSolid_1 rfl rfl ?_
  have hX0 := kX6_has 0 (Nat.le_refl _) hW ga0 gl1 
  refine z_callV (As := [_]) eX6_has sX6_has lX6_75 rfl dX6_isSolid_2 (hW.ob ga0 (by decide)).choose_spec hX0 (Nat.le_trans (by decide) hd) rfl (Nat.le_of_ble_eq_true rfl) (fun r cs1 hp => ?_)
  obtain ⟨hcs, r2, rfl, gr2, ⟨n1_0, n1_1, n1_2⟩⟩ := hp
  obtain rfl := hcs.symm
  refine z_st (st' := [.int (Int32.ofInt r2)]) rfl ?_
  refine i_if_eq (tgt := 21) dX6_isSolid_5 (by decide) gr2 (fun h3 => ?_) (fun h3 => ?_)
  · refine z_iconst (v := Int32.ofInt 0) dX6_isSolid_21 rfl ?_
    exact z_ireturn dX6_isSolid_22 rfl (nar01 (b01 ⟨by decide, by decide⟩)) (hP _ (show rng 0 from ⟨by decide, by decide⟩) (by omega))
  · refine z_aload_n dX6_isSolid_8 rfl rfl ?_
    refine tw_getA hW ga0 (by decide) (by decide) rfl kX6 fX6_49 dX6_isSolid_9 (fun b4 _ gb4 => ?_)
    refine z_iload_n dX6_isSolid_12 rfl rfl ?_
    refine tw_zald hW gb4 (by omega) (by omega) dX6_isSolid_13 (fun x5 _ vx5 gx5 => ?_)
    refine i_if_eq (tgt := 21) dX6_isSolid_14 (by decide) gx5 (fun h6 => ?_) (fun h6 => ?_)
    · refine z_iconst (v := Int32.ofInt 0) dX6_isSolid_21 rfl ?_
      exact z_ireturn dX6_isSolid_22 rfl (nar01 (b01 ⟨by decide, by decide⟩)) (hP _ (show rng 0 from ⟨by decide, by decide⟩) (by omega))
    · refine z_iconst (v := Int32.ofInt 1) dX6_isSolid_17 rfl ?_
      refine z_goto (tgt := 22) dX6_isSolid_18 (by decide) ?_
      exact z_ireturn dX6_isSolid_22 rfl (nar01 (b01 ⟨by decide, by decide⟩)) (hP _ (show rng 1 from ⟨by decide, by decide⟩) (by omega))

set_option maxRecDepth 100000 in
set_option maxHeartbeats 4000000 in
theorem kX6_kidCount {G : xG} {B : Nat × Nat} {τ : Tau} {cs : List va_E} {a0 pa0 : Nat} {l1 : Int} (d : Nat) (hd : 1 ≤ d) (hW : WT G B τ cs) (ga0 : τ a0 = some (.inl (6, pa0))) (gl1 : rng l1)  : X G yX6_kidCount cX6_kidCount 2 (some .int) d [.ref (G.1 + a0), .int (Int32.ofInt l1)] cs (rI cs (fun r => True)) := by
  refine X.of false (by decide +kernel) (by decide) (Nat.le_of_ble_eq_true rfl) ?_
  show Z (RX6, cX6_kidCount, 2, some .int, false) G d _ 0 [(0, .ref (G.1 + a0)), (1, .int (Int32.ofInt l1))] [] cs
  have hP : ∀ r : Int, rng r → (True) → rI cs (fun r => True) (some (.int (Int32.ofInt r))) cs := fun r h1 h2 => ⟨rfl, r, rfl, h1, h2⟩
  refine z_aload_n dX6_kidCount_0 rfl rfl ?_
  refine z_iload_n dX6_kidCount_1 rfl rfl ?_
  have hX0 := kX6_has 0 (Nat.le_refl _) hW ga0 gl1 
  refine z_callV (As := [_]) eX6_has sX6_has lX6_75 rfl dX6_kidCount_2 (hW.ob ga0 (by decide)).choose_spec hX0 (Nat.le_trans (by decide) hd) rfl (Nat.le_of_ble_eq_true rfl) (fun r cs1 hp => ?_)
  obtain ⟨hcs, r2, rfl, gr2, ⟨n1_0, n1_1, n1_2⟩⟩ := hp
  obtain rfl := hcs.symm
  refine z_st (st' := [.int (Int32.ofInt r2)]) rfl ?_
  refine i_if_eq (tgt := 17) dX6_kidCount_5 (by decide) gr2 (fun h3 => ?_) (fun h3 => ?_)
  · refine z_iconst (v := Int32.ofInt 0) dX6_kidCount_17 rfl ?_
    exact z_ireturn dX6_kidCount_18 rfl rfl (hP _ (show rng 0 from ⟨by decide, by decide⟩) trivial)
  · refine z_aload_n dX6_kidCount_8 rfl rfl ?_
    refine tw_getA hW ga0 (by decide) (by decide) rfl kX6 fX6_34 dX6_kidCount_9 (fun b4 _ gb4 => ?_)
    refine z_iload_n dX6_kidCount_12 rfl rfl ?_
    refine tw_iald hW gb4 (by omega) (by omega) dX6_kidCount_13 (fun x5 _ vx5 gx5 => ?_)
    refine z_goto (tgt := 18) dX6_kidCount_14 (by decide) ?_
    exact z_ireturn dX6_kidCount_18 rfl rfl (hP _ gx5 trivial)

set_option maxRecDepth 100000 in
set_option maxHeartbeats 4000000 in
theorem kX6_textFrom {G : xG} {B : Nat × Nat} {τ : Tau} {cs : List va_E} {a0 pa0 : Nat} {l1 : Int} (d : Nat) (hd : 1 ≤ d) (hW : WT G B τ cs) (ga0 : τ a0 = some (.inl (6, pa0))) (gl1 : rng l1)  : X G yX6_textFrom cX6_textFrom 2 (some .int) d [.ref (G.1 + a0), .int (Int32.ofInt l1)] cs (rI cs (fun r => True)) := by
  refine X.of false (by decide +kernel) (by decide) (Nat.le_of_ble_eq_true rfl) ?_
  show Z (RX6, cX6_textFrom, 2, some .int, false) G d _ 0 [(0, .ref (G.1 + a0)), (1, .int (Int32.ofInt l1))] [] cs
  have hP : ∀ r : Int, rng r → (True) → rI cs (fun r => True) (some (.int (Int32.ofInt r))) cs := fun r h1 h2 => ⟨rfl, r, rfl, h1, h2⟩
  refine z_aload_n dX6_textFrom_0 rfl rfl ?_
  refine z_iload_n dX6_textFrom_1 rfl rfl ?_
  have hX0 := kX6_has 0 (Nat.le_refl _) hW ga0 gl1 
  refine z_callV (As := [_]) eX6_has sX6_has lX6_75 rfl dX6_textFrom_2 (hW.ob ga0 (by decide)).choose_spec hX0 (Nat.le_trans (by decide) hd) rfl (Nat.le_of_ble_eq_true rfl) (fun r cs1 hp => ?_)
  obtain ⟨hcs, r2, rfl, gr2, ⟨n1_0, n1_1, n1_2⟩⟩ := hp
  obtain rfl := hcs.symm
  refine z_st (st' := [.int (Int32.ofInt r2)]) rfl ?_
  refine i_if_eq (tgt := 17) dX6_textFrom_5 (by decide) gr2 (fun h3 => ?_) (fun h3 => ?_)
  · refine z_iconst (v := Int32.ofInt 0) dX6_textFrom_17 rfl ?_
    exact z_ireturn dX6_textFrom_18 rfl rfl (hP _ (show rng 0 from ⟨by decide, by decide⟩) trivial)
  · refine z_aload_n dX6_textFrom_8 rfl rfl ?_
    refine tw_getA hW ga0 (by decide) (by decide) rfl kX6 fX6_43 dX6_textFrom_9 (fun b4 _ gb4 => ?_)
    refine z_iload_n dX6_textFrom_12 rfl rfl ?_
    refine tw_iald hW gb4 (by omega) (by omega) dX6_textFrom_13 (fun x5 _ vx5 gx5 => ?_)
    refine z_goto (tgt := 18) dX6_textFrom_14 (by decide) ?_
    exact z_ireturn dX6_textFrom_18 rfl rfl (hP _ gx5 trivial)

set_option maxRecDepth 100000 in
set_option maxHeartbeats 4000000 in
theorem kX6_textTo {G : xG} {B : Nat × Nat} {τ : Tau} {cs : List va_E} {a0 pa0 : Nat} {l1 : Int} (d : Nat) (hd : 1 ≤ d) (hW : WT G B τ cs) (ga0 : τ a0 = some (.inl (6, pa0))) (gl1 : rng l1)  : X G yX6_textTo cX6_textTo 2 (some .int) d [.ref (G.1 + a0), .int (Int32.ofInt l1)] cs (rI cs (fun r => True)) := by
  refine X.of false (by decide +kernel) (by decide) (Nat.le_of_ble_eq_true rfl) ?_
  show Z (RX6, cX6_textTo, 2, some .int, false) G d _ 0 [(0, .ref (G.1 + a0)), (1, .int (Int32.ofInt l1))] [] cs
  have hP : ∀ r : Int, rng r → (True) → rI cs (fun r => True) (some (.int (Int32.ofInt r))) cs := fun r h1 h2 => ⟨rfl, r, rfl, h1, h2⟩
  refine z_aload_n dX6_textTo_0 rfl rfl ?_
  refine z_iload_n dX6_textTo_1 rfl rfl ?_
  have hX0 := kX6_has 0 (Nat.le_refl _) hW ga0 gl1 
  refine z_callV (As := [_]) eX6_has sX6_has lX6_75 rfl dX6_textTo_2 (hW.ob ga0 (by decide)).choose_spec hX0 (Nat.le_trans (by decide) hd) rfl (Nat.le_of_ble_eq_true rfl) (fun r cs1 hp => ?_)
  obtain ⟨hcs, r2, rfl, gr2, ⟨n1_0, n1_1, n1_2⟩⟩ := hp
  obtain rfl := hcs.symm
  refine z_st (st' := [.int (Int32.ofInt r2)]) rfl ?_
  refine i_if_eq (tgt := 17) dX6_textTo_5 (by decide) gr2 (fun h3 => ?_) (fun h3 => ?_)
  · refine z_iconst (v := Int32.ofInt 0) dX6_textTo_17 rfl ?_
    exact z_ireturn dX6_textTo_18 rfl rfl (hP _ (show rng 0 from ⟨by decide, by decide⟩) trivial)
  · refine z_aload_n dX6_textTo_8 rfl rfl ?_
    refine tw_getA hW ga0 (by decide) (by decide) rfl kX6 fX6_46 dX6_textTo_9 (fun b4 _ gb4 => ?_)
    refine z_iload_n dX6_textTo_12 rfl rfl ?_
    refine tw_iald hW gb4 (by omega) (by omega) dX6_textTo_13 (fun x5 _ vx5 gx5 => ?_)
    refine z_goto (tgt := 18) dX6_textTo_14 (by decide) ?_
    exact z_ireturn dX6_textTo_18 rfl rfl (hP _ gx5 trivial)

set_option maxRecDepth 100000 in
set_option maxHeartbeats 4000000 in
theorem kX3_isSound {G : xG} {B : Nat × Nat} {τ : Tau} {cs : List va_E} {a0 pm : Nat} {l1 : Int} (d : Nat) (hd : 6 ≤ d) (hW : WT G B τ cs) (ga0 : τ a0 = some (.inl (3, pm))) (gl1 : rng l1) (p0 : 0 ≤ l1) (p1 : l1 < (pm : Nat)) : X G yX3_isSound cX3_isSound 2 (some .boolean) d [.ref (G.1 + a0), .int (Int32.ofInt l1)] cs (wI G B τ cs [1, 3] (fun r => (iv 0 1 r))) := by
  refine X.of false (by decide +kernel) (by decide) (Nat.le_of_ble_eq_true rfl) ?_
  show Z (RX3, cX3_isSound, 2, some .boolean, false) G d _ 0 [(0, .ref (G.1 + a0)), (1, .int (Int32.ofInt l1))] [] cs
  have hP : ∀ (τ1 : Tau) (c1 : List va_E) (r : Int), WT G B τ1 c1 → Fx [1, 3] τ cs τ1 c1 → rng r → ((iv 0 1 r)) → wI G B τ cs [1, 3] (fun r => (iv 0 1 r)) (some (.int (Int32.ofInt r))) c1 := fun τ1 c1 r h1 h2 h3 h4 => ⟨τ1, r, rfl, h3, h1, h2, h4⟩
  have hX : Fx [1, 3] τ cs τ cs := Fx.rf
  skip
  have hpm := hW.2.1.2.2.2.2.2.2.1 _ _ ga0
  refine z_aload_n dX3_isSound_0 rfl rfl ?_
  refine tw_getA hW ga0 (by decide) (by decide) rfl kX3 fX3_54 dX3_isSound_1 (fun b1 _ gb1 => ?_)
  refine z_iload_n dX3_isSound_4 rfl rfl ?_
  refine tw_iald hW gb1 (by omega) (by omega) dX3_isSound_5 (fun x2 _ vx2 gx2 => ?_)
  rcases (show (¬ (1 ≤ x2 ∧ x2 ≤ 3)) ∨ x2 = 1 ∨ x2 = 2 ∨ x2 = 3 by omega) with h3 | h3 | h3 | h3
  · refine i_tableOut (tgt := 148) dX3_isSound_6 gx2 h3 (by decide) ?_
    refine z_iconst (v := Int32.ofInt 1) dX3_isSound_148 rfl ?_
    exact z_ireturn dX3_isSound_149 rfl (nar01 (b01 ⟨by decide, by decide⟩)) (hP _ _ _ hW hX (show rng 1 from ⟨by decide, by decide⟩) (by omega))
  · refine i_tableIn (c := 1) (off := 26) (tgt := 32) dX3_isSound_6 h3 ⟨by decide, by decide⟩ (by decide) (by decide) rfl (by decide) ?_
    refine z_aload_n dX3_isSound_32 rfl rfl ?_
    refine tw_getO hW ga0 (by decide) (by decide) rfl kX3 fX3_19 dX3_isSound_33 (fun b4 pb4 gb4 => ?_)
    refine z_iload_n dX3_isSound_36 rfl rfl ?_
    have hX0 := kX6_isSolid 1 (Nat.le_refl _) hW gb4 gl1 
    refine z_callV (As := [_]) eX6_isSolid sX6_isSolid lX3_163 rfl dX3_isSound_37 (hW.ob gb4 (by decide)).choose_spec hX0 (Nat.le_trans (by decide) hd) rfl (Nat.le_of_ble_eq_true rfl) (fun r cs1 hp => ?_)
    obtain ⟨hcs, r6, rfl, gr6, n5_0⟩ := hp
    obtain rfl := hcs.symm
    refine z_st (st' := [.int (Int32.ofInt r6)]) rfl ?_
    refine i_if_ne (tgt := 55) dX3_isSound_40 (by decide) gr6 (fun h7 => ?_) (fun h7 => ?_)
    · refine z_iconst (v := Int32.ofInt 0) dX3_isSound_55 rfl ?_
      exact z_ireturn dX3_isSound_56 rfl (nar01 (b01 ⟨by decide, by decide⟩)) (hP _ _ _ hW hX (show rng 0 from ⟨by decide, by decide⟩) (by omega))
    · refine z_aload_n dX3_isSound_43 rfl rfl ?_
      refine z_iload_n dX3_isSound_44 rfl rfl ?_
      have hX0 := kX3_areAttributesSound 5 (Nat.le_refl _) hW ga0 gl1 (by omega) (by omega)
      refine z_callV (As := [_]) eX3_areAttributesSound sX3_areAttributesSound lX3_166 rfl dX3_isSound_45 (hW.ob ga0 (by decide)).choose_spec hX0 (Nat.le_trans (by decide) hd) rfl (Nat.le_of_ble_eq_true rfl) (fun r cs hp => ?_)
      obtain ⟨τ, r9, rfl, gr9, hW, k10, n8_0⟩ := hp
      have hX := hX.tr k10 (by decide)
      have ga0 := k10.1.e ga0 (by decide)
      clear hX0
      refine z_st (st' := [.int (Int32.ofInt r9)]) rfl ?_
      refine i_if_eq (tgt := 55) dX3_isSound_48 (by decide) gr9 (fun h11 => ?_) (fun h11 => ?_)
      · refine z_iconst (v := Int32.ofInt 0) dX3_isSound_55 rfl ?_
        exact z_ireturn dX3_isSound_56 rfl (nar01 (b01 ⟨by decide, by decide⟩)) (hP _ _ _ hW hX (show rng 0 from ⟨by decide, by decide⟩) (by omega))
      · refine z_iconst (v := Int32.ofInt 1) dX3_isSound_51 rfl ?_
        refine z_goto (tgt := 56) dX3_isSound_52 (by decide) ?_
        exact z_ireturn dX3_isSound_56 rfl (nar01 (b01 ⟨by decide, by decide⟩)) (hP _ _ _ hW hX (show rng 1 from ⟨by decide, by decide⟩) (by omega))
  · refine i_tableIn (c := 2) (off := 51) (tgt := 57) dX3_isSound_6 h3 ⟨by decide, by decide⟩ (by decide) (by decide) rfl (by decide) ?_
    refine z_aload_n dX3_isSound_57 rfl rfl ?_
    refine tw_getO hW ga0 (by decide) (by decide) rfl kX3 fX3_19 dX3_isSound_58 (fun b12 pb12 gb12 => ?_)
    refine z_iload_n dX3_isSound_61 rfl rfl ?_
    have hX0 := kX6_isSolid 1 (Nat.le_refl _) hW gb12 gl1 
    refine z_callV (As := [_]) eX6_isSolid sX6_isSolid lX3_163 rfl dX3_isSound_62 (hW.ob gb12 (by decide)).choose_spec hX0 (Nat.le_trans (by decide) hd) rfl (Nat.le_of_ble_eq_true rfl) (fun r cs1 hp => ?_)
    obtain ⟨hcs, r14, rfl, gr14, n13_0⟩ := hp
    obtain rfl := hcs.symm
    refine z_st (st' := [.int (Int32.ofInt r14)]) rfl ?_
    refine i_if_ne (tgt := 83) dX3_isSound_65 (by decide) gr14 (fun h15 => ?_) (fun h15 => ?_)
    · refine z_iconst (v := Int32.ofInt 0) dX3_isSound_83 rfl ?_
      exact z_ireturn dX3_isSound_84 rfl (nar01 (b01 ⟨by decide, by decide⟩)) (hP _ _ _ hW hX (show rng 0 from ⟨by decide, by decide⟩) (by omega))
    · refine z_aload_n dX3_isSound_68 rfl rfl ?_
      refine tw_getO hW ga0 (by decide) (by decide) rfl kX3 fX3_19 dX3_isSound_69 (fun b16 pb16 gb16 => ?_)
      refine z_iload_n dX3_isSound_72 rfl rfl ?_
      have hX0 := kX6_attributeCount 1 (Nat.le_refl _) hW gb16 gl1 
      refine z_callV (As := [_]) eX6_attributeCount sX6_attributeCount lX3_169 rfl dX3_isSound_73 (hW.ob gb16 (by decide)).choose_spec hX0 (Nat.le_trans (by decide) hd) rfl (Nat.le_of_ble_eq_true rfl) (fun r cs1 hp => ?_)
      obtain ⟨hcs, r18, rfl, gr18, ⟨n17_0, n17_1⟩⟩ := hp
      obtain rfl := hcs.symm
      refine z_st (st' := [.int (Int32.ofInt r18)]) rfl ?_
      refine i_if_ne (tgt := 83) dX3_isSound_76 (by decide) gr18 (fun h19 => ?_) (fun h19 => ?_)
      · refine z_iconst (v := Int32.ofInt 0) dX3_isSound_83 rfl ?_
        exact z_ireturn dX3_isSound_84 rfl (nar01 (b01 ⟨by decide, by decide⟩)) (hP _ _ _ hW hX (show rng 0 from ⟨by decide, by decide⟩) (by omega))
      · refine z_iconst (v := Int32.ofInt 1) dX3_isSound_79 rfl ?_
        refine z_goto (tgt := 84) dX3_isSound_80 (by decide) ?_
        exact z_ireturn dX3_isSound_84 rfl (nar01 (b01 ⟨by decide, by decide⟩)) (hP _ _ _ hW hX (show rng 1 from ⟨by decide, by decide⟩) (by omega))
  · refine i_tableIn (c := 3) (off := 79) (tgt := 85) dX3_isSound_6 h3 ⟨by decide, by decide⟩ (by decide) (by decide) rfl (by decide) ?_
    refine z_aload_n dX3_isSound_85 rfl rfl ?_
    refine tw_getO hW ga0 (by decide) (by decide) rfl kX3 fX3_19 dX3_isSound_86 (fun b20 pb20 gb20 => ?_)
    refine z_iload_n dX3_isSound_89 rfl rfl ?_
    have hX0 := kX6_attributeCount 1 (Nat.le_refl _) hW gb20 gl1 
    refine z_callV (As := [_]) eX6_attributeCount sX6_attributeCount lX3_169 rfl dX3_isSound_90 (hW.ob gb20 (by decide)).choose_spec hX0 (Nat.le_trans (by decide) hd) rfl (Nat.le_of_ble_eq_true rfl) (fun r cs1 hp => ?_)
    obtain ⟨hcs, r22, rfl, gr22, ⟨n21_0, n21_1⟩⟩ := hp
    obtain rfl := hcs.symm
    refine z_st (st' := [.int (Int32.ofInt r22)]) rfl ?_
    refine i_if_ne (tgt := 146) dX3_isSound_93 (by decide) gr22 (fun h23 => ?_) (fun h23 => ?_)
    · refine z_iconst (v := Int32.ofInt 0) dX3_isSound_146 rfl ?_
      exact z_ireturn dX3_isSound_147 rfl (nar01 (b01 ⟨by decide, by decide⟩)) (hP _ _ _ hW hX (show rng 0 from ⟨by decide, by decide⟩) (by omega))
    · refine z_aload_n dX3_isSound_96 rfl rfl ?_
      refine tw_getO hW ga0 (by decide) (by decide) rfl kX3 fX3_19 dX3_isSound_97 (fun b24 pb24 gb24 => ?_)
      refine z_iload_n dX3_isSound_100 rfl rfl ?_
      have hX0 := kX6_kidCount 1 (Nat.le_refl _) hW gb24 gl1 
      refine z_callV (As := [_]) eX6_kidCount sX6_kidCount lX3_172 rfl dX3_isSound_101 (hW.ob gb24 (by decide)).choose_spec hX0 (Nat.le_trans (by decide) hd) rfl (Nat.le_of_ble_eq_true rfl) (fun r cs1 hp => ?_)
      obtain ⟨hcs, r26, rfl, gr26, _⟩ := hp
      obtain rfl := hcs.symm
      refine z_st (st' := [.int (Int32.ofInt r26)]) rfl ?_
      refine i_if_ne (tgt := 146) dX3_isSound_104 (by decide) gr26 (fun h27 => ?_) (fun h27 => ?_)
      · refine z_iconst (v := Int32.ofInt 0) dX3_isSound_146 rfl ?_
        exact z_ireturn dX3_isSound_147 rfl (nar01 (b01 ⟨by decide, by decide⟩)) (hP _ _ _ hW hX (show rng 0 from ⟨by decide, by decide⟩) (by omega))
      · refine z_aload_n dX3_isSound_107 rfl rfl ?_
        refine z_aload_n dX3_isSound_108 rfl rfl ?_
        refine tw_getA hW ga0 (by decide) (by decide) rfl kX3 fX3_57 dX3_isSound_109 (fun b28 _ gb28 => ?_)
        refine z_iload_n dX3_isSound_112 rfl rfl ?_
        refine tw_iald hW gb28 (by omega) (by omega) dX3_isSound_113 (fun x29 _ vx29 gx29 => ?_)
        refine z_aload_n dX3_isSound_114 rfl rfl ?_
        refine tw_getA hW ga0 (by decide) (by decide) rfl kX3 fX3_60 dX3_isSound_115 (fun b30 _ gb30 => ?_)
        refine z_iload_n dX3_isSound_118 rfl rfl ?_
        refine tw_iald hW gb30 (by omega) (by omega) dX3_isSound_119 (fun x31 _ vx31 gx31 => ?_)
        refine z_aload_n dX3_isSound_120 rfl rfl ?_
        refine tw_getO hW ga0 (by decide) (by decide) rfl kX3 fX3_19 dX3_isSound_121 (fun b32 pb32 gb32 => ?_)
        refine z_iload_n dX3_isSound_124 rfl rfl ?_
        have hX0 := kX6_textFrom 1 (Nat.le_refl _) hW gb32 gl1 
        refine z_callV (As := [_]) eX6_textFrom sX6_textFrom lX3_175 rfl dX3_isSound_125 (hW.ob gb32 (by decide)).choose_spec hX0 (Nat.le_trans (by decide) hd) rfl (Nat.le_of_ble_eq_true rfl) (fun r cs1 hp => ?_)
        obtain ⟨hcs, r34, rfl, gr34, _⟩ := hp
        obtain rfl := hcs.symm
        refine z_st (st' := [.int (Int32.ofInt r34), .int (Int32.ofInt x31), .int (Int32.ofInt x29), .ref (G.1 + a0)]) rfl ?_
        refine z_aload_n dX3_isSound_128 rfl rfl ?_
        refine tw_getO hW ga0 (by decide) (by decide) rfl kX3 fX3_19 dX3_isSound_129 (fun b35 pb35 gb35 => ?_)
        refine z_iload_n dX3_isSound_132 rfl rfl ?_
        have hX0 := kX6_textTo 1 (Nat.le_refl _) hW gb35 gl1 
        refine z_callV (As := [_]) eX6_textTo sX6_textTo lX3_178 rfl dX3_isSound_133 (hW.ob gb35 (by decide)).choose_spec hX0 (Nat.le_trans (by decide) hd) rfl (Nat.le_of_ble_eq_true rfl) (fun r cs1 hp => ?_)
        obtain ⟨hcs, r37, rfl, gr37, _⟩ := hp
        obtain rfl := hcs.symm
        refine z_st (st' := [.int (Int32.ofInt r37), .int (Int32.ofInt r34), .int (Int32.ofInt x31), .int (Int32.ofInt x29), .ref (G.1 + a0)]) rfl ?_
        have hX0 := kX3_fills 3 (Nat.le_refl _) hW ga0 gx29 gx31 gr34 gr37 
        refine z_callV (As := [_, _, _, _]) eX3_fills sX3_fills lX3_181 rfl dX3_isSound_136 (hW.ob ga0 (by decide)).choose_spec hX0 (Nat.le_trans (by decide) hd) rfl (Nat.le_of_ble_eq_true rfl) (fun r cs hp => ?_)
        obtain ⟨τ, r39, rfl, gr39, hW, k40, n38_0⟩ := hp
        have hX := hX.tr k40 (by decide)
        have ga0 := k40.1.e ga0 (by decide)
        clear hX0
        refine z_st (st' := [.int (Int32.ofInt r39)]) rfl ?_
        refine i_if_eq (tgt := 146) dX3_isSound_139 (by decide) gr39 (fun h41 => ?_) (fun h41 => ?_)
        · refine z_iconst (v := Int32.ofInt 0) dX3_isSound_146 rfl ?_
          exact z_ireturn dX3_isSound_147 rfl (nar01 (b01 ⟨by decide, by decide⟩)) (hP _ _ _ hW hX (show rng 0 from ⟨by decide, by decide⟩) (by omega))
        · refine z_iconst (v := Int32.ofInt 1) dX3_isSound_142 rfl ?_
          refine z_goto (tgt := 147) dX3_isSound_143 (by decide) ?_
          exact z_ireturn dX3_isSound_147 rfl (nar01 (b01 ⟨by decide, by decide⟩)) (hP _ _ _ hW hX (show rng 1 from ⟨by decide, by decide⟩) (by omega))

set_option maxRecDepth 100000 in
set_option maxHeartbeats 4000000 in
theorem eX6_isSpelt_16 {G : xG} {d : Nat} {Post : xP} {B : Nat × Nat} {τ : Tau} {cs : List va_E} {a0 pa0 : Nat} {l1 : Int} {l2 : Int} {a3 : Nat} {l4 : Int} {l6 : Int} {n16 : Nat} (hd : 1 ≤ d) (hW : WT G B τ cs) (ga0 : τ a0 = some (.inl (6, pa0))) (gl1 : rng l1) (gl2 : rng l2) (ga3 : oT τ a3 5) (gl4 : rng l4) (gl6 : rng l6)   (hP : ∀ r : Int, rng r → ((iv 0 1 r)) → Post (some (.int (Int32.ofInt r))) cs)  (ih_16 : ∀ {a0 pa0 : Nat} {l1 : Int} {l2 : Int} {a3 : Nat} {l4 : Int} {l6 : Int} (hW : WT G B τ cs) (ga0 : τ a0 = some (.inl (6, pa0))) (gl1 : rng l1) (gl2 : rng l2) (ga3 : oT τ a3 5) (gl4 : rng l4) (gl6 : rng l6)  , (2147483647 - l6).toNat < n16 → Z (RX6, cX6_isSpelt, 7, some .boolean, false) G d Post 16 [(0, .ref (G.1 + a0)), (1, .int (Int32.ofInt l1)), (2, .int (Int32.ofInt l2)), (3, .ref (G.1 + a3)), (4, .int (Int32.ofInt l4)), (6, .int (Int32.ofInt l6))] [] cs) (hm_16 : (2147483647 - l6).toNat < n16 + 1) : Z (RX6, cX6_isSpelt, 7, some .boolean, false) G d Post 16 [(0, .ref (G.1 + a0)), (1, .int (Int32.ofInt l1)), (2, .int (Int32.ofInt l2)), (3, .ref (G.1 + a3)), (4, .int (Int32.ofInt l4)), (6, .int (Int32.ofInt l6))] [] cs := by
  refine z_iload dX6_isSpelt_16 rfl ?_
  refine z_iload_n dX6_isSpelt_18 rfl rfl ?_
  refine z_iload_n dX6_isSpelt_19 rfl rfl ?_
  refine tw_isub dX6_isSpelt_20 (fun z1 gz1 ez1 => ?_)
  first | have ez1 := ez1 ⟨by omega, by omega⟩ | clear ez1
  refine i_icmp_ge (tgt := 55) dX6_isSpelt_21 (by decide) gl6 gz1 (fun h2 => ?_) (fun h2 => ?_)
  · refine z_iconst (v := Int32.ofInt 1) dX6_isSpelt_55 rfl ?_
    exact z_ireturn dX6_isSpelt_56 rfl (nar01 (b01 ⟨by decide, by decide⟩)) (hP _ (show rng 1 from ⟨by decide, by decide⟩) (by omega))
  · refine z_aload_n dX6_isSpelt_24 rfl rfl ?_
    refine tw_getO hW ga0 (by decide) (by decide) rfl kX6 fX6_18 dX6_isSpelt_25 (fun b3 pb3 gb3 => ?_)
    have gb3 : oT τ b3 5 := ⟨_, gb3⟩
    refine z_iload_n dX6_isSpelt_28 rfl rfl ?_
    refine z_iload dX6_isSpelt_29 rfl ?_
    refine tw_iadd dX6_isSpelt_31 (fun z4 gz4 ez4 => ?_)
    first | have ez4 := ez4 ⟨by omega, by omega⟩ | clear ez4
    have hX0 := kX5_at 0 (Nat.le_refl _) hW gb3 gz4 
    refine z_callV (As := [_]) eX5_at sX5_at lX6_107 rfl dX6_isSpelt_32 (hW.os gb3).choose_spec hX0 (Nat.le_trans (by decide) hd) rfl (Nat.le_of_ble_eq_true rfl) (fun r cs1 hp => ?_)
    obtain ⟨hcs, r6, rfl, gr6, n5_0⟩ := hp
    obtain rfl := hcs.symm
    refine z_st (st' := [.int (Int32.ofInt r6)]) rfl ?_
    refine z_aload_n dX6_isSpelt_35 rfl rfl ?_
    refine z_iload dX6_isSpelt_36 rfl ?_
    refine z_iload dX6_isSpelt_38 rfl ?_
    refine tw_iadd dX6_isSpelt_40 (fun z7 gz7 ez7 => ?_)
    first | have ez7 := ez7 ⟨by omega, by omega⟩ | clear ez7
    have hX0 := kX5_at 0 (Nat.le_refl _) hW ga3 gz7 
    refine z_callV (As := [_]) eX5_at sX5_at lX6_107 rfl dX6_isSpelt_41 (hW.os ga3).choose_spec hX0 (Nat.le_trans (by decide) hd) rfl (Nat.le_of_ble_eq_true rfl) (fun r cs1 hp => ?_)
    obtain ⟨hcs, r9, rfl, gr9, n8_0⟩ := hp
    obtain rfl := hcs.symm
    refine z_st (st' := [.int (Int32.ofInt r9), .int (Int32.ofInt r6)]) rfl ?_
    refine i_icmp_eq (tgt := 49) dX6_isSpelt_44 (by decide) gr6 gr9 (fun h10 => ?_) (fun h10 => ?_)
    · refine tw_iinc (l := l6) dX6_isSpelt_49 rfl (by decide) (fun z11 gz11 ez11 => ?_)
      first | have ez11 := ez11 ⟨by omega, by omega⟩ | clear ez11
      refine z_loc (L' := [(0, .ref (G.1 + a0)), (1, .int (Int32.ofInt l1)), (2, .int (Int32.ofInt l2)), (3, .ref (G.1 + a3)), (4, .int (Int32.ofInt l4)), (6, .int (Int32.ofInt z11))]) (List.forall_mem_cons.mpr ⟨rfl, (List.forall_mem_cons.mpr ⟨rfl, (List.forall_mem_cons.mpr ⟨rfl, (List.forall_mem_cons.mpr ⟨rfl, (List.forall_mem_cons.mpr ⟨rfl, (List.forall_mem_cons.mpr ⟨rfl, (fun _ h => nomatch h)⟩)⟩)⟩)⟩)⟩)⟩) ?_
      refine z_goto (tgt := 16) dX6_isSpelt_52 (by decide) ?_
      refine z_loc (L' := [(0, .ref (G.1 + a0)), (1, .int (Int32.ofInt l1)), (2, .int (Int32.ofInt l2)), (3, .ref (G.1 + a3)), (4, .int (Int32.ofInt l4)), (6, .int (Int32.ofInt z11))]) (List.forall_mem_cons.mpr ⟨rfl, (List.forall_mem_cons.mpr ⟨rfl, (List.forall_mem_cons.mpr ⟨rfl, (List.forall_mem_cons.mpr ⟨rfl, (List.forall_mem_cons.mpr ⟨rfl, (List.forall_mem_cons.mpr ⟨rfl, (fun _ h => nomatch h)⟩)⟩)⟩)⟩)⟩)⟩) ?_
      exact ih_16 hW ga0 gl1 gl2 ga3 gl4 gz11   (by omega)
    · refine z_iconst (v := Int32.ofInt 0) dX6_isSpelt_47 rfl ?_
      exact z_ireturn dX6_isSpelt_48 rfl (nar01 (b01 ⟨by decide, by decide⟩)) (hP _ (show rng 0 from ⟨by decide, by decide⟩) (by omega))
set_option maxRecDepth 100000 in
set_option maxHeartbeats 4000000 in
theorem bX6_isSpelt_16 {G : xG} {d : Nat} {Post : xP} {B : Nat × Nat} {τ : Tau} {cs : List va_E} {a0 pa0 : Nat} {l1 : Int} {l2 : Int} {a3 : Nat} {l4 : Int} {l6 : Int} (hd : 1 ≤ d) (hW : WT G B τ cs) (ga0 : τ a0 = some (.inl (6, pa0))) (gl1 : rng l1) (gl2 : rng l2) (ga3 : oT τ a3 5) (gl4 : rng l4) (gl6 : rng l6)   (hP : ∀ r : Int, rng r → ((iv 0 1 r)) → Post (some (.int (Int32.ofInt r))) cs)  : Z (RX6, cX6_isSpelt, 7, some .boolean, false) G d Post 16 [(0, .ref (G.1 + a0)), (1, .int (Int32.ofInt l1)), (2, .int (Int32.ofInt l2)), (3, .ref (G.1 + a3)), (4, .int (Int32.ofInt l4)), (6, .int (Int32.ofInt l6))] [] cs := by
  have key : ∀ (n : Nat) (a0 pa0 : Nat) (l1 : Int) (l2 : Int) (a3 : Nat) (l4 : Int) (l6 : Int) (hW : WT G B τ cs) (ga0 : τ a0 = some (.inl (6, pa0))) (gl1 : rng l1) (gl2 : rng l2) (ga3 : oT τ a3 5) (gl4 : rng l4) (gl6 : rng l6)  , (2147483647 - l6).toNat < n → Z (RX6, cX6_isSpelt, 7, some .boolean, false) G d Post 16 [(0, .ref (G.1 + a0)), (1, .int (Int32.ofInt l1)), (2, .int (Int32.ofInt l2)), (3, .ref (G.1 + a3)), (4, .int (Int32.ofInt l4)), (6, .int (Int32.ofInt l6))] [] cs := by
    intro n
    induction n with
    | zero => intro a0 pa0 l1 l2 a3 l4 l6 hW ga0 gl1 gl2 ga3 gl4 gl6 hm; exact absurd hm (Nat.not_lt_zero _)
    | succ n ih =>
      intro a0 pa0 l1 l2 a3 l4 l6 hW ga0 gl1 gl2 ga3 gl4 gl6 hm
      exact eX6_isSpelt_16 hd hW ga0 gl1 gl2 ga3 gl4 gl6 hP  (fun hW ga0 gl1 gl2 ga3 gl4 gl6 hm => ih _ _ _ _ _ _ _ hW ga0 gl1 gl2 ga3 gl4 gl6 hm) hm
  exact key _ _ _ _ _ _ _ _ hW ga0 gl1 gl2 ga3 gl4 gl6 (Nat.lt_succ_self _)
set_option maxRecDepth 100000 in
set_option maxHeartbeats 4000000 in
theorem kX6_isSpelt {G : xG} {B : Nat × Nat} {τ : Tau} {cs : List va_E} {a0 pa0 : Nat} {l1 : Int} {l2 : Int} {a3 : Nat} {l4 : Int} {l5 : Int} (d : Nat) (hd : 1 ≤ d) (hW : WT G B τ cs) (ga0 : τ a0 = some (.inl (6, pa0))) (gl1 : rng l1) (gl2 : rng l2) (ga3 : oT τ a3 5) (gl4 : rng l4) (gl5 : rng l5)  : X G yX6_isSpelt cX6_isSpelt 7 (some .boolean) d [.ref (G.1 + a0), .int (Int32.ofInt l1), .int (Int32.ofInt l2), .ref (G.1 + a3), .int (Int32.ofInt l4), .int (Int32.ofInt l5)] cs (rI cs (fun r => (iv 0 1 r))) := by
  refine X.of false (by decide +kernel) (by decide) (Nat.le_of_ble_eq_true rfl) ?_
  show Z (RX6, cX6_isSpelt, 7, some .boolean, false) G d _ 0 [(0, .ref (G.1 + a0)), (1, .int (Int32.ofInt l1)), (2, .int (Int32.ofInt l2)), (3, .ref (G.1 + a3)), (4, .int (Int32.ofInt l4)), (5, .int (Int32.ofInt l5))] [] cs
  have hP : ∀ r : Int, rng r → ((iv 0 1 r)) → rI cs (fun r => (iv 0 1 r)) (some (.int (Int32.ofInt r))) cs := fun r h1 h2 => ⟨rfl, r, rfl, h1, h2⟩
  refine z_iload_n dX6_isSpelt_0 rfl rfl ?_
  refine z_iload_n dX6_isSpelt_1 rfl rfl ?_
  refine tw_isub dX6_isSpelt_2 (fun z1 gz1 ez1 => ?_)
  first | have ez1 := ez1 ⟨by omega, by omega⟩ | clear ez1
  refine z_iload dX6_isSpelt_3 rfl ?_
  refine z_iload dX6_isSpelt_5 rfl ?_
  refine tw_isub dX6_isSpelt_7 (fun z2 gz2 ez2 => ?_)
  first | have ez2 := ez2 ⟨by omega, by omega⟩ | clear ez2
  refine i_icmp_eq (tgt := 13) dX6_isSpelt_8 (by decide) gz1 gz2 (fun h3 => ?_) (fun h3 => ?_)
  · refine z_iconst (v := Int32.ofInt 0) dX6_isSpelt_13 rfl ?_
    refine z_istore dX6_isSpelt_14 (by decide) ?_
    refine z_loc (L' := [(0, .ref (G.1 + a0)), (1, .int (Int32.ofInt l1)), (2, .int (Int32.ofInt l2)), (3, .ref (G.1 + a3)), (4, .int (Int32.ofInt l4)), (5, .int (Int32.ofInt l5)), (6, .int (Int32.ofInt 0))]) (List.forall_mem_cons.mpr ⟨rfl, (List.forall_mem_cons.mpr ⟨rfl, (List.forall_mem_cons.mpr ⟨rfl, (List.forall_mem_cons.mpr ⟨rfl, (List.forall_mem_cons.mpr ⟨rfl, (List.forall_mem_cons.mpr ⟨rfl, (List.forall_mem_cons.mpr ⟨rfl, (fun _ h => nomatch h)⟩)⟩)⟩)⟩)⟩)⟩)⟩) ?_
    refine z_loc (L' := [(0, .ref (G.1 + a0)), (1, .int (Int32.ofInt l1)), (2, .int (Int32.ofInt l2)), (3, .ref (G.1 + a3)), (4, .int (Int32.ofInt l4)), (6, .int (Int32.ofInt 0))]) (List.forall_mem_cons.mpr ⟨rfl, (List.forall_mem_cons.mpr ⟨rfl, (List.forall_mem_cons.mpr ⟨rfl, (List.forall_mem_cons.mpr ⟨rfl, (List.forall_mem_cons.mpr ⟨rfl, (List.forall_mem_cons.mpr ⟨rfl, (fun _ h => nomatch h)⟩)⟩)⟩)⟩)⟩)⟩) ?_
    exact bX6_isSpelt_16 hd hW ga0 gl1 gl2 ga3 gl4 (show rng 0 from ⟨by decide, by decide⟩)   hP 
  · refine z_iconst (v := Int32.ofInt 0) dX6_isSpelt_11 rfl ?_
    exact z_ireturn dX6_isSpelt_12 rfl (nar01 (b01 ⟨by decide, by decide⟩)) (hP _ (show rng 0 from ⟨by decide, by decide⟩) (by omega))

set_option maxRecDepth 100000 in
set_option maxHeartbeats 4000000 in
theorem bX6_child_68 {G : xG} {d : Nat} {Post : xP} {B : Nat × Nat} {τ : Tau} {cs : List va_E} {a0 pa0 : Nat} {l1 : Int} {l2 : Int} {l3 : Int} {l4 : Int} {l5 : Int} {l6 : Int} {n8 : Nat} (hd : 2 ≤ d) (hW : WT G B τ cs) (ga0 : τ a0 = some (.inl (6, pa0))) (gl1 : rng l1) (gl2 : rng l2) (gl3 : rng l3) (gl4 : rng l4) (gl5 : rng l5) (gl6 : rng l6) (i0 : 1 ≤ 200 - l6) (i1 : 0 ≤ l6) (i2 : iv (-1) 1000 l1) (hm_8 : (200 - l6).toNat < n8 + 1) (hP : ∀ r : Int, rng r → ((iv (-1) 199 r)) → Post (some (.int (Int32.ofInt r))) cs) (ih_8 : ∀ {a0 pa0 : Nat} {l1 : Int} {l2 : Int} {l3 : Int} {l4 : Int} {l5 : Int} {l6 : Int} (hW : WT G B τ cs) (ga0 : τ a0 = some (.inl (6, pa0))) (gl1 : rng l1) (gl2 : rng l2) (gl3 : rng l3) (gl4 : rng l4) (gl5 : rng l5) (gl6 : rng l6) (i0 : 0 ≤ l6) (i1 : iv (-1) 1000 l1) , (200 - l6).toNat < n8 → Z (RX6, cX6_child, 7, some .int, false) G d Post 8 [(0, .ref (G.1 + a0)), (1, .int (Int32.ofInt l1)), (2, .int (Int32.ofInt l2)), (3, .int (Int32.ofInt l3)), (4, .int (Int32.ofInt l4)), (5, .int (Int32.ofInt l5)), (6, .int (Int32.ofInt l6))] [] cs) : Z (RX6, cX6_child, 7, some .int, false) G d Post 68 [(0, .ref (G.1 + a0)), (1, .int (Int32.ofInt l1)), (2, .int (Int32.ofInt l2)), (3, .int (Int32.ofInt l3)), (4, .int (Int32.ofInt l4)), (5, .int (Int32.ofInt l5)), (6, .int (Int32.ofInt l6))] [] cs := by
  refine tw_iinc (l := l6) dX6_child_68 rfl (by decide) (fun z1 gz1 ez1 => ?_)
  first | have ez1 := ez1 ⟨by omega, by omega⟩ | clear ez1
  refine z_loc (L' := [(0, .ref (G.1 + a0)), (1, .int (Int32.ofInt l1)), (2, .int (Int32.ofInt l2)), (3, .int (Int32.ofInt l3)), (4, .int (Int32.ofInt l4)), (5, .int (Int32.ofInt l5)), (6, .int (Int32.ofInt z1))]) (List.forall_mem_cons.mpr ⟨rfl, (List.forall_mem_cons.mpr ⟨rfl, (List.forall_mem_cons.mpr ⟨rfl, (List.forall_mem_cons.mpr ⟨rfl, (List.forall_mem_cons.mpr ⟨rfl, (List.forall_mem_cons.mpr ⟨rfl, (List.forall_mem_cons.mpr ⟨rfl, (fun _ h => nomatch h)⟩)⟩)⟩)⟩)⟩)⟩)⟩) ?_
  refine z_goto (tgt := 8) dX6_child_71 (by decide) ?_
  refine z_loc (L' := [(0, .ref (G.1 + a0)), (1, .int (Int32.ofInt l1)), (2, .int (Int32.ofInt l2)), (3, .int (Int32.ofInt l3)), (4, .int (Int32.ofInt l4)), (5, .int (Int32.ofInt l5)), (6, .int (Int32.ofInt z1))]) (List.forall_mem_cons.mpr ⟨rfl, (List.forall_mem_cons.mpr ⟨rfl, (List.forall_mem_cons.mpr ⟨rfl, (List.forall_mem_cons.mpr ⟨rfl, (List.forall_mem_cons.mpr ⟨rfl, (List.forall_mem_cons.mpr ⟨rfl, (List.forall_mem_cons.mpr ⟨rfl, (fun _ h => nomatch h)⟩)⟩)⟩)⟩)⟩)⟩)⟩) ?_
  exact ih_8 hW ga0 gl1 gl2 gl3 gl4 gl5 gz1 (by omega) (by omega)  (by omega)
set_option maxRecDepth 100000 in
set_option maxHeartbeats 4000000 in
theorem eX6_child_8 {G : xG} {d : Nat} {Post : xP} {B : Nat × Nat} {τ : Tau} {cs : List va_E} {a0 pa0 : Nat} {l1 : Int} {l2 : Int} {l3 : Int} {l4 : Int} {l5 : Int} {l6 : Int} {n8 : Nat} (hd : 2 ≤ d) (hW : WT G B τ cs) (ga0 : τ a0 = some (.inl (6, pa0))) (gl1 : rng l1) (gl2 : rng l2) (gl3 : rng l3) (gl4 : rng l4) (gl5 : rng l5) (gl6 : rng l6) (i0 : 0 ≤ l6) (i1 : iv (-1) 1000 l1)  (hP : ∀ r : Int, rng r → ((iv (-1) 199 r)) → Post (some (.int (Int32.ofInt r))) cs)  (ih_8 : ∀ {a0 pa0 : Nat} {l1 : Int} {l2 : Int} {l3 : Int} {l4 : Int} {l5 : Int} {l6 : Int} (hW : WT G B τ cs) (ga0 : τ a0 = some (.inl (6, pa0))) (gl1 : rng l1) (gl2 : rng l2) (gl3 : rng l3) (gl4 : rng l4) (gl5 : rng l5) (gl6 : rng l6) (i0 : 0 ≤ l6) (i1 : iv (-1) 1000 l1) , (200 - l6).toNat < n8 → Z (RX6, cX6_child, 7, some .int, false) G d Post 8 [(0, .ref (G.1 + a0)), (1, .int (Int32.ofInt l1)), (2, .int (Int32.ofInt l2)), (3, .int (Int32.ofInt l3)), (4, .int (Int32.ofInt l4)), (5, .int (Int32.ofInt l5)), (6, .int (Int32.ofInt l6))] [] cs) (hm_8 : (200 - l6).toNat < n8 + 1) : Z (RX6, cX6_child, 7, some .int, false) G d Post 8 [(0, .ref (G.1 + a0)), (1, .int (Int32.ofInt l1)), (2, .int (Int32.ofInt l2)), (3, .int (Int32.ofInt l3)), (4, .int (Int32.ofInt l4)), (5, .int (Int32.ofInt l5)), (6, .int (Int32.ofInt l6))] [] cs := by
  refine z_iload dX6_child_8 rfl ?_
  refine z_aload_n dX6_child_10 rfl rfl ?_
  refine tw_getI hW ga0 (by decide) (by decide) rfl kX6 fX6_65 dX6_child_11 (fun x1 _ vx1 gx1 => ?_)
  refine i_icmp_ge (tgt := 74) dX6_child_14 (by decide) gl6 gx1 (fun h2 => ?_) (fun h2 => ?_)
  · refine z_iconst (v := Int32.ofInt (-1)) dX6_child_74 rfl ?_
    exact z_ireturn dX6_child_75 rfl rfl (hP _ (show rng (-1) from ⟨by decide, by decide⟩) (by omega))
  · refine z_aload_n dX6_child_17 rfl rfl ?_
    refine tw_getA hW ga0 (by decide) (by decide) rfl kX6 fX6_31 dX6_child_18 (fun b3 _ gb3 => ?_)
    refine z_iload dX6_child_21 rfl ?_
    refine tw_iald hW gb3 (by omega) (by omega) dX6_child_23 (fun x4 _ vx4 gx4 => ?_)
    refine z_iload_n dX6_child_24 rfl rfl ?_
    refine i_icmp_ne (tgt := 68) dX6_child_25 (by decide) gx4 gl1 (fun h5 => ?_) (fun h5 => ?_)
    · refine z_loc (L' := [(0, .ref (G.1 + a0)), (1, .int (Int32.ofInt l1)), (2, .int (Int32.ofInt l2)), (3, .int (Int32.ofInt l3)), (4, .int (Int32.ofInt l4)), (5, .int (Int32.ofInt l5)), (6, .int (Int32.ofInt l6))]) (List.forall_mem_cons.mpr ⟨rfl, (List.forall_mem_cons.mpr ⟨rfl, (List.forall_mem_cons.mpr ⟨rfl, (List.forall_mem_cons.mpr ⟨rfl, (List.forall_mem_cons.mpr ⟨rfl, (List.forall_mem_cons.mpr ⟨rfl, (List.forall_mem_cons.mpr ⟨rfl, (fun _ h => nomatch h)⟩)⟩)⟩)⟩)⟩)⟩)⟩) ?_
      exact bX6_child_68 hd hW ga0 gl1 gl2 gl3 gl4 gl5 gl6 (by omega) (by omega) (by omega) (by omega) hP ih_8
    · refine z_aload_n dX6_child_28 rfl rfl ?_
      refine z_aload_n dX6_child_29 rfl rfl ?_
      refine tw_getA hW ga0 (by decide) (by decide) rfl kX6 fX6_25 dX6_child_30 (fun b6 _ gb6 => ?_)
      refine z_iload dX6_child_33 rfl ?_
      refine tw_iald hW gb6 (by omega) (by omega) dX6_child_35 (fun x7 _ vx7 gx7 => ?_)
      refine z_aload_n dX6_child_36 rfl rfl ?_
      refine tw_getA hW ga0 (by decide) (by decide) rfl kX6 fX6_28 dX6_child_37 (fun b8 _ gb8 => ?_)
      refine z_iload dX6_child_40 rfl ?_
      refine tw_iald hW gb8 (by omega) (by omega) dX6_child_42 (fun x9 _ vx9 gx9 => ?_)
      refine z_aload_n dX6_child_43 rfl rfl ?_
      refine tw_getO hW ga0 (by decide) (by decide) rfl kX6 fX6_12 dX6_child_44 (fun b10 pb10 gb10 => ?_)
      have gb10 : oT τ b10 5 := ⟨_, gb10⟩
      refine z_iload_n dX6_child_47 rfl rfl ?_
      refine z_iload_n dX6_child_48 rfl rfl ?_
      have hX0 := kX6_isSpelt 1 (Nat.le_refl _) hW ga0 gx7 gx9 gb10 gl2 gl3 
      refine z_callV (As := [_, _, _, _, _]) eX6_isSpelt sX6_isSpelt lX6_92 rfl dX6_child_49 (hW.ob ga0 (by decide)).choose_spec hX0 (Nat.le_trans (by decide) hd) rfl (Nat.le_of_ble_eq_true rfl) (fun r cs1 hp => ?_)
      obtain ⟨hcs, r12, rfl, gr12, n11_0⟩ := hp
      obtain rfl := hcs.symm
      refine z_st (st' := [.int (Int32.ofInt r12)]) rfl ?_
      refine i_if_eq (tgt := 68) dX6_child_52 (by decide) gr12 (fun h13 => ?_) (fun h13 => ?_)
      · refine z_loc (L' := [(0, .ref (G.1 + a0)), (1, .int (Int32.ofInt l1)), (2, .int (Int32.ofInt l2)), (3, .int (Int32.ofInt l3)), (4, .int (Int32.ofInt l4)), (5, .int (Int32.ofInt l5)), (6, .int (Int32.ofInt l6))]) (List.forall_mem_cons.mpr ⟨rfl, (List.forall_mem_cons.mpr ⟨rfl, (List.forall_mem_cons.mpr ⟨rfl, (List.forall_mem_cons.mpr ⟨rfl, (List.forall_mem_cons.mpr ⟨rfl, (List.forall_mem_cons.mpr ⟨rfl, (List.forall_mem_cons.mpr ⟨rfl, (fun _ h => nomatch h)⟩)⟩)⟩)⟩)⟩)⟩)⟩) ?_
        exact bX6_child_68 hd hW ga0 gl1 gl2 gl3 gl4 gl5 gl6 (by omega) (by omega) (by omega) (by omega) hP ih_8
      · refine tw_iinc (l := l5) dX6_child_55 rfl (by decide) (fun z14 gz14 ez14 => ?_)
        first | have ez14 := ez14 ⟨by omega, by omega⟩ | clear ez14
        refine z_loc (L' := [(0, .ref (G.1 + a0)), (1, .int (Int32.ofInt l1)), (2, .int (Int32.ofInt l2)), (3, .int (Int32.ofInt l3)), (4, .int (Int32.ofInt l4)), (5, .int (Int32.ofInt z14)), (6, .int (Int32.ofInt l6))]) (List.forall_mem_cons.mpr ⟨rfl, (List.forall_mem_cons.mpr ⟨rfl, (List.forall_mem_cons.mpr ⟨rfl, (List.forall_mem_cons.mpr ⟨rfl, (List.forall_mem_cons.mpr ⟨rfl, (List.forall_mem_cons.mpr ⟨rfl, (List.forall_mem_cons.mpr ⟨rfl, (fun _ h => nomatch h)⟩)⟩)⟩)⟩)⟩)⟩)⟩) ?_
        refine z_iload dX6_child_58 rfl ?_
        refine z_iload dX6_child_60 rfl ?_
        refine i_icmp_ne (tgt := 68) dX6_child_62 (by decide) gz14 gl4 (fun h15 => ?_) (fun h15 => ?_)
        · refine z_loc (L' := [(0, .ref (G.1 + a0)), (1, .int (Int32.ofInt l1)), (2, .int (Int32.ofInt l2)), (3, .int (Int32.ofInt l3)), (4, .int (Int32.ofInt l4)), (5, .int (Int32.ofInt z14)), (6, .int (Int32.ofInt l6))]) (List.forall_mem_cons.mpr ⟨rfl, (List.forall_mem_cons.mpr ⟨rfl, (List.forall_mem_cons.mpr ⟨rfl, (List.forall_mem_cons.mpr ⟨rfl, (List.forall_mem_cons.mpr ⟨rfl, (List.forall_mem_cons.mpr ⟨rfl, (List.forall_mem_cons.mpr ⟨rfl, (fun _ h => nomatch h)⟩)⟩)⟩)⟩)⟩)⟩)⟩) ?_
          exact bX6_child_68 hd hW ga0 gl1 gl2 gl3 gl4 gz14 gl6 (by omega) (by omega) (by omega) (by omega) hP ih_8
        · refine z_iload dX6_child_65 rfl ?_
          exact z_ireturn dX6_child_67 rfl rfl (hP _ gl6 (by omega))
set_option maxRecDepth 100000 in
set_option maxHeartbeats 4000000 in
theorem bX6_child_8 {G : xG} {d : Nat} {Post : xP} {B : Nat × Nat} {τ : Tau} {cs : List va_E} {a0 pa0 : Nat} {l1 : Int} {l2 : Int} {l3 : Int} {l4 : Int} {l5 : Int} {l6 : Int} (hd : 2 ≤ d) (hW : WT G B τ cs) (ga0 : τ a0 = some (.inl (6, pa0))) (gl1 : rng l1) (gl2 : rng l2) (gl3 : rng l3) (gl4 : rng l4) (gl5 : rng l5) (gl6 : rng l6) (i0 : 0 ≤ l6) (i1 : iv (-1) 1000 l1)  (hP : ∀ r : Int, rng r → ((iv (-1) 199 r)) → Post (some (.int (Int32.ofInt r))) cs)  : Z (RX6, cX6_child, 7, some .int, false) G d Post 8 [(0, .ref (G.1 + a0)), (1, .int (Int32.ofInt l1)), (2, .int (Int32.ofInt l2)), (3, .int (Int32.ofInt l3)), (4, .int (Int32.ofInt l4)), (5, .int (Int32.ofInt l5)), (6, .int (Int32.ofInt l6))] [] cs := by
  have key : ∀ (n : Nat) (a0 pa0 : Nat) (l1 : Int) (l2 : Int) (l3 : Int) (l4 : Int) (l5 : Int) (l6 : Int) (hW : WT G B τ cs) (ga0 : τ a0 = some (.inl (6, pa0))) (gl1 : rng l1) (gl2 : rng l2) (gl3 : rng l3) (gl4 : rng l4) (gl5 : rng l5) (gl6 : rng l6) (i0 : 0 ≤ l6) (i1 : iv (-1) 1000 l1) , (200 - l6).toNat < n → Z (RX6, cX6_child, 7, some .int, false) G d Post 8 [(0, .ref (G.1 + a0)), (1, .int (Int32.ofInt l1)), (2, .int (Int32.ofInt l2)), (3, .int (Int32.ofInt l3)), (4, .int (Int32.ofInt l4)), (5, .int (Int32.ofInt l5)), (6, .int (Int32.ofInt l6))] [] cs := by
    intro n
    induction n with
    | zero => intro a0 pa0 l1 l2 l3 l4 l5 l6 hW ga0 gl1 gl2 gl3 gl4 gl5 gl6 i0 i1 hm; exact absurd hm (Nat.not_lt_zero _)
    | succ n ih =>
      intro a0 pa0 l1 l2 l3 l4 l5 l6 hW ga0 gl1 gl2 gl3 gl4 gl5 gl6 i0 i1 hm
      exact eX6_child_8 hd hW ga0 gl1 gl2 gl3 gl4 gl5 gl6 i0 i1 hP  (fun hW ga0 gl1 gl2 gl3 gl4 gl5 gl6 i0 i1 hm => ih _ _ _ _ _ _ _ _ hW ga0 gl1 gl2 gl3 gl4 gl5 gl6 i0 i1 hm) hm
  exact key _ _ _ _ _ _ _ _ _ hW ga0 gl1 gl2 gl3 gl4 gl5 gl6 i0 i1 (Nat.lt_succ_self _)
set_option maxRecDepth 100000 in
set_option maxHeartbeats 4000000 in
theorem kX6_child {G : xG} {B : Nat × Nat} {τ : Tau} {cs : List va_E} {a0 pa0 : Nat} {l1 : Int} {l2 : Int} {l3 : Int} {l4 : Int} (d : Nat) (hd : 2 ≤ d) (hW : WT G B τ cs) (ga0 : τ a0 = some (.inl (6, pa0))) (gl1 : rng l1) (gl2 : rng l2) (gl3 : rng l3) (gl4 : rng l4) (p0 : iv (-1) 1000 l1) : X G yX6_child cX6_child 7 (some .int) d [.ref (G.1 + a0), .int (Int32.ofInt l1), .int (Int32.ofInt l2), .int (Int32.ofInt l3), .int (Int32.ofInt l4)] cs (rI cs (fun r => (iv (-1) 199 r))) := by
  refine X.of false (by decide +kernel) (by decide) (Nat.le_of_ble_eq_true rfl) ?_
  show Z (RX6, cX6_child, 7, some .int, false) G d _ 0 [(0, .ref (G.1 + a0)), (1, .int (Int32.ofInt l1)), (2, .int (Int32.ofInt l2)), (3, .int (Int32.ofInt l3)), (4, .int (Int32.ofInt l4))] [] cs
  have hP : ∀ r : Int, rng r → ((iv (-1) 199 r)) → rI cs (fun r => (iv (-1) 199 r)) (some (.int (Int32.ofInt r))) cs := fun r h1 h2 => ⟨rfl, r, rfl, h1, h2⟩
  refine z_iconst (v := Int32.ofInt 0) dX6_child_0 rfl ?_
  refine z_istore dX6_child_1 (by decide) ?_
  refine z_loc (L' := [(0, .ref (G.1 + a0)), (1, .int (Int32.ofInt l1)), (2, .int (Int32.ofInt l2)), (3, .int (Int32.ofInt l3)), (4, .int (Int32.ofInt l4)), (5, .int (Int32.ofInt 0))]) (List.forall_mem_cons.mpr ⟨rfl, (List.forall_mem_cons.mpr ⟨rfl, (List.forall_mem_cons.mpr ⟨rfl, (List.forall_mem_cons.mpr ⟨rfl, (List.forall_mem_cons.mpr ⟨rfl, (List.forall_mem_cons.mpr ⟨rfl, (fun _ h => nomatch h)⟩)⟩)⟩)⟩)⟩)⟩) ?_
  refine z_iload_n dX6_child_3 rfl rfl ?_
  refine z_iconst (v := Int32.ofInt 1) dX6_child_4 rfl ?_
  refine tw_iadd dX6_child_5 (fun z1 gz1 ez1 => ?_)
  first | have ez1 := ez1 ⟨by omega, by omega⟩ | clear ez1
  refine z_istore dX6_child_6 (by decide) ?_
  refine z_loc (L' := [(0, .ref (G.1 + a0)), (1, .int (Int32.ofInt l1)), (2, .int (Int32.ofInt l2)), (3, .int (Int32.ofInt l3)), (4, .int (Int32.ofInt l4)), (5, .int (Int32.ofInt 0)), (6, .int (Int32.ofInt z1))]) (List.forall_mem_cons.mpr ⟨rfl, (List.forall_mem_cons.mpr ⟨rfl, (List.forall_mem_cons.mpr ⟨rfl, (List.forall_mem_cons.mpr ⟨rfl, (List.forall_mem_cons.mpr ⟨rfl, (List.forall_mem_cons.mpr ⟨rfl, (List.forall_mem_cons.mpr ⟨rfl, (fun _ h => nomatch h)⟩)⟩)⟩)⟩)⟩)⟩)⟩) ?_
  refine z_loc (L' := [(0, .ref (G.1 + a0)), (1, .int (Int32.ofInt l1)), (2, .int (Int32.ofInt l2)), (3, .int (Int32.ofInt l3)), (4, .int (Int32.ofInt l4)), (5, .int (Int32.ofInt 0)), (6, .int (Int32.ofInt z1))]) (List.forall_mem_cons.mpr ⟨rfl, (List.forall_mem_cons.mpr ⟨rfl, (List.forall_mem_cons.mpr ⟨rfl, (List.forall_mem_cons.mpr ⟨rfl, (List.forall_mem_cons.mpr ⟨rfl, (List.forall_mem_cons.mpr ⟨rfl, (List.forall_mem_cons.mpr ⟨rfl, (fun _ h => nomatch h)⟩)⟩)⟩)⟩)⟩)⟩)⟩) ?_
  exact bX6_child_8 hd hW ga0 gl1 gl2 gl3 gl4 (show rng 0 from ⟨by decide, by decide⟩) gz1 (by omega) (by omega)  hP 

