set_option maxRecDepth 100000 in
set_option maxHeartbeats 4000000 in
theorem bX9_decoded_59 {G : xG} {d : Nat} {Post : xP} {B : Nat × Nat} {τ0 τ : Tau} {c0 cs : List va_E} {a0 pa0 : Nat} {s0 : Int} (hd : 6 ≤ d) (hW : WT G B τ cs) (hX : Fx [9] τ0 c0 τ cs) (ga0 : τ a0 = some (.inl (9, pa0))) (gs0 : rng s0)   (hP : ∀ (τ1 : Tau) (c1 : List va_E) (r : Int), WT G B τ1 c1 → Fx [9] τ0 c0 τ1 c1 → rng r → (True) → Post (some (.int (Int32.ofInt r))) c1)  : Z (RX9, cX9_decoded, 3, some .int, false) G d Post 59 [(0, .ref (G.1 + a0))] [.int (Int32.ofInt s0)] cs := by
  refine z_istore_n dX9_decoded_59 rfl (by decide) ?_
  refine z_loc (L' := [(0, .ref (G.1 + a0)), (2, .int (Int32.ofInt s0))]) (List.forall_mem_cons.mpr ⟨rfl, (List.forall_mem_cons.mpr ⟨rfl, (fun _ h => nomatch h)⟩)⟩) ?_
  refine z_iload_n dX9_decoded_60 rfl rfl ?_
  refine z_iconst (v := Int32.ofInt (-1)) dX9_decoded_61 rfl ?_
  refine i_icmp_ne (tgt := 73) dX9_decoded_62 (by decide) gs0 (show rng (-1) from ⟨by decide, by decide⟩) (fun h1 => ?_) (fun h1 => ?_)
  · refine z_iload_n dX9_decoded_73 rfl rfl ?_
    exact z_ireturn dX9_decoded_74 rfl rfl (hP _ _ _ hW hX gs0 trivial)
  · refine z_aload_n dX9_decoded_65 rfl rfl ?_
    refine z_aload_n dX9_decoded_66 rfl rfl ?_
    refine tw_getI hW ga0 (by decide) (by decide) rfl kX9 fX9_9 dX9_decoded_67 (fun x2 _ vx2 gx2 => ?_)
    refine tw_putI hW hX ga0 (by decide) (by decide) rfl kX9 fX9_21 dX9_decoded_70 rfl rfl rfl (any_ok _) (by decide) (fun c1 q _ _ => nT hW ga0 (by decide) c1 q) (fun cs hW hX _ _ _ => ?_)
    refine z_iload_n dX9_decoded_73 rfl rfl ?_
    exact z_ireturn dX9_decoded_74 rfl rfl (hP _ _ _ hW hX gs0 trivial)
set_option maxRecDepth 100000 in
set_option maxHeartbeats 4000000 in
theorem kX9_decoded {G : xG} {B : Nat × Nat} {τ : Tau} {cs : List va_E} {a0 pa0 : Nat} (d : Nat) (hd : 6 ≤ d) (hW : WT G B τ cs) (ga0 : τ a0 = some (.inl (9, pa0)))  : X G yX9_decoded cX9_decoded 3 (some .int) d [.ref (G.1 + a0)] cs (wI G B τ cs [9] (fun r => True)) := by
  refine X.of false (by decide +kernel) (by decide) (Nat.le_of_ble_eq_true rfl) ?_
  show Z (RX9, cX9_decoded, 3, some .int, false) G d _ 0 [(0, .ref (G.1 + a0))] [] cs
  have hP : ∀ (τ1 : Tau) (c1 : List va_E) (r : Int), WT G B τ1 c1 → Fx [9] τ cs τ1 c1 → rng r → (True) → wI G B τ cs [9] (fun r => True) (some (.int (Int32.ofInt r))) c1 := fun τ1 c1 r h1 h2 h3 h4 => ⟨τ1, r, rfl, h3, h1, h2, h4⟩
  have hX : Fx [9] τ cs τ cs := Fx.rf
  skip
  refine z_aload_n dX9_decoded_0 rfl rfl ?_
  refine tw_getO hW ga0 (by decide) (by decide) rfl kX9 fX9_24 dX9_decoded_1 (fun b1 pb1 gb1 => ?_)
  have gb1 : oT τ b1 5 := ⟨_, gb1⟩
  refine z_aload_n dX9_decoded_4 rfl rfl ?_
  refine tw_getI hW ga0 (by decide) (by decide) rfl kX9 fX9_9 dX9_decoded_5 (fun x2 _ vx2 gx2 => ?_)
  have hX0 := kX5_at 0 (Nat.le_refl _) hW gb1 gx2 
  refine z_callV (As := [_]) eX5_at sX5_at lX9_47 rfl dX9_decoded_8 (hW.os gb1).choose_spec hX0 (Nat.le_trans (by decide) hd) rfl (Nat.le_of_ble_eq_true rfl) (fun r cs1 hp => ?_)
  obtain ⟨hcs, r4, rfl, gr4, n3_0⟩ := hp
  obtain rfl := hcs.symm
  refine z_st (st' := [.int (Int32.ofInt r4)]) rfl ?_
  refine z_istore_n dX9_decoded_11 rfl (by decide) ?_
  refine z_loc (L' := [(0, .ref (G.1 + a0)), (1, .int (Int32.ofInt r4))]) (List.forall_mem_cons.mpr ⟨rfl, (List.forall_mem_cons.mpr ⟨rfl, (fun _ h => nomatch h)⟩)⟩) ?_
  refine z_iload_n dX9_decoded_12 rfl rfl ?_
  refine z_bipush (v := Int32.ofInt 38) dX9_decoded_13 (by decide) ?_
  refine i_icmp_eq (tgt := 30) dX9_decoded_15 (by decide) gr4 (show rng 38 from ⟨by decide, by decide⟩) (fun h5 => ?_) (fun h5 => ?_)
  · refine z_aload_n dX9_decoded_30 rfl rfl ?_
    refine tw_getO hW ga0 (by decide) (by decide) rfl kX9 fX9_24 dX9_decoded_31 (fun b6 pb6 gb6 => ?_)
    have gb6 : oT τ b6 5 := ⟨_, gb6⟩
    refine z_aload_n dX9_decoded_34 rfl rfl ?_
    refine tw_getI hW ga0 (by decide) (by decide) rfl kX9 fX9_9 dX9_decoded_35 (fun x7 _ vx7 gx7 => ?_)
    refine z_iconst (v := Int32.ofInt 1) dX9_decoded_38 rfl ?_
    refine tw_iadd dX9_decoded_39 (fun z8 gz8 ez8 => ?_)
    first | have ez8 := ez8 ⟨by omega, by omega⟩ | clear ez8
    have hX0 := kX5_at 0 (Nat.le_refl _) hW gb6 gz8 
    refine z_callV (As := [_]) eX5_at sX5_at lX9_47 rfl dX9_decoded_40 (hW.os gb6).choose_spec hX0 (Nat.le_trans (by decide) hd) rfl (Nat.le_of_ble_eq_true rfl) (fun r cs1 hp => ?_)
    obtain ⟨hcs, r10, rfl, gr10, n9_0⟩ := hp
    obtain rfl := hcs.symm
    refine z_st (st' := [.int (Int32.ofInt r10)]) rfl ?_
    refine z_bipush (v := Int32.ofInt 35) dX9_decoded_43 (by decide) ?_
    refine i_icmp_ne (tgt := 55) dX9_decoded_45 (by decide) gr10 (show rng 35 from ⟨by decide, by decide⟩) (fun h11 => ?_) (fun h11 => ?_)
    · refine z_aload_n dX9_decoded_55 rfl rfl ?_
      have hX0 := kX9_named 5 (Nat.le_refl _) hW ga0 
      refine z_callV (As := []) eX9_named sX9_named lX9_142 rfl dX9_decoded_56 (hW.ob ga0 (by decide)).choose_spec hX0 (Nat.le_trans (by decide) hd) rfl (Nat.le_of_ble_eq_true rfl) (fun r cs hp => ?_)
      obtain ⟨τ, r13, rfl, gr13, hW, k14, _⟩ := hp
      have hX := hX.tr k14 (by decide)
      have ga0 := k14.1.e ga0 (by decide)
      clear hX0
      refine z_st (st' := [.int (Int32.ofInt r13)]) rfl ?_
      refine z_loc (L' := [(0, .ref (G.1 + a0))]) (List.forall_mem_cons.mpr ⟨rfl, (fun _ h => nomatch h)⟩) ?_
      exact bX9_decoded_59 hd hW hX ga0 gr13   hP 
    · refine z_aload_n dX9_decoded_48 rfl rfl ?_
      have hX0 := kX9_numbered 1 (Nat.le_refl _) hW ga0 
      refine z_callV (As := []) eX9_numbered sX9_numbered lX9_139 rfl dX9_decoded_49 (hW.ob ga0 (by decide)).choose_spec hX0 (Nat.le_trans (by decide) hd) rfl (Nat.le_of_ble_eq_true rfl) (fun r cs hp => ?_)
      obtain ⟨τ, r16, rfl, gr16, hW, k17, _⟩ := hp
      have hX := hX.tr k17 (by decide)
      have ga0 := k17.1.e ga0 (by decide)
      clear hX0
      refine z_st (st' := [.int (Int32.ofInt r16)]) rfl ?_
      refine z_goto (tgt := 59) dX9_decoded_52 (by decide) ?_
      refine z_loc (L' := [(0, .ref (G.1 + a0))]) (List.forall_mem_cons.mpr ⟨rfl, (fun _ h => nomatch h)⟩) ?_
      exact bX9_decoded_59 hd hW hX ga0 gr16   hP 
  · refine z_aload_n dX9_decoded_18 rfl rfl ?_
    refine z_dup dX9_decoded_19 rfl ?_
    refine tw_getI hW ga0 (by decide) (by decide) rfl kX9 fX9_9 dX9_decoded_20 (fun x18 _ vx18 gx18 => ?_)
    refine z_iconst (v := Int32.ofInt 1) dX9_decoded_23 rfl ?_
    refine tw_iadd dX9_decoded_24 (fun z19 gz19 ez19 => ?_)
    first | have ez19 := ez19 ⟨by omega, by omega⟩ | clear ez19
    refine tw_putI hW hX ga0 (by decide) (by decide) rfl kX9 fX9_9 dX9_decoded_25 rfl rfl rfl (any_ok _) (by decide) (fun c1 q _ _ => nT hW ga0 (by decide) c1 q) (fun cs hW hX _ _ _ => ?_)
    refine z_iload_n dX9_decoded_28 rfl rfl ?_
    exact z_ireturn dX9_decoded_29 rfl rfl (hP _ _ _ hW hX gr4 trivial)

set_option maxRecDepth 100000 in
set_option maxHeartbeats 4000000 in
theorem kX9_endsValue {G : xG} {B : Nat × Nat} {τ : Tau} {cs : List va_E} {a0 pa0 : Nat} {l1 : Int} (d : Nat) (hd : 1 ≤ d) (hW : WT G B τ cs) (ga0 : τ a0 = some (.inl (9, pa0))) (gl1 : rng l1)  : X G yX9_endsValue cX9_endsValue 3 (some .boolean) d [.ref (G.1 + a0), .int (Int32.ofInt l1)] cs (rI cs (fun r => (iv 0 1 r))) := by
  refine X.of false (by decide +kernel) (by decide) (Nat.le_of_ble_eq_true rfl) ?_
  show Z (RX9, cX9_endsValue, 3, some .boolean, false) G d _ 0 [(0, .ref (G.1 + a0)), (1, .int (Int32.ofInt l1))] [] cs
  have hP : ∀ r : Int, rng r → ((iv 0 1 r)) → rI cs (fun r => (iv 0 1 r)) (some (.int (Int32.ofInt r))) cs := fun r h1 h2 => ⟨rfl, r, rfl, h1, h2⟩
  refine z_aload_n dX9_endsValue_0 rfl rfl ?_
  refine tw_getO hW ga0 (by decide) (by decide) rfl kX9 fX9_24 dX9_endsValue_1 (fun b1 pb1 gb1 => ?_)
  have gb1 : oT τ b1 5 := ⟨_, gb1⟩
  refine z_aload_n dX9_endsValue_4 rfl rfl ?_
  refine tw_getI hW ga0 (by decide) (by decide) rfl kX9 fX9_9 dX9_endsValue_5 (fun x2 _ vx2 gx2 => ?_)
  have hX0 := kX5_at 0 (Nat.le_refl _) hW gb1 gx2 
  refine z_callV (As := [_]) eX5_at sX5_at lX9_47 rfl dX9_endsValue_8 (hW.os gb1).choose_spec hX0 (Nat.le_trans (by decide) hd) rfl (Nat.le_of_ble_eq_true rfl) (fun r cs1 hp => ?_)
  obtain ⟨hcs, r4, rfl, gr4, n3_0⟩ := hp
  obtain rfl := hcs.symm
  refine z_st (st' := [.int (Int32.ofInt r4)]) rfl ?_
  refine z_istore_n dX9_endsValue_11 rfl (by decide) ?_
  refine z_loc (L' := [(0, .ref (G.1 + a0)), (1, .int (Int32.ofInt l1)), (2, .int (Int32.ofInt r4))]) (List.forall_mem_cons.mpr ⟨rfl, (List.forall_mem_cons.mpr ⟨rfl, (List.forall_mem_cons.mpr ⟨rfl, (fun _ h => nomatch h)⟩)⟩)⟩) ?_
  refine z_iload_n dX9_endsValue_12 rfl rfl ?_
  refine z_iload_n dX9_endsValue_13 rfl rfl ?_
  refine i_icmp_eq (tgt := 28) dX9_endsValue_14 (by decide) gr4 gl1 (fun h5 => ?_) (fun h5 => ?_)
  · refine z_iconst (v := Int32.ofInt 1) dX9_endsValue_28 rfl ?_
    refine z_goto (tgt := 33) dX9_endsValue_29 (by decide) ?_
    exact z_ireturn dX9_endsValue_33 rfl (nar01 (b01 ⟨by decide, by decide⟩)) (hP _ (show rng 1 from ⟨by decide, by decide⟩) (by omega))
  · refine z_iload_n dX9_endsValue_17 rfl rfl ?_
    refine z_bipush (v := Int32.ofInt 60) dX9_endsValue_18 (by decide) ?_
    refine i_icmp_eq (tgt := 28) dX9_endsValue_20 (by decide) gr4 (show rng 60 from ⟨by decide, by decide⟩) (fun h6 => ?_) (fun h6 => ?_)
    · refine z_iconst (v := Int32.ofInt 1) dX9_endsValue_28 rfl ?_
      refine z_goto (tgt := 33) dX9_endsValue_29 (by decide) ?_
      exact z_ireturn dX9_endsValue_33 rfl (nar01 (b01 ⟨by decide, by decide⟩)) (hP _ (show rng 1 from ⟨by decide, by decide⟩) (by omega))
    · refine z_iload_n dX9_endsValue_23 rfl rfl ?_
      refine z_iconst (v := Int32.ofInt (-1)) dX9_endsValue_24 rfl ?_
      refine i_icmp_ne (tgt := 32) dX9_endsValue_25 (by decide) gr4 (show rng (-1) from ⟨by decide, by decide⟩) (fun h7 => ?_) (fun h7 => ?_)
      · refine z_iconst (v := Int32.ofInt 0) dX9_endsValue_32 rfl ?_
        exact z_ireturn dX9_endsValue_33 rfl (nar01 (b01 ⟨by decide, by decide⟩)) (hP _ (show rng 0 from ⟨by decide, by decide⟩) (by omega))
      · refine z_iconst (v := Int32.ofInt 1) dX9_endsValue_28 rfl ?_
        refine z_goto (tgt := 33) dX9_endsValue_29 (by decide) ?_
        exact z_ireturn dX9_endsValue_33 rfl (nar01 (b01 ⟨by decide, by decide⟩)) (hP _ (show rng 1 from ⟨by decide, by decide⟩) (by omega))

set_option maxRecDepth 100000 in
set_option maxHeartbeats 4000000 in
theorem kX9_skipsToValue {G : xG} {B : Nat × Nat} {τ : Tau} {cs : List va_E} {a0 pa0 : Nat} (d : Nat) (hd : 1 ≤ d) (hW : WT G B τ cs) (ga0 : τ a0 = some (.inl (9, pa0)))  : X G yX9_skipsToValue cX9_skipsToValue 1 (some .boolean) d [.ref (G.1 + a0)] cs (wI G B τ cs [9] (fun r => (iv 0 1 r))) := by
  refine X.of false (by decide +kernel) (by decide) (Nat.le_of_ble_eq_true rfl) ?_
  show Z (RX9, cX9_skipsToValue, 1, some .boolean, false) G d _ 0 [(0, .ref (G.1 + a0))] [] cs
  have hP : ∀ (τ1 : Tau) (c1 : List va_E) (r : Int), WT G B τ1 c1 → Fx [9] τ cs τ1 c1 → rng r → ((iv 0 1 r)) → wI G B τ cs [9] (fun r => (iv 0 1 r)) (some (.int (Int32.ofInt r))) c1 := fun τ1 c1 r h1 h2 h3 h4 => ⟨τ1, r, rfl, h3, h1, h2, h4⟩
  have hX : Fx [9] τ cs τ cs := Fx.rf
  skip
  refine z_aload_n dX9_skipsToValue_0 rfl rfl ?_
  refine tw_getO hW ga0 (by decide) (by decide) rfl kX9 fX9_24 dX9_skipsToValue_1 (fun b1 pb1 gb1 => ?_)
  have gb1 : oT τ b1 5 := ⟨_, gb1⟩
  refine z_aload_n dX9_skipsToValue_4 rfl rfl ?_
  refine tw_getI hW ga0 (by decide) (by decide) rfl kX9 fX9_9 dX9_skipsToValue_5 (fun x2 _ vx2 gx2 => ?_)
  have hX0 := kX5_at 0 (Nat.le_refl _) hW gb1 gx2 
  refine z_callV (As := [_]) eX5_at sX5_at lX9_47 rfl dX9_skipsToValue_8 (hW.os gb1).choose_spec hX0 (Nat.le_trans (by decide) hd) rfl (Nat.le_of_ble_eq_true rfl) (fun r cs1 hp => ?_)
  obtain ⟨hcs, r4, rfl, gr4, n3_0⟩ := hp
  obtain rfl := hcs.symm
  refine z_st (st' := [.int (Int32.ofInt r4)]) rfl ?_
  refine z_bipush (v := Int32.ofInt 61) dX9_skipsToValue_11 (by decide) ?_
  refine i_icmp_eq (tgt := 18) dX9_skipsToValue_13 (by decide) gr4 (show rng 61 from ⟨by decide, by decide⟩) (fun h5 => ?_) (fun h5 => ?_)
  · refine z_aload_n dX9_skipsToValue_18 rfl rfl ?_
    refine z_dup dX9_skipsToValue_19 rfl ?_
    refine tw_getI hW ga0 (by decide) (by decide) rfl kX9 fX9_9 dX9_skipsToValue_20 (fun x6 _ vx6 gx6 => ?_)
    refine z_iconst (v := Int32.ofInt 1) dX9_skipsToValue_23 rfl ?_
    refine tw_iadd dX9_skipsToValue_24 (fun z7 gz7 ez7 => ?_)
    first | have ez7 := ez7 ⟨by omega, by omega⟩ | clear ez7
    refine tw_putI hW hX ga0 (by decide) (by decide) rfl kX9 fX9_9 dX9_skipsToValue_25 rfl rfl rfl (any_ok _) (by decide) (fun c1 q _ _ => nT hW ga0 (by decide) c1 q) (fun cs hW hX _ _ _ => ?_)
    refine z_aload_n dX9_skipsToValue_28 rfl rfl ?_
    refine tw_getO hW ga0 (by decide) (by decide) rfl kX9 fX9_24 dX9_skipsToValue_29 (fun b9 pb9 gb9 => ?_)
    have gb9 : oT τ b9 5 := ⟨_, gb9⟩
    refine z_aload_n dX9_skipsToValue_32 rfl rfl ?_
    refine tw_getI hW ga0 (by decide) (by decide) rfl kX9 fX9_9 dX9_skipsToValue_33 (fun x10 _ vx10 gx10 => ?_)
    have hX0 := kX5_at 0 (Nat.le_refl _) hW gb9 gx10 
    refine z_callV (As := [_]) eX5_at sX5_at lX9_47 rfl dX9_skipsToValue_36 (hW.os gb9).choose_spec hX0 (Nat.le_trans (by decide) hd) rfl (Nat.le_of_ble_eq_true rfl) (fun r cs1 hp => ?_)
    obtain ⟨hcs, r12, rfl, gr12, n11_0⟩ := hp
    obtain rfl := hcs.symm
    refine z_st (st' := [.int (Int32.ofInt r12)]) rfl ?_
    refine z_bipush (v := Int32.ofInt 34) dX9_skipsToValue_39 (by decide) ?_
    refine i_icmp_eq (tgt := 62) dX9_skipsToValue_41 (by decide) gr12 (show rng 34 from ⟨by decide, by decide⟩) (fun h13 => ?_) (fun h13 => ?_)
    · refine z_aload_n dX9_skipsToValue_62 rfl rfl ?_
      refine z_dup dX9_skipsToValue_63 rfl ?_
      refine tw_getI hW ga0 (by decide) (by decide) rfl kX9 fX9_9 dX9_skipsToValue_64 (fun x14 _ vx14 gx14 => ?_)
      refine z_iconst (v := Int32.ofInt 1) dX9_skipsToValue_67 rfl ?_
      refine tw_iadd dX9_skipsToValue_68 (fun z15 gz15 ez15 => ?_)
      first | have ez15 := ez15 ⟨by omega, by omega⟩ | clear ez15
      refine tw_putI hW hX ga0 (by decide) (by decide) rfl kX9 fX9_9 dX9_skipsToValue_69 rfl rfl rfl (any_ok _) (by decide) (fun c1 q _ _ => nT hW ga0 (by decide) c1 q) (fun cs hW hX _ _ _ => ?_)
      refine z_iconst (v := Int32.ofInt 1) dX9_skipsToValue_72 rfl ?_
      exact z_ireturn dX9_skipsToValue_73 rfl (nar01 (b01 ⟨by decide, by decide⟩)) (hP _ _ _ hW hX (show rng 1 from ⟨by decide, by decide⟩) (by omega))
    · refine z_aload_n dX9_skipsToValue_44 rfl rfl ?_
      refine tw_getO hW ga0 (by decide) (by decide) rfl kX9 fX9_24 dX9_skipsToValue_45 (fun b17 pb17 gb17 => ?_)
      have gb17 : oT τ b17 5 := ⟨_, gb17⟩
      refine z_aload_n dX9_skipsToValue_48 rfl rfl ?_
      refine tw_getI hW ga0 (by decide) (by decide) rfl kX9 fX9_9 dX9_skipsToValue_49 (fun x18 _ vx18 gx18 => ?_)
      have hX0 := kX5_at 0 (Nat.le_refl _) hW gb17 gx18 
      refine z_callV (As := [_]) eX5_at sX5_at lX9_47 rfl dX9_skipsToValue_52 (hW.os gb17).choose_spec hX0 (Nat.le_trans (by decide) hd) rfl (Nat.le_of_ble_eq_true rfl) (fun r cs1 hp => ?_)
      obtain ⟨hcs, r20, rfl, gr20, n19_0⟩ := hp
      obtain rfl := hcs.symm
      refine z_st (st' := [.int (Int32.ofInt r20)]) rfl ?_
      refine z_bipush (v := Int32.ofInt 39) dX9_skipsToValue_55 (by decide) ?_
      refine i_icmp_eq (tgt := 62) dX9_skipsToValue_57 (by decide) gr20 (show rng 39 from ⟨by decide, by decide⟩) (fun h21 => ?_) (fun h21 => ?_)
      · refine z_aload_n dX9_skipsToValue_62 rfl rfl ?_
        refine z_dup dX9_skipsToValue_63 rfl ?_
        refine tw_getI hW ga0 (by decide) (by decide) rfl kX9 fX9_9 dX9_skipsToValue_64 (fun x22 _ vx22 gx22 => ?_)
        refine z_iconst (v := Int32.ofInt 1) dX9_skipsToValue_67 rfl ?_
        refine tw_iadd dX9_skipsToValue_68 (fun z23 gz23 ez23 => ?_)
        first | have ez23 := ez23 ⟨by omega, by omega⟩ | clear ez23
        refine tw_putI hW hX ga0 (by decide) (by decide) rfl kX9 fX9_9 dX9_skipsToValue_69 rfl rfl rfl (any_ok _) (by decide) (fun c1 q _ _ => nT hW ga0 (by decide) c1 q) (fun cs hW hX _ _ _ => ?_)
        refine z_iconst (v := Int32.ofInt 1) dX9_skipsToValue_72 rfl ?_
        exact z_ireturn dX9_skipsToValue_73 rfl (nar01 (b01 ⟨by decide, by decide⟩)) (hP _ _ _ hW hX (show rng 1 from ⟨by decide, by decide⟩) (by omega))
      · refine z_iconst (v := Int32.ofInt 0) dX9_skipsToValue_60 rfl ?_
        exact z_ireturn dX9_skipsToValue_61 rfl (nar01 (b01 ⟨by decide, by decide⟩)) (hP _ _ _ hW hX (show rng 0 from ⟨by decide, by decide⟩) (by omega))
  · refine z_iconst (v := Int32.ofInt 0) dX9_skipsToValue_16 rfl ?_
    exact z_ireturn dX9_skipsToValue_17 rfl (nar01 (b01 ⟨by decide, by decide⟩)) (hP _ _ _ hW hX (show rng 0 from ⟨by decide, by decide⟩) (by omega))

set_option maxRecDepth 100000 in
set_option maxHeartbeats 4000000 in
theorem bX9_attribute_122 {G : xG} {d : Nat} {Post : xP} {B : Nat × Nat} {τ0 τ : Tau} {c0 cs : List va_E} {a0 pa0 : Nat} {l2 : Int} {l3 : Int} {l4 : Int} {l5 : Int} (hd : 7 ≤ d) (hW : WT G B τ cs) (hX : Fx [5, 6, 9] τ0 c0 τ cs) (ga0 : τ a0 = some (.inl (9, pa0))) (gl2 : rng l2) (gl3 : rng l3) (gl4 : rng l4) (gl5 : rng l5)   (hP : ∀ (τ1 : Tau) (c1 : List va_E), WT G B τ1 c1 → Fx [5, 6, 9] τ0 c0 τ1 c1 → Post none c1)  : Z (RX9, cX9_attribute, 8, none, false) G d Post 122 [(0, .ref (G.1 + a0)), (2, .int (Int32.ofInt l2)), (3, .int (Int32.ofInt l3)), (4, .int (Int32.ofInt l4)), (5, .int (Int32.ofInt l5))] [] cs := by
  refine z_aload_n dX9_attribute_122 rfl rfl ?_
  refine tw_getO hW ga0 (by decide) (by decide) rfl kX9 fX9_24 dX9_attribute_123 (fun b1 pb1 gb1 => ?_)
  have gb1 : oT τ b1 5 := ⟨_, gb1⟩
  refine z_aload_n dX9_attribute_126 rfl rfl ?_
  refine tw_getI hW ga0 (by decide) (by decide) rfl kX9 fX9_9 dX9_attribute_127 (fun x2 _ vx2 gx2 => ?_)
  have hX0 := kX5_at 0 (Nat.le_refl _) hW gb1 gx2 
  refine z_callV (As := [_]) eX5_at sX5_at lX9_47 rfl dX9_attribute_130 (hW.os gb1).choose_spec hX0 (Nat.le_trans (by decide) hd) rfl (Nat.le_of_ble_eq_true rfl) (fun r cs1 hp => ?_)
  obtain ⟨hcs, r4, rfl, gr4, n3_0⟩ := hp
  obtain rfl := hcs.symm
  refine z_st (st' := [.int (Int32.ofInt r4)]) rfl ?_
  refine z_iload dX9_attribute_133 rfl ?_
  refine i_icmp_eq (tgt := 147) dX9_attribute_135 (by decide) gr4 gl4 (fun h5 => ?_) (fun h5 => ?_)
  · refine z_aload_n dX9_attribute_147 rfl rfl ?_
    refine z_dup dX9_attribute_148 rfl ?_
    refine tw_getI hW ga0 (by decide) (by decide) rfl kX9 fX9_9 dX9_attribute_149 (fun x6 _ vx6 gx6 => ?_)
    refine z_iconst (v := Int32.ofInt 1) dX9_attribute_152 rfl ?_
    refine tw_iadd dX9_attribute_153 (fun z7 gz7 ez7 => ?_)
    first | have ez7 := ez7 ⟨by omega, by omega⟩ | clear ez7
    refine tw_putI hW hX ga0 (by decide) (by decide) rfl kX9 fX9_9 dX9_attribute_154 rfl rfl rfl (any_ok _) (by decide) (fun c1 q _ _ => nT hW ga0 (by decide) c1 q) (fun cs hW hX _ _ _ => ?_)
    refine z_aload_n dX9_attribute_157 rfl rfl ?_
    refine tw_getO hW ga0 (by decide) (by decide) rfl kX9 fX9_28 dX9_attribute_158 (fun b9 pb9 gb9 => ?_)
    refine z_iload_n dX9_attribute_161 rfl rfl ?_
    refine z_iload_n dX9_attribute_162 rfl rfl ?_
    refine z_iload dX9_attribute_163 rfl ?_
    have hX0 := kX6_addAttribute 1 (Nat.le_refl _) hW gb9 gl2 gl3 gl5 
    refine z_callV (As := [_, _, _]) eX6_addAttribute sX6_addAttribute lX9_121 rfl dX9_attribute_165 (hW.ob gb9 (by decide)).choose_spec hX0 (Nat.le_trans (by decide) hd) rfl (Nat.le_of_ble_eq_true rfl) (fun r cs hp => ?_)
    obtain ⟨τ, rfl, hW, k12⟩ := hp
    have hX := hX.tr k12 (by decide)
    have ga0 := k12.1.e ga0 (by decide)
    clear hX0
    refine z_st (st' := []) rfl ?_
    exact z_return dX9_attribute_168 rfl (hP _ _ hW hX)
  · refine z_aload_n dX9_attribute_138 rfl rfl ?_
    refine z_aload_n dX9_attribute_139 rfl rfl ?_
    refine tw_getI hW ga0 (by decide) (by decide) rfl kX9 fX9_9 dX9_attribute_140 (fun x13 _ vx13 gx13 => ?_)
    refine tw_putI hW hX ga0 (by decide) (by decide) rfl kX9 fX9_21 dX9_attribute_143 rfl rfl rfl (any_ok _) (by decide) (fun c1 q _ _ => nT hW ga0 (by decide) c1 q) (fun cs hW hX _ _ _ => ?_)
    exact z_return dX9_attribute_146 rfl (hP _ _ hW hX)
set_option maxRecDepth 100000 in
set_option maxHeartbeats 4000000 in
theorem eX9_attribute_76 {G : xG} {d : Nat} {Post : xP} {B : Nat × Nat} {τ0 τ : Tau} {c0 cs : List va_E} {a0 pa0 : Nat} {l2 : Int} {l3 : Int} {l4 : Int} {l5 : Int} {l6 : Int} {n76 : Nat} (hd : 7 ≤ d) (hW : WT G B τ cs) (hX : Fx [5, 6, 9] τ0 c0 τ cs) (ga0 : τ a0 = some (.inl (9, pa0))) (gl2 : rng l2) (gl3 : rng l3) (gl4 : rng l4) (gl5 : rng l5) (gl6 : rng l6)   (hP : ∀ (τ1 : Tau) (c1 : List va_E), WT G B τ1 c1 → Fx [5, 6, 9] τ0 c0 τ1 c1 → Post none c1)  (ih_76 : ∀ {τ : Tau} {cs : List va_E} {a0 pa0 : Nat} {l2 : Int} {l3 : Int} {l4 : Int} {l5 : Int} {l6 : Int} (hW : WT G B τ cs) (hX : Fx [5, 6, 9] τ0 c0 τ cs) (ga0 : τ a0 = some (.inl (9, pa0))) (gl2 : rng l2) (gl3 : rng l3) (gl4 : rng l4) (gl5 : rng l5) (gl6 : rng l6)  , (3000 - l6).toNat < n76 → Z (RX9, cX9_attribute, 8, none, false) G d Post 76 [(0, .ref (G.1 + a0)), (2, .int (Int32.ofInt l2)), (3, .int (Int32.ofInt l3)), (4, .int (Int32.ofInt l4)), (5, .int (Int32.ofInt l5)), (6, .int (Int32.ofInt l6))] [] cs) (hm_76 : (3000 - l6).toNat < n76 + 1) : Z (RX9, cX9_attribute, 8, none, false) G d Post 76 [(0, .ref (G.1 + a0)), (2, .int (Int32.ofInt l2)), (3, .int (Int32.ofInt l3)), (4, .int (Int32.ofInt l4)), (5, .int (Int32.ofInt l5)), (6, .int (Int32.ofInt l6))] [] cs := by
  refine z_iload dX9_attribute_76 rfl ?_
  refine z_sipush (v := Int32.ofInt 3000) dX9_attribute_78 (by decide) ?_
  refine i_icmp_ge (tgt := 122) dX9_attribute_81 (by decide) gl6 (show rng 3000 from ⟨by decide, by decide⟩) (fun h1 => ?_) (fun h1 => ?_)
  · refine z_loc (L' := [(0, .ref (G.1 + a0)), (2, .int (Int32.ofInt l2)), (3, .int (Int32.ofInt l3)), (4, .int (Int32.ofInt l4)), (5, .int (Int32.ofInt l5))]) (List.forall_mem_cons.mpr ⟨rfl, (List.forall_mem_cons.mpr ⟨rfl, (List.forall_mem_cons.mpr ⟨rfl, (List.forall_mem_cons.mpr ⟨rfl, (List.forall_mem_cons.mpr ⟨rfl, (fun _ h => nomatch h)⟩)⟩)⟩)⟩)⟩) ?_
    exact bX9_attribute_122 hd hW hX ga0 gl2 gl3 gl4 gl5   hP 
  · refine z_aload_n dX9_attribute_84 rfl rfl ?_
    refine z_iload dX9_attribute_85 rfl ?_
    have hX0 := kX9_endsValue 1 (Nat.le_refl _) hW ga0 gl4 
    refine z_callV (As := [_]) eX9_endsValue sX9_endsValue lX9_112 rfl dX9_attribute_87 (hW.ob ga0 (by decide)).choose_spec hX0 (Nat.le_trans (by decide) hd) rfl (Nat.le_of_ble_eq_true rfl) (fun r cs1 hp => ?_)
    obtain ⟨hcs, r3, rfl, gr3, n2_0⟩ := hp
    obtain rfl := hcs.symm
    refine z_st (st' := [.int (Int32.ofInt r3)]) rfl ?_
    refine i_if_ne (tgt := 122) dX9_attribute_90 (by decide) gr3 (fun h4 => ?_) (fun h4 => ?_)
    · refine z_loc (L' := [(0, .ref (G.1 + a0)), (2, .int (Int32.ofInt l2)), (3, .int (Int32.ofInt l3)), (4, .int (Int32.ofInt l4)), (5, .int (Int32.ofInt l5))]) (List.forall_mem_cons.mpr ⟨rfl, (List.forall_mem_cons.mpr ⟨rfl, (List.forall_mem_cons.mpr ⟨rfl, (List.forall_mem_cons.mpr ⟨rfl, (List.forall_mem_cons.mpr ⟨rfl, (fun _ h => nomatch h)⟩)⟩)⟩)⟩)⟩) ?_
      exact bX9_attribute_122 hd hW hX ga0 gl2 gl3 gl4 gl5   hP 
    · refine z_aload_n dX9_attribute_93 rfl rfl ?_
      have hX0 := kX9_decoded 6 (Nat.le_refl _) hW ga0 
      refine z_callV (As := []) eX9_decoded sX9_decoded lX9_115 rfl dX9_attribute_94 (hW.ob ga0 (by decide)).choose_spec hX0 (Nat.le_trans (by decide) hd) rfl (Nat.le_of_ble_eq_true rfl) (fun r cs hp => ?_)
      obtain ⟨τ, r6, rfl, gr6, hW, k7, _⟩ := hp
      have hX := hX.tr k7 (by decide)
      have ga0 := k7.1.e ga0 (by decide)
      clear hX0
      refine z_st (st' := [.int (Int32.ofInt r6)]) rfl ?_
      refine z_istore dX9_attribute_97 (by decide) ?_
      refine z_loc (L' := [(0, .ref (G.1 + a0)), (2, .int (Int32.ofInt l2)), (3, .int (Int32.ofInt l3)), (4, .int (Int32.ofInt l4)), (5, .int (Int32.ofInt l5)), (6, .int (Int32.ofInt l6)), (7, .int (Int32.ofInt r6))]) (List.forall_mem_cons.mpr ⟨rfl, (List.forall_mem_cons.mpr ⟨rfl, (List.forall_mem_cons.mpr ⟨rfl, (List.forall_mem_cons.mpr ⟨rfl, (List.forall_mem_cons.mpr ⟨rfl, (List.forall_mem_cons.mpr ⟨rfl, (List.forall_mem_cons.mpr ⟨rfl, (fun _ h => nomatch h)⟩)⟩)⟩)⟩)⟩)⟩)⟩) ?_
      refine z_iload dX9_attribute_99 rfl ?_
      refine z_iconst (v := Int32.ofInt (-1)) dX9_attribute_101 rfl ?_
      refine i_icmp_ne (tgt := 106) dX9_attribute_102 (by decide) gr6 (show rng (-1) from ⟨by decide, by decide⟩) (fun h8 => ?_) (fun h8 => ?_)
      · refine z_aload_n dX9_attribute_106 rfl rfl ?_
        refine tw_getO hW ga0 (by decide) (by decide) rfl kX9 fX9_38 dX9_attribute_107 (fun b9 pb9 gb9 => ?_)
        have gb9 : oT τ b9 5 := ⟨_, gb9⟩
        refine z_iload dX9_attribute_110 rfl ?_
        have hX0 := kX5_put 1 (Nat.le_refl _) hW gb9 gr6 
        refine z_callV (As := [_]) eX5_put sX5_put lX9_118 rfl dX9_attribute_112 (hW.os gb9).choose_spec hX0 (Nat.le_trans (by decide) hd) rfl (Nat.le_of_ble_eq_true rfl) (fun r cs hp => ?_)
        obtain ⟨τ, r11, rfl, gr11, hW, k12, n10_0⟩ := hp
        have hX := hX.tr k12 (by decide)
        have ga0 := k12.1.e ga0 (by decide)
        clear hX0
        refine z_st (st' := [.int (Int32.ofInt r11)]) rfl ?_
        refine z_pop dX9_attribute_115 rfl ?_
        refine tw_iinc (l := l6) dX9_attribute_116 rfl (by decide) (fun z13 gz13 ez13 => ?_)
        first | have ez13 := ez13 ⟨by omega, by omega⟩ | clear ez13
        refine z_loc (L' := [(0, .ref (G.1 + a0)), (2, .int (Int32.ofInt l2)), (3, .int (Int32.ofInt l3)), (4, .int (Int32.ofInt l4)), (5, .int (Int32.ofInt l5)), (6, .int (Int32.ofInt z13)), (7, .int (Int32.ofInt r6))]) (List.forall_mem_cons.mpr ⟨rfl, (List.forall_mem_cons.mpr ⟨rfl, (List.forall_mem_cons.mpr ⟨rfl, (List.forall_mem_cons.mpr ⟨rfl, (List.forall_mem_cons.mpr ⟨rfl, (List.forall_mem_cons.mpr ⟨rfl, (List.forall_mem_cons.mpr ⟨rfl, (fun _ h => nomatch h)⟩)⟩)⟩)⟩)⟩)⟩)⟩) ?_
        refine z_goto (tgt := 76) dX9_attribute_119 (by decide) ?_
        refine z_loc (L' := [(0, .ref (G.1 + a0)), (2, .int (Int32.ofInt l2)), (3, .int (Int32.ofInt l3)), (4, .int (Int32.ofInt l4)), (5, .int (Int32.ofInt l5)), (6, .int (Int32.ofInt z13))]) (List.forall_mem_cons.mpr ⟨rfl, (List.forall_mem_cons.mpr ⟨rfl, (List.forall_mem_cons.mpr ⟨rfl, (List.forall_mem_cons.mpr ⟨rfl, (List.forall_mem_cons.mpr ⟨rfl, (List.forall_mem_cons.mpr ⟨rfl, (fun _ h => nomatch h)⟩)⟩)⟩)⟩)⟩)⟩) ?_
        exact ih_76 hW hX ga0 gl2 gl3 gl4 gl5 gz13   (by omega)
      · exact z_return dX9_attribute_105 rfl (hP _ _ hW hX)
set_option maxRecDepth 100000 in
set_option maxHeartbeats 4000000 in
theorem bX9_attribute_76 {G : xG} {d : Nat} {Post : xP} {B : Nat × Nat} {τ0 τ : Tau} {c0 cs : List va_E} {a0 pa0 : Nat} {l2 : Int} {l3 : Int} {l4 : Int} {l5 : Int} {l6 : Int} (hd : 7 ≤ d) (hW : WT G B τ cs) (hX : Fx [5, 6, 9] τ0 c0 τ cs) (ga0 : τ a0 = some (.inl (9, pa0))) (gl2 : rng l2) (gl3 : rng l3) (gl4 : rng l4) (gl5 : rng l5) (gl6 : rng l6)   (hP : ∀ (τ1 : Tau) (c1 : List va_E), WT G B τ1 c1 → Fx [5, 6, 9] τ0 c0 τ1 c1 → Post none c1)  : Z (RX9, cX9_attribute, 8, none, false) G d Post 76 [(0, .ref (G.1 + a0)), (2, .int (Int32.ofInt l2)), (3, .int (Int32.ofInt l3)), (4, .int (Int32.ofInt l4)), (5, .int (Int32.ofInt l5)), (6, .int (Int32.ofInt l6))] [] cs := by
  have key : ∀ (n : Nat) (τ : Tau) (cs : List va_E) (a0 pa0 : Nat) (l2 : Int) (l3 : Int) (l4 : Int) (l5 : Int) (l6 : Int) (hW : WT G B τ cs) (hX : Fx [5, 6, 9] τ0 c0 τ cs) (ga0 : τ a0 = some (.inl (9, pa0))) (gl2 : rng l2) (gl3 : rng l3) (gl4 : rng l4) (gl5 : rng l5) (gl6 : rng l6)  , (3000 - l6).toNat < n → Z (RX9, cX9_attribute, 8, none, false) G d Post 76 [(0, .ref (G.1 + a0)), (2, .int (Int32.ofInt l2)), (3, .int (Int32.ofInt l3)), (4, .int (Int32.ofInt l4)), (5, .int (Int32.ofInt l5)), (6, .int (Int32.ofInt l6))] [] cs := by
    intro n
    induction n with
    | zero => intro τ cs a0 pa0 l2 l3 l4 l5 l6 hW hX ga0 gl2 gl3 gl4 gl5 gl6 hm; exact absurd hm (Nat.not_lt_zero _)
    | succ n ih =>
      intro τ cs a0 pa0 l2 l3 l4 l5 l6 hW hX ga0 gl2 gl3 gl4 gl5 gl6 hm
      exact eX9_attribute_76 hd hW hX ga0 gl2 gl3 gl4 gl5 gl6 hP  (fun hW hX ga0 gl2 gl3 gl4 gl5 gl6 hm => ih _ _ _ _ _ _ _ _ _ hW hX ga0 gl2 gl3 gl4 gl5 gl6 hm) hm
  exact key _ _ _ _ _ _ _ _ _ _ hW hX ga0 gl2 gl3 gl4 gl5 gl6 (Nat.lt_succ_self _)
set_option maxRecDepth 100000 in
set_option maxHeartbeats 4000000 in
theorem kX9_attribute {G : xG} {B : Nat × Nat} {τ : Tau} {cs : List va_E} {a0 pa0 : Nat} {l1 : Int} (d : Nat) (hd : 7 ≤ d) (hW : WT G B τ cs) (ga0 : τ a0 = some (.inl (9, pa0))) (gl1 : rng l1)  : X G yX9_attribute cX9_attribute 8 none d [.ref (G.1 + a0), .int (Int32.ofInt l1)] cs (wN G B τ cs [5, 6, 9]) := by
  refine X.of false (by decide +kernel) (by decide) (Nat.le_of_ble_eq_true rfl) ?_
  show Z (RX9, cX9_attribute, 8, none, false) G d _ 0 [(0, .ref (G.1 + a0)), (1, .int (Int32.ofInt l1))] [] cs
  have hP : ∀ (τ1 : Tau) (c1 : List va_E), WT G B τ1 c1 → Fx [5, 6, 9] τ cs τ1 c1 → wN G B τ cs [5, 6, 9] none c1 := fun τ1 c1 h1 h2 => ⟨τ1, rfl, h1, h2⟩
  have hX : Fx [5, 6, 9] τ cs τ cs := Fx.rf
  skip
  refine z_aload_n dX9_attribute_0 rfl rfl ?_
  refine tw_getI hW ga0 (by decide) (by decide) rfl kX9 fX9_9 dX9_attribute_1 (fun x1 _ vx1 gx1 => ?_)
  refine z_istore_n dX9_attribute_4 rfl (by decide) ?_
  refine z_loc (L' := [(0, .ref (G.1 + a0)), (1, .int (Int32.ofInt l1)), (2, .int (Int32.ofInt x1))]) (List.forall_mem_cons.mpr ⟨rfl, (List.forall_mem_cons.mpr ⟨rfl, (List.forall_mem_cons.mpr ⟨rfl, (fun _ h => nomatch h)⟩)⟩)⟩) ?_
  refine z_aload_n dX9_attribute_5 rfl rfl ?_
  have hX0 := kX9_skipName 2 (Nat.le_refl _) hW ga0 
  refine z_callV (As := []) eX9_skipName sX9_skipName lX9_83 rfl dX9_attribute_6 (hW.ob ga0 (by decide)).choose_spec hX0 (Nat.le_trans (by decide) hd) rfl (Nat.le_of_ble_eq_true rfl) (fun r cs hp => ?_)
  obtain ⟨τ, rfl, hW, k4⟩ := hp
  have hX := hX.tr k4 (by decide)
  have ga0 := k4.1.e ga0 (by decide)
  clear hX0
  refine z_st (st' := []) rfl ?_
  refine z_aload_n dX9_attribute_9 rfl rfl ?_
  refine tw_getI hW ga0 (by decide) (by decide) rfl kX9 fX9_9 dX9_attribute_10 (fun x5 _ vx5 gx5 => ?_)
  refine z_istore_n dX9_attribute_13 rfl (by decide) ?_
  refine z_loc (L' := [(0, .ref (G.1 + a0)), (1, .int (Int32.ofInt l1)), (2, .int (Int32.ofInt x1)), (3, .int (Int32.ofInt x5))]) (List.forall_mem_cons.mpr ⟨rfl, (List.forall_mem_cons.mpr ⟨rfl, (List.forall_mem_cons.mpr ⟨rfl, (List.forall_mem_cons.mpr ⟨rfl, (fun _ h => nomatch h)⟩)⟩)⟩)⟩) ?_
  refine z_aload_n dX9_attribute_14 rfl rfl ?_
  refine tw_getO hW ga0 (by decide) (by decide) rfl kX9 fX9_28 dX9_attribute_15 (fun b6 pb6 gb6 => ?_)
  refine z_iload_n dX9_attribute_18 rfl rfl ?_
  refine z_iload_n dX9_attribute_19 rfl rfl ?_
  refine z_iload_n dX9_attribute_20 rfl rfl ?_
  have hX0 := kX6_hasKey 2 (Nat.le_refl _) hW gb6 gl1 gx1 gx5 
  refine z_callV (As := [_, _, _]) eX6_hasKey sX6_hasKey lX9_105 rfl dX9_attribute_21 (hW.ob gb6 (by decide)).choose_spec hX0 (Nat.le_trans (by decide) hd) rfl (Nat.le_of_ble_eq_true rfl) (fun r cs1 hp => ?_)
  obtain ⟨hcs, r8, rfl, gr8, n7_0⟩ := hp
  obtain rfl := hcs.symm
  refine z_st (st' := [.int (Int32.ofInt r8)]) rfl ?_
  refine i_if_eq (tgt := 33) dX9_attribute_24 (by decide) gr8 (fun h9 => ?_) (fun h9 => ?_)
  · refine z_aload_n dX9_attribute_33 rfl rfl ?_
    have hX0 := kX9_skipsToValue 1 (Nat.le_refl _) hW ga0 
    refine z_callV (As := []) eX9_skipsToValue sX9_skipsToValue lX9_109 rfl dX9_attribute_34 (hW.ob ga0 (by decide)).choose_spec hX0 (Nat.le_trans (by decide) hd) rfl (Nat.le_of_ble_eq_true rfl) (fun r cs hp => ?_)
    obtain ⟨τ, r11, rfl, gr11, hW, k12, n10_0⟩ := hp
    have hX := hX.tr k12 (by decide)
    have ga0 := k12.1.e ga0 (by decide)
    clear hX0
    refine z_st (st' := [.int (Int32.ofInt r11)]) rfl ?_
    refine i_if_ne (tgt := 49) dX9_attribute_37 (by decide) gr11 (fun h13 => ?_) (fun h13 => ?_)
    · refine z_aload_n dX9_attribute_49 rfl rfl ?_
      refine tw_getO hW ga0 (by decide) (by decide) rfl kX9 fX9_24 dX9_attribute_50 (fun b14 pb14 gb14 => ?_)
      have gb14 : oT τ b14 5 := ⟨_, gb14⟩
      refine z_aload_n dX9_attribute_53 rfl rfl ?_
      refine tw_getI hW ga0 (by decide) (by decide) rfl kX9 fX9_9 dX9_attribute_54 (fun x15 _ vx15 gx15 => ?_)
      refine z_iconst (v := Int32.ofInt 1) dX9_attribute_57 rfl ?_
      refine tw_isub dX9_attribute_58 (fun z16 gz16 ez16 => ?_)
      first | have ez16 := ez16 ⟨by omega, by omega⟩ | clear ez16
      have hX0 := kX5_at 0 (Nat.le_refl _) hW gb14 gz16 
      refine z_callV (As := [_]) eX5_at sX5_at lX9_47 rfl dX9_attribute_59 (hW.os gb14).choose_spec hX0 (Nat.le_trans (by decide) hd) rfl (Nat.le_of_ble_eq_true rfl) (fun r cs1 hp => ?_)
      obtain ⟨hcs, r18, rfl, gr18, n17_0⟩ := hp
      obtain rfl := hcs.symm
      refine z_st (st' := [.int (Int32.ofInt r18)]) rfl ?_
      refine z_istore dX9_attribute_62 (by decide) ?_
      refine z_loc (L' := [(0, .ref (G.1 + a0)), (1, .int (Int32.ofInt l1)), (2, .int (Int32.ofInt x1)), (3, .int (Int32.ofInt x5)), (4, .int (Int32.ofInt r18))]) (List.forall_mem_cons.mpr ⟨rfl, (List.forall_mem_cons.mpr ⟨rfl, (List.forall_mem_cons.mpr ⟨rfl, (List.forall_mem_cons.mpr ⟨rfl, (List.forall_mem_cons.mpr ⟨rfl, (fun _ h => nomatch h)⟩)⟩)⟩)⟩)⟩) ?_
      refine z_aload_n dX9_attribute_64 rfl rfl ?_
      refine tw_getO hW ga0 (by decide) (by decide) rfl kX9 fX9_38 dX9_attribute_65 (fun b19 pb19 gb19 => ?_)
      have gb19 : oT τ b19 5 := ⟨_, gb19⟩
      have hX0 := kX5_length 0 (Nat.le_refl _) hW gb19 
      refine z_callV (As := []) eX5_length sX5_length lX9_80 rfl dX9_attribute_68 (hW.os gb19).choose_spec hX0 (Nat.le_trans (by decide) hd) rfl (Nat.le_of_ble_eq_true rfl) (fun r cs1 hp => ?_)
      obtain ⟨hcs, r21, rfl, gr21, n20_0⟩ := hp
      obtain rfl := hcs.symm
      refine z_st (st' := [.int (Int32.ofInt r21)]) rfl ?_
      refine z_istore dX9_attribute_71 (by decide) ?_
      refine z_loc (L' := [(0, .ref (G.1 + a0)), (1, .int (Int32.ofInt l1)), (2, .int (Int32.ofInt x1)), (3, .int (Int32.ofInt x5)), (4, .int (Int32.ofInt r18)), (5, .int (Int32.ofInt r21))]) (List.forall_mem_cons.mpr ⟨rfl, (List.forall_mem_cons.mpr ⟨rfl, (List.forall_mem_cons.mpr ⟨rfl, (List.forall_mem_cons.mpr ⟨rfl, (List.forall_mem_cons.mpr ⟨rfl, (List.forall_mem_cons.mpr ⟨rfl, (fun _ h => nomatch h)⟩)⟩)⟩)⟩)⟩)⟩) ?_
      refine z_iconst (v := Int32.ofInt 0) dX9_attribute_73 rfl ?_
      refine z_istore dX9_attribute_74 (by decide) ?_
      refine z_loc (L' := [(0, .ref (G.1 + a0)), (1, .int (Int32.ofInt l1)), (2, .int (Int32.ofInt x1)), (3, .int (Int32.ofInt x5)), (4, .int (Int32.ofInt r18)), (5, .int (Int32.ofInt r21)), (6, .int (Int32.ofInt 0))]) (List.forall_mem_cons.mpr ⟨rfl, (List.forall_mem_cons.mpr ⟨rfl, (List.forall_mem_cons.mpr ⟨rfl, (List.forall_mem_cons.mpr ⟨rfl, (List.forall_mem_cons.mpr ⟨rfl, (List.forall_mem_cons.mpr ⟨rfl, (List.forall_mem_cons.mpr ⟨rfl, (fun _ h => nomatch h)⟩)⟩)⟩)⟩)⟩)⟩)⟩) ?_
      refine z_loc (L' := [(0, .ref (G.1 + a0)), (2, .int (Int32.ofInt x1)), (3, .int (Int32.ofInt x5)), (4, .int (Int32.ofInt r18)), (5, .int (Int32.ofInt r21)), (6, .int (Int32.ofInt 0))]) (List.forall_mem_cons.mpr ⟨rfl, (List.forall_mem_cons.mpr ⟨rfl, (List.forall_mem_cons.mpr ⟨rfl, (List.forall_mem_cons.mpr ⟨rfl, (List.forall_mem_cons.mpr ⟨rfl, (List.forall_mem_cons.mpr ⟨rfl, (fun _ h => nomatch h)⟩)⟩)⟩)⟩)⟩)⟩) ?_
      exact bX9_attribute_76 hd hW hX ga0 gx1 gx5 gr18 gr21 (show rng 0 from ⟨by decide, by decide⟩)   hP 
    · refine z_aload_n dX9_attribute_40 rfl rfl ?_
      refine z_aload_n dX9_attribute_41 rfl rfl ?_
      refine tw_getI hW ga0 (by decide) (by decide) rfl kX9 fX9_9 dX9_attribute_42 (fun x22 _ vx22 gx22 => ?_)
      refine tw_putI hW hX ga0 (by decide) (by decide) rfl kX9 fX9_21 dX9_attribute_45 rfl rfl rfl (any_ok _) (by decide) (fun c1 q _ _ => nT hW ga0 (by decide) c1 q) (fun cs hW hX _ _ _ => ?_)
      exact z_return dX9_attribute_48 rfl (hP _ _ hW hX)
  · refine z_aload_n dX9_attribute_27 rfl rfl ?_
    refine z_iload_n dX9_attribute_28 rfl rfl ?_
    refine tw_putI hW hX ga0 (by decide) (by decide) rfl kX9 fX9_21 dX9_attribute_29 rfl rfl rfl (any_ok _) (by decide) (fun c1 q _ _ => nT hW ga0 (by decide) c1 q) (fun cs hW hX _ _ _ => ?_)
    exact z_return dX9_attribute_32 rfl (hP _ _ hW hX)

set_option maxRecDepth 100000 in
set_option maxHeartbeats 4000000 in
theorem kX9_skipsToName {G : xG} {B : Nat × Nat} {τ : Tau} {cs : List va_E} {a0 pa0 : Nat} (d : Nat) (hd : 2 ≤ d) (hW : WT G B τ cs) (ga0 : τ a0 = some (.inl (9, pa0)))  : X G yX9_skipsToName cX9_skipsToName 2 (some .boolean) d [.ref (G.1 + a0)] cs (wI G B τ cs [9] (fun r => (iv 0 1 r))) := by
  refine X.of false (by decide +kernel) (by decide) (Nat.le_of_ble_eq_true rfl) ?_
  show Z (RX9, cX9_skipsToName, 2, some .boolean, false) G d _ 0 [(0, .ref (G.1 + a0))] [] cs
  have hP : ∀ (τ1 : Tau) (c1 : List va_E) (r : Int), WT G B τ1 c1 → Fx [9] τ cs τ1 c1 → rng r → ((iv 0 1 r)) → wI G B τ cs [9] (fun r => (iv 0 1 r)) (some (.int (Int32.ofInt r))) c1 := fun τ1 c1 r h1 h2 h3 h4 => ⟨τ1, r, rfl, h3, h1, h2, h4⟩
  have hX : Fx [9] τ cs τ cs := Fx.rf
  skip
  refine z_aload_n dX9_skipsToName_0 rfl rfl ?_
  refine tw_getI hW ga0 (by decide) (by decide) rfl kX9 fX9_9 dX9_skipsToName_1 (fun x1 _ vx1 gx1 => ?_)
  refine z_istore_n dX9_skipsToName_4 rfl (by decide) ?_
  refine z_loc (L' := [(0, .ref (G.1 + a0)), (1, .int (Int32.ofInt x1))]) (List.forall_mem_cons.mpr ⟨rfl, (List.forall_mem_cons.mpr ⟨rfl, (fun _ h => nomatch h)⟩)⟩) ?_
  refine z_aload_n dX9_skipsToName_5 rfl rfl ?_
  have hX0 := kX9_skipBlanks 1 (Nat.le_refl _) hW ga0 
  refine z_callV (As := []) eX9_skipBlanks sX9_skipBlanks lX9_44 rfl dX9_skipsToName_6 (hW.ob ga0 (by decide)).choose_spec hX0 (Nat.le_trans (by decide) hd) rfl (Nat.le_of_ble_eq_true rfl) (fun r cs hp => ?_)
  obtain ⟨τ, rfl, hW, k4⟩ := hp
  have hX := hX.tr k4 (by decide)
  have ga0 := k4.1.e ga0 (by decide)
  clear hX0
  refine z_st (st' := []) rfl ?_
  refine z_aload_n dX9_skipsToName_9 rfl rfl ?_
  refine tw_getI hW ga0 (by decide) (by decide) rfl kX9 fX9_9 dX9_skipsToName_10 (fun x5 _ vx5 gx5 => ?_)
  refine z_iload_n dX9_skipsToName_13 rfl rfl ?_
  refine i_icmp_le (tgt := 38) dX9_skipsToName_14 (by decide) gx5 gx1 (fun h6 => ?_) (fun h6 => ?_)
  · refine z_iconst (v := Int32.ofInt 0) dX9_skipsToName_38 rfl ?_
    exact z_ireturn dX9_skipsToName_39 rfl (nar01 (b01 ⟨by decide, by decide⟩)) (hP _ _ _ hW hX (show rng 0 from ⟨by decide, by decide⟩) (by omega))
  · refine z_aload_n dX9_skipsToName_17 rfl rfl ?_
    refine tw_getO hW ga0 (by decide) (by decide) rfl kX9 fX9_24 dX9_skipsToName_18 (fun b7 pb7 gb7 => ?_)
    have gb7 : oT τ b7 5 := ⟨_, gb7⟩
    refine z_aload_n dX9_skipsToName_21 rfl rfl ?_
    refine tw_getI hW ga0 (by decide) (by decide) rfl kX9 fX9_9 dX9_skipsToName_22 (fun x8 _ vx8 gx8 => ?_)
    have hX0 := kX5_at 0 (Nat.le_refl _) hW gb7 gx8 
    refine z_callV (As := [_]) eX5_at sX5_at lX9_47 rfl dX9_skipsToName_25 (hW.os gb7).choose_spec hX0 (Nat.le_trans (by decide) hd) rfl (Nat.le_of_ble_eq_true rfl) (fun r cs1 hp => ?_)
    obtain ⟨hcs, r10, rfl, gr10, n9_0⟩ := hp
    obtain rfl := hcs.symm
    refine z_st (st' := [.int (Int32.ofInt r10)]) rfl ?_
    have hX0 := kX9_isNameBegin 1 (Nat.le_refl _) hW gr10 
    refine z_callS (As := [_]) eX9_isNameBegin sX9_isNameBegin lX9_101 dX9_skipsToName_28 hX0 (Nat.le_trans (by decide) hd) rfl (Nat.le_of_ble_eq_true rfl) (fun r cs1 hp => ?_)
    obtain ⟨hcs, r12, rfl, gr12, n11_0⟩ := hp
    obtain rfl := hcs.symm
    refine z_st (st' := [.int (Int32.ofInt r12)]) rfl ?_
    refine i_if_eq (tgt := 38) dX9_skipsToName_31 (by decide) gr12 (fun h13 => ?_) (fun h13 => ?_)
    · refine z_iconst (v := Int32.ofInt 0) dX9_skipsToName_38 rfl ?_
      exact z_ireturn dX9_skipsToName_39 rfl (nar01 (b01 ⟨by decide, by decide⟩)) (hP _ _ _ hW hX (show rng 0 from ⟨by decide, by decide⟩) (by omega))
    · refine z_iconst (v := Int32.ofInt 1) dX9_skipsToName_34 rfl ?_
      refine z_goto (tgt := 39) dX9_skipsToName_35 (by decide) ?_
      exact z_ireturn dX9_skipsToName_39 rfl (nar01 (b01 ⟨by decide, by decide⟩)) (hP _ _ _ hW hX (show rng 1 from ⟨by decide, by decide⟩) (by omega))

set_option maxRecDepth 100000 in
set_option maxHeartbeats 4000000 in
theorem bX9_startTag_127 {G : xG} {d : Nat} {Post : xP} {B : Nat × Nat} {τ0 τ : Tau} {c0 cs : List va_E} {a0 pa0 : Nat} {l2 : Int} {l3 : Int} (hd : 8 ≤ d) (hW : WT G B τ cs) (hX : Fx [5, 6, 9] τ0 c0 τ cs) (ga0 : τ a0 = some (.inl (9, pa0))) (gl2 : rng l2) (gl3 : rng l3) (bl3 : iv 0 1 l3) (i0 : iv (-1) 199 l2)  (hP : ∀ (τ1 : Tau) (c1 : List va_E), WT G B τ1 c1 → Fx [5, 6, 9] τ0 c0 τ1 c1 → Post none c1)  : Z (RX9, cX9_startTag, 4, none, false) G d Post 127 [(0, .ref (G.1 + a0)), (2, .int (Int32.ofInt l2)), (3, .int (Int32.ofInt l3))] [] cs := by
  refine z_aload_n dX9_startTag_127 rfl rfl ?_
  refine tw_getO hW ga0 (by decide) (by decide) rfl kX9 fX9_24 dX9_startTag_128 (fun b1 pb1 gb1 => ?_)
  have gb1 : oT τ b1 5 := ⟨_, gb1⟩
  refine z_aload_n dX9_startTag_131 rfl rfl ?_
  refine tw_getI hW ga0 (by decide) (by decide) rfl kX9 fX9_9 dX9_startTag_132 (fun x2 _ vx2 gx2 => ?_)
  have hX0 := kX5_at 0 (Nat.le_refl _) hW gb1 gx2 
  refine z_callV (As := [_]) eX5_at sX5_at lX9_47 rfl dX9_startTag_135 (hW.os gb1).choose_spec hX0 (Nat.le_trans (by decide) hd) rfl (Nat.le_of_ble_eq_true rfl) (fun r cs1 hp => ?_)
  obtain ⟨hcs, r4, rfl, gr4, n3_0⟩ := hp
  obtain rfl := hcs.symm
  refine z_st (st' := [.int (Int32.ofInt r4)]) rfl ?_
  refine z_bipush (v := Int32.ofInt 62) dX9_startTag_138 (by decide) ?_
  refine i_icmp_eq (tgt := 152) dX9_startTag_140 (by decide) gr4 (show rng 62 from ⟨by decide, by decide⟩) (fun h5 => ?_) (fun h5 => ?_)
  · refine z_aload_n dX9_startTag_152 rfl rfl ?_
    refine z_dup dX9_startTag_153 rfl ?_
    refine tw_getI hW ga0 (by decide) (by decide) rfl kX9 fX9_9 dX9_startTag_154 (fun x6 _ vx6 gx6 => ?_)
    refine z_iconst (v := Int32.ofInt 1) dX9_startTag_157 rfl ?_
    refine tw_iadd dX9_startTag_158 (fun z7 gz7 ez7 => ?_)
    first | have ez7 := ez7 ⟨by omega, by omega⟩ | clear ez7
    refine tw_putI hW hX ga0 (by decide) (by decide) rfl kX9 fX9_9 dX9_startTag_159 rfl rfl rfl (any_ok _) (by decide) (fun c1 q _ _ => nT hW ga0 (by decide) c1 q) (fun cs hW hX _ _ _ => ?_)
    refine z_aload_n dX9_startTag_162 rfl rfl ?_
    refine tw_getO hW ga0 (by decide) (by decide) rfl kX9 fX9_28 dX9_startTag_163 (fun b9 pb9 gb9 => ?_)
    refine z_iload_n dX9_startTag_166 rfl rfl ?_
    have hX0 := kX6_beginText 1 (Nat.le_refl _) hW gb9 gl2 
    refine z_callV (As := [_]) eX6_beginText sX6_beginText lX9_98 rfl dX9_startTag_167 (hW.ob gb9 (by decide)).choose_spec hX0 (Nat.le_trans (by decide) hd) rfl (Nat.le_of_ble_eq_true rfl) (fun r cs hp => ?_)
    obtain ⟨τ, rfl, hW, k12⟩ := hp
    have hX := hX.tr k12 (by decide)
    have ga0 := k12.1.e ga0 (by decide)
    clear hX0
    refine z_st (st' := []) rfl ?_
    refine z_iload_n dX9_startTag_170 rfl rfl ?_
    refine i_if_ne (tgt := 189) dX9_startTag_171 (by decide) gl3 (fun h13 => ?_) (fun h13 => ?_)
    · exact z_return dX9_startTag_189 rfl (hP _ _ hW hX)
    · refine z_aload_n dX9_startTag_174 rfl rfl ?_
      refine z_iload_n dX9_startTag_175 rfl rfl ?_
      refine tw_putI hW hX ga0 (by decide) (by decide) rfl kX9 fX9_15 dX9_startTag_176 rfl rfl rfl (iv_ok (by omega) (by decide) (by decide)) (by decide) (fun c1 q _ _ => nT hW ga0 (by decide) c1 q) (fun cs hW hX _ _ _ => ?_)
      refine z_aload_n dX9_startTag_179 rfl rfl ?_
      refine z_dup dX9_startTag_180 rfl ?_
      refine tw_getI hW ga0 (by decide) (by decide) rfl kX9 fX9_18 dX9_startTag_181 (fun x15 _ vx15 gx15 => ?_)
      refine z_iconst (v := Int32.ofInt 1) dX9_startTag_184 rfl ?_
      refine tw_iadd dX9_startTag_185 (fun z16 gz16 ez16 => ?_)
      first | have ez16 := ez16 ⟨by omega, by omega⟩ | clear ez16
      refine tw_putI hW hX ga0 (by decide) (by decide) rfl kX9 fX9_18 dX9_startTag_186 rfl rfl rfl (any_ok _) (by decide) (fun c1 q _ _ => nT hW ga0 (by decide) c1 q) (fun cs hW hX _ _ _ => ?_)
      exact z_return dX9_startTag_189 rfl (hP _ _ hW hX)
  · refine z_aload_n dX9_startTag_143 rfl rfl ?_
    refine z_aload_n dX9_startTag_144 rfl rfl ?_
    refine tw_getI hW ga0 (by decide) (by decide) rfl kX9 fX9_9 dX9_startTag_145 (fun x18 _ vx18 gx18 => ?_)
    refine tw_putI hW hX ga0 (by decide) (by decide) rfl kX9 fX9_21 dX9_startTag_148 rfl rfl rfl (any_ok _) (by decide) (fun c1 q _ _ => nT hW ga0 (by decide) c1 q) (fun cs hW hX _ _ _ => ?_)
    exact z_return dX9_startTag_151 rfl (hP _ _ hW hX)
set_option maxRecDepth 100000 in
set_option maxHeartbeats 4000000 in
theorem bX9_startTag_112 {G : xG} {d : Nat} {Post : xP} {B : Nat × Nat} {τ0 τ : Tau} {c0 cs : List va_E} {a0 pa0 : Nat} {l2 : Int} {s0 : Int} (hd : 8 ≤ d) (hW : WT G B τ cs) (hX : Fx [5, 6, 9] τ0 c0 τ cs) (ga0 : τ a0 = some (.inl (9, pa0))) (gl2 : rng l2) (gs0 : rng s0) (bs0 : iv 0 1 s0) (i0 : iv (-1) 199 l2)  (hP : ∀ (τ1 : Tau) (c1 : List va_E), WT G B τ1 c1 → Fx [5, 6, 9] τ0 c0 τ1 c1 → Post none c1)  : Z (RX9, cX9_startTag, 4, none, false) G d Post 112 [(0, .ref (G.1 + a0)), (2, .int (Int32.ofInt l2))] [.int (Int32.ofInt s0)] cs := by
  refine z_istore_n dX9_startTag_112 rfl (by decide) ?_
  refine z_loc (L' := [(0, .ref (G.1 + a0)), (2, .int (Int32.ofInt l2)), (3, .int (Int32.ofInt s0))]) (List.forall_mem_cons.mpr ⟨rfl, (List.forall_mem_cons.mpr ⟨rfl, (List.forall_mem_cons.mpr ⟨rfl, (fun _ h => nomatch h)⟩)⟩)⟩) ?_
  refine z_iload_n dX9_startTag_113 rfl rfl ?_
  refine i_if_eq (tgt := 127) dX9_startTag_114 (by decide) gs0 (fun h1 => ?_) (fun h1 => ?_)
  · refine z_loc (L' := [(0, .ref (G.1 + a0)), (2, .int (Int32.ofInt l2)), (3, .int (Int32.ofInt s0))]) (List.forall_mem_cons.mpr ⟨rfl, (List.forall_mem_cons.mpr ⟨rfl, (List.forall_mem_cons.mpr ⟨rfl, (fun _ h => nomatch h)⟩)⟩)⟩) ?_
    exact bX9_startTag_127 hd hW hX ga0 gl2 gs0 (by omega) (by omega)  hP 
  · refine z_aload_n dX9_startTag_117 rfl rfl ?_
    refine z_dup dX9_startTag_118 rfl ?_
    refine tw_getI hW ga0 (by decide) (by decide) rfl kX9 fX9_9 dX9_startTag_119 (fun x2 _ vx2 gx2 => ?_)
    refine z_iconst (v := Int32.ofInt 1) dX9_startTag_122 rfl ?_
    refine tw_iadd dX9_startTag_123 (fun z3 gz3 ez3 => ?_)
    first | have ez3 := ez3 ⟨by omega, by omega⟩ | clear ez3
    refine tw_putI hW hX ga0 (by decide) (by decide) rfl kX9 fX9_9 dX9_startTag_124 rfl rfl rfl (any_ok _) (by decide) (fun c1 q _ _ => nT hW ga0 (by decide) c1 q) (fun cs hW hX _ _ _ => ?_)
    refine z_loc (L' := [(0, .ref (G.1 + a0)), (2, .int (Int32.ofInt l2)), (3, .int (Int32.ofInt s0))]) (List.forall_mem_cons.mpr ⟨rfl, (List.forall_mem_cons.mpr ⟨rfl, (List.forall_mem_cons.mpr ⟨rfl, (fun _ h => nomatch h)⟩)⟩)⟩) ?_
    exact bX9_startTag_127 hd hW hX ga0 gl2 gs0 (by omega) (by omega)  hP 
set_option maxRecDepth 100000 in
set_option maxHeartbeats 4000000 in
theorem bX9_startTag_91 {G : xG} {d : Nat} {Post : xP} {B : Nat × Nat} {τ0 τ : Tau} {c0 cs : List va_E} {a0 pa0 : Nat} {l2 : Int} (hd : 8 ≤ d) (hW : WT G B τ cs) (hX : Fx [5, 6, 9] τ0 c0 τ cs) (ga0 : τ a0 = some (.inl (9, pa0))) (gl2 : rng l2) (i0 : iv (-1) 199 l2)  (hP : ∀ (τ1 : Tau) (c1 : List va_E), WT G B τ1 c1 → Fx [5, 6, 9] τ0 c0 τ1 c1 → Post none c1)  : Z (RX9, cX9_startTag, 4, none, false) G d Post 91 [(0, .ref (G.1 + a0)), (2, .int (Int32.ofInt l2))] [] cs := by
  refine z_aload_n dX9_startTag_91 rfl rfl ?_
  refine tw_getO hW ga0 (by decide) (by decide) rfl kX9 fX9_24 dX9_startTag_92 (fun b1 pb1 gb1 => ?_)
  have gb1 : oT τ b1 5 := ⟨_, gb1⟩
  refine z_aload_n dX9_startTag_95 rfl rfl ?_
  refine tw_getI hW ga0 (by decide) (by decide) rfl kX9 fX9_9 dX9_startTag_96 (fun x2 _ vx2 gx2 => ?_)
  have hX0 := kX5_at 0 (Nat.le_refl _) hW gb1 gx2 
  refine z_callV (As := [_]) eX5_at sX5_at lX9_47 rfl dX9_startTag_99 (hW.os gb1).choose_spec hX0 (Nat.le_trans (by decide) hd) rfl (Nat.le_of_ble_eq_true rfl) (fun r cs1 hp => ?_)
  obtain ⟨hcs, r4, rfl, gr4, n3_0⟩ := hp
  obtain rfl := hcs.symm
  refine z_st (st' := [.int (Int32.ofInt r4)]) rfl ?_
  refine z_bipush (v := Int32.ofInt 47) dX9_startTag_102 (by decide) ?_
  refine i_icmp_ne (tgt := 111) dX9_startTag_104 (by decide) gr4 (show rng 47 from ⟨by decide, by decide⟩) (fun h5 => ?_) (fun h5 => ?_)
  · refine z_iconst (v := Int32.ofInt 0) dX9_startTag_111 rfl ?_
    refine z_loc (L' := [(0, .ref (G.1 + a0)), (2, .int (Int32.ofInt l2))]) (List.forall_mem_cons.mpr ⟨rfl, (List.forall_mem_cons.mpr ⟨rfl, (fun _ h => nomatch h)⟩)⟩) ?_
    exact bX9_startTag_112 hd hW hX ga0 gl2 (show rng 0 from ⟨by decide, by decide⟩) ⟨by decide, by decide⟩ (by omega)  hP 
  · refine z_iconst (v := Int32.ofInt 1) dX9_startTag_107 rfl ?_
    refine z_goto (tgt := 112) dX9_startTag_108 (by decide) ?_
    refine z_loc (L' := [(0, .ref (G.1 + a0)), (2, .int (Int32.ofInt l2))]) (List.forall_mem_cons.mpr ⟨rfl, (List.forall_mem_cons.mpr ⟨rfl, (fun _ h => nomatch h)⟩)⟩) ?_
    exact bX9_startTag_112 hd hW hX ga0 gl2 (show rng 1 from ⟨by decide, by decide⟩) ⟨by decide, by decide⟩ (by omega)  hP 
set_option maxRecDepth 100000 in
set_option maxHeartbeats 4000000 in
theorem eX9_startTag_57 {G : xG} {d : Nat} {Post : xP} {B : Nat × Nat} {τ0 τ : Tau} {c0 cs : List va_E} {a0 pa0 : Nat} {l2 : Int} {l3 : Int} {n57 : Nat} (hd : 8 ≤ d) (hW : WT G B τ cs) (hX : Fx [5, 6, 9] τ0 c0 τ cs) (ga0 : τ a0 = some (.inl (9, pa0))) (gl2 : rng l2) (gl3 : rng l3) (i0 : iv (-1) 199 l2)  (hP : ∀ (τ1 : Tau) (c1 : List va_E), WT G B τ1 c1 → Fx [5, 6, 9] τ0 c0 τ1 c1 → Post none c1)  (ih_57 : ∀ {τ : Tau} {cs : List va_E} {a0 pa0 : Nat} {l2 : Int} {l3 : Int} (hW : WT G B τ cs) (hX : Fx [5, 6, 9] τ0 c0 τ cs) (ga0 : τ a0 = some (.inl (9, pa0))) (gl2 : rng l2) (gl3 : rng l3) (i0 : iv (-1) 199 l2) , (601 - l3).toNat < n57 → Z (RX9, cX9_startTag, 4, none, false) G d Post 57 [(0, .ref (G.1 + a0)), (2, .int (Int32.ofInt l2)), (3, .int (Int32.ofInt l3))] [] cs) (hm_57 : (601 - l3).toNat < n57 + 1) : Z (RX9, cX9_startTag, 4, none, false) G d Post 57 [(0, .ref (G.1 + a0)), (2, .int (Int32.ofInt l2)), (3, .int (Int32.ofInt l3))] [] cs := by
  refine z_iload_n dX9_startTag_57 rfl rfl ?_
  refine z_sipush (v := Int32.ofInt 600) dX9_startTag_58 (by decide) ?_
  refine i_icmp_gt (tgt := 91) dX9_startTag_61 (by decide) gl3 (show rng 600 from ⟨by decide, by decide⟩) (fun h1 => ?_) (fun h1 => ?_)
  · refine z_loc (L' := [(0, .ref (G.1 + a0)), (2, .int (Int32.ofInt l2))]) (List.forall_mem_cons.mpr ⟨rfl, (List.forall_mem_cons.mpr ⟨rfl, (fun _ h => nomatch h)⟩)⟩) ?_
    exact bX9_startTag_91 hd hW hX ga0 gl2 (by omega)  hP 
  · refine z_aload_n dX9_startTag_64 rfl rfl ?_
    have hX0 := kX9_skipsToName 2 (Nat.le_refl _) hW ga0 
    refine z_callV (As := []) eX9_skipsToName sX9_skipsToName lX9_90 rfl dX9_startTag_65 (hW.ob ga0 (by decide)).choose_spec hX0 (Nat.le_trans (by decide) hd) rfl (Nat.le_of_ble_eq_true rfl) (fun r cs hp => ?_)
    obtain ⟨τ, r3, rfl, gr3, hW, k4, n2_0⟩ := hp
    have hX := hX.tr k4 (by decide)
    have ga0 := k4.1.e ga0 (by decide)
    clear hX0
    refine z_st (st' := [.int (Int32.ofInt r3)]) rfl ?_
    refine i_if_eq (tgt := 91) dX9_startTag_68 (by decide) gr3 (fun h5 => ?_) (fun h5 => ?_)
    · refine z_loc (L' := [(0, .ref (G.1 + a0)), (2, .int (Int32.ofInt l2))]) (List.forall_mem_cons.mpr ⟨rfl, (List.forall_mem_cons.mpr ⟨rfl, (fun _ h => nomatch h)⟩)⟩) ?_
      exact bX9_startTag_91 hd hW hX ga0 gl2 (by omega)  hP 
    · refine z_aload_n dX9_startTag_71 rfl rfl ?_
      refine z_iload_n dX9_startTag_72 rfl rfl ?_
      have hX0 := kX9_attribute 7 (Nat.le_refl _) hW ga0 gl2 
      refine z_callV (As := [_]) eX9_attribute sX9_attribute lX9_94 rfl dX9_startTag_73 (hW.ob ga0 (by decide)).choose_spec hX0 (Nat.le_trans (by decide) hd) rfl (Nat.le_of_ble_eq_true rfl) (fun r cs hp => ?_)
      obtain ⟨τ, rfl, hW, k8⟩ := hp
      have hX := hX.tr k8 (by decide)
      have ga0 := k8.1.e ga0 (by decide)
      clear hX0
      refine z_st (st' := []) rfl ?_
      refine z_aload_n dX9_startTag_76 rfl rfl ?_
      refine tw_getI hW ga0 (by decide) (by decide) rfl kX9 fX9_21 dX9_startTag_77 (fun x9 _ vx9 gx9 => ?_)
      refine z_iconst (v := Int32.ofInt (-1)) dX9_startTag_80 rfl ?_
      refine i_icmp_eq (tgt := 85) dX9_startTag_81 (by decide) gx9 (show rng (-1) from ⟨by decide, by decide⟩) (fun h10 => ?_) (fun h10 => ?_)
      · refine tw_iinc (l := l3) dX9_startTag_85 rfl (by decide) (fun z11 gz11 ez11 => ?_)
        first | have ez11 := ez11 ⟨by omega, by omega⟩ | clear ez11
        refine z_loc (L' := [(0, .ref (G.1 + a0)), (2, .int (Int32.ofInt l2)), (3, .int (Int32.ofInt z11))]) (List.forall_mem_cons.mpr ⟨rfl, (List.forall_mem_cons.mpr ⟨rfl, (List.forall_mem_cons.mpr ⟨rfl, (fun _ h => nomatch h)⟩)⟩)⟩) ?_
        refine z_goto (tgt := 57) dX9_startTag_88 (by decide) ?_
        refine z_loc (L' := [(0, .ref (G.1 + a0)), (2, .int (Int32.ofInt l2)), (3, .int (Int32.ofInt z11))]) (List.forall_mem_cons.mpr ⟨rfl, (List.forall_mem_cons.mpr ⟨rfl, (List.forall_mem_cons.mpr ⟨rfl, (fun _ h => nomatch h)⟩)⟩)⟩) ?_
        exact ih_57 hW hX ga0 gl2 gz11 (by omega)  (by omega)
      · exact z_return dX9_startTag_84 rfl (hP _ _ hW hX)
set_option maxRecDepth 100000 in
set_option maxHeartbeats 4000000 in
theorem bX9_startTag_57 {G : xG} {d : Nat} {Post : xP} {B : Nat × Nat} {τ0 τ : Tau} {c0 cs : List va_E} {a0 pa0 : Nat} {l2 : Int} {l3 : Int} (hd : 8 ≤ d) (hW : WT G B τ cs) (hX : Fx [5, 6, 9] τ0 c0 τ cs) (ga0 : τ a0 = some (.inl (9, pa0))) (gl2 : rng l2) (gl3 : rng l3) (i0 : iv (-1) 199 l2)  (hP : ∀ (τ1 : Tau) (c1 : List va_E), WT G B τ1 c1 → Fx [5, 6, 9] τ0 c0 τ1 c1 → Post none c1)  : Z (RX9, cX9_startTag, 4, none, false) G d Post 57 [(0, .ref (G.1 + a0)), (2, .int (Int32.ofInt l2)), (3, .int (Int32.ofInt l3))] [] cs := by
  have key : ∀ (n : Nat) (τ : Tau) (cs : List va_E) (a0 pa0 : Nat) (l2 : Int) (l3 : Int) (hW : WT G B τ cs) (hX : Fx [5, 6, 9] τ0 c0 τ cs) (ga0 : τ a0 = some (.inl (9, pa0))) (gl2 : rng l2) (gl3 : rng l3) (i0 : iv (-1) 199 l2) , (601 - l3).toNat < n → Z (RX9, cX9_startTag, 4, none, false) G d Post 57 [(0, .ref (G.1 + a0)), (2, .int (Int32.ofInt l2)), (3, .int (Int32.ofInt l3))] [] cs := by
    intro n
    induction n with
    | zero => intro τ cs a0 pa0 l2 l3 hW hX ga0 gl2 gl3 i0 hm; exact absurd hm (Nat.not_lt_zero _)
    | succ n ih =>
      intro τ cs a0 pa0 l2 l3 hW hX ga0 gl2 gl3 i0 hm
      exact eX9_startTag_57 hd hW hX ga0 gl2 gl3 i0 hP  (fun hW hX ga0 gl2 gl3 i0 hm => ih _ _ _ _ _ _ hW hX ga0 gl2 gl3 i0 hm) hm
  exact key _ _ _ _ _ _ _ hW hX ga0 gl2 gl3 i0 (Nat.lt_succ_self _)
set_option maxRecDepth 100000 in
set_option maxHeartbeats 4000000 in
theorem kX9_startTag {G : xG} {B : Nat × Nat} {τ : Tau} {cs : List va_E} {a0 pa0 : Nat} (d : Nat) (hd : 8 ≤ d) (hW : WT G B τ cs) (ga0 : τ a0 = some (.inl (9, pa0)))  : X G yX9_startTag cX9_startTag 4 none d [.ref (G.1 + a0)] cs (wN G B τ cs [5, 6, 9]) := by
  refine X.of false (by decide +kernel) (by decide) (Nat.le_of_ble_eq_true rfl) ?_
  show Z (RX9, cX9_startTag, 4, none, false) G d _ 0 [(0, .ref (G.1 + a0))] [] cs
  have hP : ∀ (τ1 : Tau) (c1 : List va_E), WT G B τ1 c1 → Fx [5, 6, 9] τ cs τ1 c1 → wN G B τ cs [5, 6, 9] none c1 := fun τ1 c1 h1 h2 => ⟨τ1, rfl, h1, h2⟩
  have hX : Fx [5, 6, 9] τ cs τ cs := Fx.rf
  skip
  refine z_aload_n dX9_startTag_0 rfl rfl ?_
  refine tw_getI hW ga0 (by decide) (by decide) rfl kX9 fX9_9 dX9_startTag_1 (fun x1 _ vx1 gx1 => ?_)
  refine z_istore_n dX9_startTag_4 rfl (by decide) ?_
  refine z_loc (L' := [(0, .ref (G.1 + a0)), (1, .int (Int32.ofInt x1))]) (List.forall_mem_cons.mpr ⟨rfl, (List.forall_mem_cons.mpr ⟨rfl, (fun _ h => nomatch h)⟩)⟩) ?_
  refine z_aload_n dX9_startTag_5 rfl rfl ?_
  refine z_dup dX9_startTag_6 rfl ?_
  refine tw_getI hW ga0 (by decide) (by decide) rfl kX9 fX9_9 dX9_startTag_7 (fun x2 _ vx2 gx2 => ?_)
  refine z_iconst (v := Int32.ofInt 1) dX9_startTag_10 rfl ?_
  refine tw_iadd dX9_startTag_11 (fun z3 gz3 ez3 => ?_)
  first | have ez3 := ez3 ⟨by omega, by omega⟩ | clear ez3
  refine tw_putI hW hX ga0 (by decide) (by decide) rfl kX9 fX9_9 dX9_startTag_12 rfl rfl rfl (any_ok _) (by decide) (fun c1 q _ _ => nT hW ga0 (by decide) c1 q) (fun cs hW hX _ _ _ => ?_)
  refine z_aload_n dX9_startTag_15 rfl rfl ?_
  have hX0 := kX9_skipName 2 (Nat.le_refl _) hW ga0 
  refine z_callV (As := []) eX9_skipName sX9_skipName lX9_83 rfl dX9_startTag_16 (hW.ob ga0 (by decide)).choose_spec hX0 (Nat.le_trans (by decide) hd) rfl (Nat.le_of_ble_eq_true rfl) (fun r cs hp => ?_)
  obtain ⟨τ, rfl, hW, k7⟩ := hp
  have hX := hX.tr k7 (by decide)
  have ga0 := k7.1.e ga0 (by decide)
  clear hX0
  refine z_st (st' := []) rfl ?_
  refine z_aload_n dX9_startTag_19 rfl rfl ?_
  refine tw_getI hW ga0 (by decide) (by decide) rfl kX9 fX9_9 dX9_startTag_20 (fun x8 _ vx8 gx8 => ?_)
  refine z_iload_n dX9_startTag_23 rfl rfl ?_
  refine z_iconst (v := Int32.ofInt 1) dX9_startTag_24 rfl ?_
  refine tw_iadd dX9_startTag_25 (fun z9 gz9 ez9 => ?_)
  first | have ez9 := ez9 ⟨by omega, by omega⟩ | clear ez9
  refine i_icmp_ne (tgt := 38) dX9_startTag_26 (by decide) gx8 gz9 (fun h10 => ?_) (fun h10 => ?_)
  · refine z_aload_n dX9_startTag_38 rfl rfl ?_
    refine tw_getO hW ga0 (by decide) (by decide) rfl kX9 fX9_28 dX9_startTag_39 (fun b11 pb11 gb11 => ?_)
    refine z_iload_n dX9_startTag_42 rfl rfl ?_
    refine z_aload_n dX9_startTag_43 rfl rfl ?_
    refine tw_getI hW ga0 (by decide) (by decide) rfl kX9 fX9_9 dX9_startTag_44 (fun x12 _ vx12 gx12 => ?_)
    refine z_aload_n dX9_startTag_47 rfl rfl ?_
    refine tw_getI hW ga0 (by decide) (by decide) rfl kX9 fX9_15 dX9_startTag_48 (fun x13 _ vx13 gx13 => ?_)
    have hX0 := kX6_begin 1 (Nat.le_refl _) hW gb11 gx1 gx12 gx13 (by omega)
    refine z_callV (As := [_, _, _]) eX6_begin sX6_begin lX9_86 rfl dX9_startTag_51 (hW.ob gb11 (by decide)).choose_spec hX0 (Nat.le_trans (by decide) hd) rfl (Nat.le_of_ble_eq_true rfl) (fun r cs hp => ?_)
    obtain ⟨τ, r15, rfl, gr15, hW, k16, n14_0⟩ := hp
    have hX := hX.tr k16 (by decide)
    have ga0 := k16.1.e ga0 (by decide)
    clear hX0
    refine z_st (st' := [.int (Int32.ofInt r15)]) rfl ?_
    refine z_istore_n dX9_startTag_54 rfl (by decide) ?_
    refine z_loc (L' := [(0, .ref (G.1 + a0)), (1, .int (Int32.ofInt x1)), (2, .int (Int32.ofInt r15))]) (List.forall_mem_cons.mpr ⟨rfl, (List.forall_mem_cons.mpr ⟨rfl, (List.forall_mem_cons.mpr ⟨rfl, (fun _ h => nomatch h)⟩)⟩)⟩) ?_
    refine z_iconst (v := Int32.ofInt 0) dX9_startTag_55 rfl ?_
    refine z_istore_n dX9_startTag_56 rfl (by decide) ?_
    refine z_loc (L' := [(0, .ref (G.1 + a0)), (1, .int (Int32.ofInt x1)), (2, .int (Int32.ofInt r15)), (3, .int (Int32.ofInt 0))]) (List.forall_mem_cons.mpr ⟨rfl, (List.forall_mem_cons.mpr ⟨rfl, (List.forall_mem_cons.mpr ⟨rfl, (List.forall_mem_cons.mpr ⟨rfl, (fun _ h => nomatch h)⟩)⟩)⟩)⟩) ?_
    refine z_loc (L' := [(0, .ref (G.1 + a0)), (2, .int (Int32.ofInt r15)), (3, .int (Int32.ofInt 0))]) (List.forall_mem_cons.mpr ⟨rfl, (List.forall_mem_cons.mpr ⟨rfl, (List.forall_mem_cons.mpr ⟨rfl, (fun _ h => nomatch h)⟩)⟩)⟩) ?_
    exact bX9_startTag_57 hd hW hX ga0 gr15 (show rng 0 from ⟨by decide, by decide⟩) (by omega)  hP 
  · refine z_aload_n dX9_startTag_29 rfl rfl ?_
    refine z_aload_n dX9_startTag_30 rfl rfl ?_
    refine tw_getI hW ga0 (by decide) (by decide) rfl kX9 fX9_9 dX9_startTag_31 (fun x17 _ vx17 gx17 => ?_)
    refine tw_putI hW hX ga0 (by decide) (by decide) rfl kX9 fX9_21 dX9_startTag_34 rfl rfl rfl (any_ok _) (by decide) (fun c1 q _ _ => nT hW ga0 (by decide) c1 q) (fun cs hW hX _ _ _ => ?_)
    exact z_return dX9_startTag_37 rfl (hP _ _ hW hX)

