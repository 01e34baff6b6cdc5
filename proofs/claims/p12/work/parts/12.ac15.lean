set_option maxRecDepth 100000 in
set_option maxHeartbeats 4000000 in
theorem kX9_isNameBegin {G : xG} {B : Nat × Nat} {τ : Tau} {cs : List va_E} {l0 : Int} (d : Nat) (hd : 1 ≤ d) (hW : WT G B τ cs) (gl0 : rng l0)  : X G yX9_isNameBegin cX9_isNameBegin 1 (some .boolean) d [.int (Int32.ofInt l0)] cs (rI cs (fun r => (iv 0 1 r))) := by
  refine X.of false (by decide +kernel) (by decide) (Nat.le_of_ble_eq_true rfl) ?_
  show Z (RX9, cX9_isNameBegin, 1, some .boolean, false) G d _ 0 [(0, .int (Int32.ofInt l0))] [] cs
  have hP : ∀ r : Int, rng r → ((iv 0 1 r)) → rI cs (fun r => (iv 0 1 r)) (some (.int (Int32.ofInt r))) cs := fun r h1 h2 => ⟨rfl, r, rfl, h1, h2⟩
  refine z_iload_n dX9_isNameBegin_0 rfl rfl ?_
  have hX0 := kX10_isLetter 0 (Nat.le_refl _) hW gl0 
  refine z_callSN (As := [_]) eX10_isLetter sX10_isLetter lX9_175 dX9_isNameBegin_1 hX0 (Nat.le_trans (by decide) hd) rfl (Nat.le_of_ble_eq_true rfl) (fun r cs1 hp => ?_)
  obtain ⟨hcs, r2, rfl, gr2, n1_0⟩ := hp
  obtain rfl := hcs.symm
  refine z_st (st' := [.int (Int32.ofInt r2)]) rfl ?_
  refine i_if_ne (tgt := 13) dX9_isNameBegin_4 (by decide) gr2 (fun h3 => ?_) (fun h3 => ?_)
  · refine z_iconst (v := Int32.ofInt 1) dX9_isNameBegin_13 rfl ?_
    refine z_goto (tgt := 18) dX9_isNameBegin_14 (by decide) ?_
    exact z_ireturn dX9_isNameBegin_18 rfl (nar01 (b01 ⟨by decide, by decide⟩)) (hP _ (show rng 1 from ⟨by decide, by decide⟩) (by omega))
  · refine z_iload_n dX9_isNameBegin_7 rfl rfl ?_
    refine z_bipush (v := Int32.ofInt 95) dX9_isNameBegin_8 (by decide) ?_
    refine i_icmp_ne (tgt := 17) dX9_isNameBegin_10 (by decide) gl0 (show rng 95 from ⟨by decide, by decide⟩) (fun h4 => ?_) (fun h4 => ?_)
    · refine z_iconst (v := Int32.ofInt 0) dX9_isNameBegin_17 rfl ?_
      exact z_ireturn dX9_isNameBegin_18 rfl (nar01 (b01 ⟨by decide, by decide⟩)) (hP _ (show rng 0 from ⟨by decide, by decide⟩) (by omega))
    · refine z_iconst (v := Int32.ofInt 1) dX9_isNameBegin_13 rfl ?_
      refine z_goto (tgt := 18) dX9_isNameBegin_14 (by decide) ?_
      exact z_ireturn dX9_isNameBegin_18 rfl (nar01 (b01 ⟨by decide, by decide⟩)) (hP _ (show rng 1 from ⟨by decide, by decide⟩) (by omega))

set_option maxRecDepth 100000 in
set_option maxHeartbeats 4000000 in
theorem kX9_isNameSign {G : xG} {B : Nat × Nat} {τ : Tau} {cs : List va_E} {l0 : Int} (d : Nat) (hd : 1 ≤ d) (hW : WT G B τ cs) (gl0 : rng l0)  : X G yX9_isNameSign cX9_isNameSign 1 (some .boolean) d [.int (Int32.ofInt l0)] cs (rI cs (fun r => (iv 0 1 r))) := by
  refine X.of false (by decide +kernel) (by decide) (Nat.le_of_ble_eq_true rfl) ?_
  show Z (RX9, cX9_isNameSign, 1, some .boolean, false) G d _ 0 [(0, .int (Int32.ofInt l0))] [] cs
  have hP : ∀ r : Int, rng r → ((iv 0 1 r)) → rI cs (fun r => (iv 0 1 r)) (some (.int (Int32.ofInt r))) cs := fun r h1 h2 => ⟨rfl, r, rfl, h1, h2⟩
  refine z_iload_n dX9_isNameSign_0 rfl rfl ?_
  have hX0 := kX10_isLetter 0 (Nat.le_refl _) hW gl0 
  refine z_callSN (As := [_]) eX10_isLetter sX10_isLetter lX9_175 dX9_isNameSign_1 hX0 (Nat.le_trans (by decide) hd) rfl (Nat.le_of_ble_eq_true rfl) (fun r cs1 hp => ?_)
  obtain ⟨hcs, r2, rfl, gr2, n1_0⟩ := hp
  obtain rfl := hcs.symm
  refine z_st (st' := [.int (Int32.ofInt r2)]) rfl ?_
  refine i_if_ne (tgt := 32) dX9_isNameSign_4 (by decide) gr2 (fun h3 => ?_) (fun h3 => ?_)
  · refine z_iconst (v := Int32.ofInt 1) dX9_isNameSign_32 rfl ?_
    refine z_goto (tgt := 37) dX9_isNameSign_33 (by decide) ?_
    exact z_ireturn dX9_isNameSign_37 rfl (nar01 (b01 ⟨by decide, by decide⟩)) (hP _ (show rng 1 from ⟨by decide, by decide⟩) (by omega))
  · refine z_iload_n dX9_isNameSign_7 rfl rfl ?_
    have hX0 := kX10_isDigit 0 (Nat.le_refl _) hW gl0 
    refine z_callSN (As := [_]) eX10_isDigit sX10_isDigit lX9_178 dX9_isNameSign_8 hX0 (Nat.le_trans (by decide) hd) rfl (Nat.le_of_ble_eq_true rfl) (fun r cs1 hp => ?_)
    obtain ⟨hcs, r5, rfl, gr5, n4_0⟩ := hp
    obtain rfl := hcs.symm
    refine z_st (st' := [.int (Int32.ofInt r5)]) rfl ?_
    refine i_if_ne (tgt := 32) dX9_isNameSign_11 (by decide) gr5 (fun h6 => ?_) (fun h6 => ?_)
    · refine z_iconst (v := Int32.ofInt 1) dX9_isNameSign_32 rfl ?_
      refine z_goto (tgt := 37) dX9_isNameSign_33 (by decide) ?_
      exact z_ireturn dX9_isNameSign_37 rfl (nar01 (b01 ⟨by decide, by decide⟩)) (hP _ (show rng 1 from ⟨by decide, by decide⟩) (by omega))
    · refine z_iload_n dX9_isNameSign_14 rfl rfl ?_
      refine z_bipush (v := Int32.ofInt 95) dX9_isNameSign_15 (by decide) ?_
      refine i_icmp_eq (tgt := 32) dX9_isNameSign_17 (by decide) gl0 (show rng 95 from ⟨by decide, by decide⟩) (fun h7 => ?_) (fun h7 => ?_)
      · refine z_iconst (v := Int32.ofInt 1) dX9_isNameSign_32 rfl ?_
        refine z_goto (tgt := 37) dX9_isNameSign_33 (by decide) ?_
        exact z_ireturn dX9_isNameSign_37 rfl (nar01 (b01 ⟨by decide, by decide⟩)) (hP _ (show rng 1 from ⟨by decide, by decide⟩) (by omega))
      · refine z_iload_n dX9_isNameSign_20 rfl rfl ?_
        refine z_bipush (v := Int32.ofInt 45) dX9_isNameSign_21 (by decide) ?_
        refine i_icmp_eq (tgt := 32) dX9_isNameSign_23 (by decide) gl0 (show rng 45 from ⟨by decide, by decide⟩) (fun h8 => ?_) (fun h8 => ?_)
        · refine z_iconst (v := Int32.ofInt 1) dX9_isNameSign_32 rfl ?_
          refine z_goto (tgt := 37) dX9_isNameSign_33 (by decide) ?_
          exact z_ireturn dX9_isNameSign_37 rfl (nar01 (b01 ⟨by decide, by decide⟩)) (hP _ (show rng 1 from ⟨by decide, by decide⟩) (by omega))
        · refine z_iload_n dX9_isNameSign_26 rfl rfl ?_
          refine z_bipush (v := Int32.ofInt 46) dX9_isNameSign_27 (by decide) ?_
          refine i_icmp_ne (tgt := 36) dX9_isNameSign_29 (by decide) gl0 (show rng 46 from ⟨by decide, by decide⟩) (fun h9 => ?_) (fun h9 => ?_)
          · refine z_iconst (v := Int32.ofInt 0) dX9_isNameSign_36 rfl ?_
            exact z_ireturn dX9_isNameSign_37 rfl (nar01 (b01 ⟨by decide, by decide⟩)) (hP _ (show rng 0 from ⟨by decide, by decide⟩) (by omega))
          · refine z_iconst (v := Int32.ofInt 1) dX9_isNameSign_32 rfl ?_
            refine z_goto (tgt := 37) dX9_isNameSign_33 (by decide) ?_
            exact z_ireturn dX9_isNameSign_37 rfl (nar01 (b01 ⟨by decide, by decide⟩)) (hP _ (show rng 1 from ⟨by decide, by decide⟩) (by omega))

set_option maxRecDepth 100000 in
set_option maxHeartbeats 4000000 in
theorem eX9_skipName_18 {G : xG} {d : Nat} {Post : xP} {B : Nat × Nat} {τ0 τ : Tau} {c0 cs : List va_E} {a0 pa0 : Nat} {n18 : Nat} (hd : 2 ≤ d) (hW : WT G B τ cs) (hX : Fx [9] τ0 c0 τ cs) (ga0 : τ a0 = some (.inl (9, pa0)))   (hP : ∀ (τ1 : Tau) (c1 : List va_E), WT G B τ1 c1 → Fx [9] τ0 c0 τ1 c1 → Post none c1)  (ih_18 : ∀ {τ : Tau} {cs : List va_E} {a0 pa0 : Nat} (hW : WT G B τ cs) (hX : Fx [9] τ0 c0 τ cs) (ga0 : τ a0 = some (.inl (9, pa0)))  , (3001 - fld cs a0 3).toNat < n18 → Z (RX9, cX9_skipName, 1, none, false) G d Post 18 [(0, .ref (G.1 + a0))] [] cs) (hm_18 : (3001 - fld cs a0 3).toNat < n18 + 1) : Z (RX9, cX9_skipName, 1, none, false) G d Post 18 [(0, .ref (G.1 + a0))] [] cs := by
  refine z_aload_n dX9_skipName_18 rfl rfl ?_
  refine tw_getI hW ga0 (by decide) (by decide) rfl kX9 fX9_9 dX9_skipName_19 (fun x1 qx1 vx1 gx1 => ?_)
  refine z_aload_n dX9_skipName_22 rfl rfl ?_
  refine tw_getO hW ga0 (by decide) (by decide) rfl kX9 fX9_24 dX9_skipName_23 (fun b2 pb2 gb2 => ?_)
  have gb2 : oT τ b2 5 := ⟨_, gb2⟩
  have hX0 := kX5_length 0 (Nat.le_refl _) hW gb2 
  refine z_callV (As := []) eX5_length sX5_length lX9_80 rfl dX9_skipName_26 (hW.os gb2).choose_spec hX0 (Nat.le_trans (by decide) hd) rfl (Nat.le_of_ble_eq_true rfl) (fun r cs1 hp => ?_)
  obtain ⟨hcs, r4, rfl, gr4, n3_0⟩ := hp
  obtain rfl := hcs.symm
  refine z_st (st' := [.int (Int32.ofInt r4), .int (Int32.ofInt x1)]) rfl ?_
  refine i_icmp_ge (tgt := 62) dX9_skipName_29 (by decide) gx1 gr4 (fun h5 => ?_) (fun h5 => ?_)
  · exact z_return dX9_skipName_62 rfl (hP _ _ hW hX)
  · refine z_aload_n dX9_skipName_32 rfl rfl ?_
    refine tw_getO hW ga0 (by decide) (by decide) rfl kX9 fX9_24 dX9_skipName_33 (fun b6 pb6 gb6 => ?_)
    have gb6 : oT τ b6 5 := ⟨_, gb6⟩
    refine z_aload_n dX9_skipName_36 rfl rfl ?_
    refine tw_getI hW ga0 (by decide) (by decide) rfl kX9 fX9_9 dX9_skipName_37 (fun x7 qx7 vx7 gx7 => ?_)
    have hX0 := kX5_at 0 (Nat.le_refl _) hW gb6 gx7 
    refine z_callV (As := [_]) eX5_at sX5_at lX9_47 rfl dX9_skipName_40 (hW.os gb6).choose_spec hX0 (Nat.le_trans (by decide) hd) rfl (Nat.le_of_ble_eq_true rfl) (fun r cs1 hp => ?_)
    obtain ⟨hcs, r9, rfl, gr9, n8_0⟩ := hp
    obtain rfl := hcs.symm
    refine z_st (st' := [.int (Int32.ofInt r9)]) rfl ?_
    have hX0 := kX9_isNameSign 1 (Nat.le_refl _) hW gr9 
    refine z_callS (As := [_]) eX9_isNameSign sX9_isNameSign lX9_172 dX9_skipName_43 hX0 (Nat.le_trans (by decide) hd) rfl (Nat.le_of_ble_eq_true rfl) (fun r cs1 hp => ?_)
    obtain ⟨hcs, r11, rfl, gr11, n10_0⟩ := hp
    obtain rfl := hcs.symm
    refine z_st (st' := [.int (Int32.ofInt r11)]) rfl ?_
    refine i_if_eq (tgt := 62) dX9_skipName_46 (by decide) gr11 (fun h12 => ?_) (fun h12 => ?_)
    · exact z_return dX9_skipName_62 rfl (hP _ _ hW hX)
    · refine z_aload_n dX9_skipName_49 rfl rfl ?_
      refine z_dup dX9_skipName_50 rfl ?_
      refine tw_getI hW ga0 (by decide) (by decide) rfl kX9 fX9_9 dX9_skipName_51 (fun x13 qx13 vx13 gx13 => ?_)
      refine z_iconst (v := Int32.ofInt 1) dX9_skipName_54 rfl ?_
      refine tw_iadd dX9_skipName_55 (fun z14 gz14 ez14 => ?_)
      first | have ez14 := ez14 ⟨by omega, by omega⟩ | clear ez14
      refine tw_putI hW hX ga0 (by decide) (by decide) rfl kX9 fX9_9 dX9_skipName_56 rfl rfl rfl (any_ok _) (by decide) (fun c1 q _ _ => nT hW ga0 (by decide) c1 q) (fun cs hW hX f15 _ _ => ?_)
      rw [rng_toInt gz14] at f15
      refine z_goto (tgt := 18) dX9_skipName_59 (by decide) ?_
      refine z_loc (L' := [(0, .ref (G.1 + a0))]) (List.forall_mem_cons.mpr ⟨rfl, (fun _ h => nomatch h)⟩) ?_
      exact ih_18 hW hX ga0   (by omega)
set_option maxRecDepth 100000 in
set_option maxHeartbeats 4000000 in
theorem bX9_skipName_18 {G : xG} {d : Nat} {Post : xP} {B : Nat × Nat} {τ0 τ : Tau} {c0 cs : List va_E} {a0 pa0 : Nat} (hd : 2 ≤ d) (hW : WT G B τ cs) (hX : Fx [9] τ0 c0 τ cs) (ga0 : τ a0 = some (.inl (9, pa0)))   (hP : ∀ (τ1 : Tau) (c1 : List va_E), WT G B τ1 c1 → Fx [9] τ0 c0 τ1 c1 → Post none c1)  : Z (RX9, cX9_skipName, 1, none, false) G d Post 18 [(0, .ref (G.1 + a0))] [] cs := by
  have key : ∀ (n : Nat) (τ : Tau) (cs : List va_E) (a0 pa0 : Nat) (hW : WT G B τ cs) (hX : Fx [9] τ0 c0 τ cs) (ga0 : τ a0 = some (.inl (9, pa0)))  , (3001 - fld cs a0 3).toNat < n → Z (RX9, cX9_skipName, 1, none, false) G d Post 18 [(0, .ref (G.1 + a0))] [] cs := by
    intro n
    induction n with
    | zero => intro τ cs a0 pa0 hW hX ga0 hm; exact absurd hm (Nat.not_lt_zero _)
    | succ n ih =>
      intro τ cs a0 pa0 hW hX ga0 hm
      exact eX9_skipName_18 hd hW hX ga0 hP  (fun hW hX ga0 hm => ih _ _ _ _ hW hX ga0 hm) hm
  exact key _ _ _ _ _ hW hX ga0 (Nat.lt_succ_self _)
set_option maxRecDepth 100000 in
set_option maxHeartbeats 4000000 in
theorem kX9_skipName {G : xG} {B : Nat × Nat} {τ : Tau} {cs : List va_E} {a0 pa0 : Nat} (d : Nat) (hd : 2 ≤ d) (hW : WT G B τ cs) (ga0 : τ a0 = some (.inl (9, pa0)))  : X G yX9_skipName cX9_skipName 1 none d [.ref (G.1 + a0)] cs (wN G B τ cs [9]) := by
  refine X.of false (by decide +kernel) (by decide) (Nat.le_of_ble_eq_true rfl) ?_
  show Z (RX9, cX9_skipName, 1, none, false) G d _ 0 [(0, .ref (G.1 + a0))] [] cs
  have hP : ∀ (τ1 : Tau) (c1 : List va_E), WT G B τ1 c1 → Fx [9] τ cs τ1 c1 → wN G B τ cs [9] none c1 := fun τ1 c1 h1 h2 => ⟨τ1, rfl, h1, h2⟩
  have hX : Fx [9] τ cs τ cs := Fx.rf
  skip
  refine z_aload_n dX9_skipName_0 rfl rfl ?_
  refine tw_getO hW ga0 (by decide) (by decide) rfl kX9 fX9_24 dX9_skipName_1 (fun b1 pb1 gb1 => ?_)
  have gb1 : oT τ b1 5 := ⟨_, gb1⟩
  refine z_aload_n dX9_skipName_4 rfl rfl ?_
  refine tw_getI hW ga0 (by decide) (by decide) rfl kX9 fX9_9 dX9_skipName_5 (fun x2 qx2 vx2 gx2 => ?_)
  have hX0 := kX5_at 0 (Nat.le_refl _) hW gb1 gx2 
  refine z_callV (As := [_]) eX5_at sX5_at lX9_47 rfl dX9_skipName_8 (hW.os gb1).choose_spec hX0 (Nat.le_trans (by decide) hd) rfl (Nat.le_of_ble_eq_true rfl) (fun r cs1 hp => ?_)
  obtain ⟨hcs, r4, rfl, gr4, n3_0⟩ := hp
  obtain rfl := hcs.symm
  refine z_st (st' := [.int (Int32.ofInt r4)]) rfl ?_
  have hX0 := kX9_isNameBegin 1 (Nat.le_refl _) hW gr4 
  refine z_callS (As := [_]) eX9_isNameBegin sX9_isNameBegin lX9_101 dX9_skipName_11 hX0 (Nat.le_trans (by decide) hd) rfl (Nat.le_of_ble_eq_true rfl) (fun r cs1 hp => ?_)
  obtain ⟨hcs, r6, rfl, gr6, n5_0⟩ := hp
  obtain rfl := hcs.symm
  refine z_st (st' := [.int (Int32.ofInt r6)]) rfl ?_
  refine i_if_ne (tgt := 18) dX9_skipName_14 (by decide) gr6 (fun h7 => ?_) (fun h7 => ?_)
  · refine z_loc (L' := [(0, .ref (G.1 + a0))]) (List.forall_mem_cons.mpr ⟨rfl, (fun _ h => nomatch h)⟩) ?_
    exact bX9_skipName_18 hd hW hX ga0   hP 
  · exact z_return dX9_skipName_17 rfl (hP _ _ hW hX)

set_option maxRecDepth 100000 in
set_option maxHeartbeats 4000000 in
theorem kX9_endTag {G : xG} {B : Nat × Nat} {τ : Tau} {cs : List va_E} {a0 pa0 : Nat} (d : Nat) (hd : 3 ≤ d) (hW : WT G B τ cs) (ga0 : τ a0 = some (.inl (9, pa0)))  : X G yX9_endTag cX9_endTag 2 none d [.ref (G.1 + a0)] cs (wN G B τ cs [9]) := by
  refine X.of false (by decide +kernel) (by decide) (Nat.le_of_ble_eq_true rfl) ?_
  show Z (RX9, cX9_endTag, 2, none, false) G d _ 0 [(0, .ref (G.1 + a0))] [] cs
  have hP : ∀ (τ1 : Tau) (c1 : List va_E), WT G B τ1 c1 → Fx [9] τ cs τ1 c1 → wN G B τ cs [9] none c1 := fun τ1 c1 h1 h2 => ⟨τ1, rfl, h1, h2⟩
  have hX : Fx [9] τ cs τ cs := Fx.rf
  skip
  refine z_aload_n dX9_endTag_0 rfl rfl ?_
  refine z_dup dX9_endTag_1 rfl ?_
  refine tw_getI hW ga0 (by decide) (by decide) rfl kX9 fX9_9 dX9_endTag_2 (fun x1 _ vx1 gx1 => ?_)
  refine z_iconst (v := Int32.ofInt 2) dX9_endTag_5 rfl ?_
  refine tw_iadd dX9_endTag_6 (fun z2 gz2 ez2 => ?_)
  first | have ez2 := ez2 ⟨by omega, by omega⟩ | clear ez2
  refine tw_putI hW hX ga0 (by decide) (by decide) rfl kX9 fX9_9 dX9_endTag_7 rfl rfl rfl (any_ok _) (by decide) (fun c1 q _ _ => nT hW ga0 (by decide) c1 q) (fun cs hW hX _ _ _ => ?_)
  refine z_aload_n dX9_endTag_10 rfl rfl ?_
  refine tw_getI hW ga0 (by decide) (by decide) rfl kX9 fX9_9 dX9_endTag_11 (fun x4 _ vx4 gx4 => ?_)
  refine z_istore_n dX9_endTag_14 rfl (by decide) ?_
  refine z_loc (L' := [(0, .ref (G.1 + a0)), (1, .int (Int32.ofInt x4))]) (List.forall_mem_cons.mpr ⟨rfl, (List.forall_mem_cons.mpr ⟨rfl, (fun _ h => nomatch h)⟩)⟩) ?_
  refine z_aload_n dX9_endTag_15 rfl rfl ?_
  have hX0 := kX9_skipName 2 (Nat.le_refl _) hW ga0 
  refine z_callV (As := []) eX9_skipName sX9_skipName lX9_83 rfl dX9_endTag_16 (hW.ob ga0 (by decide)).choose_spec hX0 (Nat.le_trans (by decide) hd) rfl (Nat.le_of_ble_eq_true rfl) (fun r cs hp => ?_)
  obtain ⟨τ, rfl, hW, k7⟩ := hp
  have hX := hX.tr k7 (by decide)
  have ga0 := k7.1.e ga0 (by decide)
  clear hX0
  refine z_st (st' := []) rfl ?_
  refine z_aload_n dX9_endTag_19 rfl rfl ?_
  refine tw_getI hW ga0 (by decide) (by decide) rfl kX9 fX9_9 dX9_endTag_20 (fun x8 _ vx8 gx8 => ?_)
  refine z_iload_n dX9_endTag_23 rfl rfl ?_
  refine i_icmp_ne (tgt := 36) dX9_endTag_24 (by decide) gx8 gx4 (fun h9 => ?_) (fun h9 => ?_)
  · refine z_aload_n dX9_endTag_36 rfl rfl ?_
    refine tw_getO hW ga0 (by decide) (by decide) rfl kX9 fX9_28 dX9_endTag_37 (fun b10 pb10 gb10 => ?_)
    refine z_aload_n dX9_endTag_40 rfl rfl ?_
    refine tw_getI hW ga0 (by decide) (by decide) rfl kX9 fX9_15 dX9_endTag_41 (fun x11 _ vx11 gx11 => ?_)
    refine z_iload_n dX9_endTag_44 rfl rfl ?_
    refine z_aload_n dX9_endTag_45 rfl rfl ?_
    refine tw_getI hW ga0 (by decide) (by decide) rfl kX9 fX9_9 dX9_endTag_46 (fun x12 _ vx12 gx12 => ?_)
    have hX0 := kX6_isNamed 2 (Nat.le_refl _) hW gb10 gx11 gx4 gx12 
    refine z_callV (As := [_, _, _]) eX6_isNamed sX6_isNamed lX9_125 rfl dX9_endTag_49 (hW.ob gb10 (by decide)).choose_spec hX0 (Nat.le_trans (by decide) hd) rfl (Nat.le_of_ble_eq_true rfl) (fun r cs1 hp => ?_)
    obtain ⟨hcs, r14, rfl, gr14, n13_0⟩ := hp
    obtain rfl := hcs.symm
    refine z_st (st' := [.int (Int32.ofInt r14)]) rfl ?_
    refine i_if_ne (tgt := 61) dX9_endTag_52 (by decide) gr14 (fun h15 => ?_) (fun h15 => ?_)
    · refine z_aload_n dX9_endTag_61 rfl rfl ?_
      have hX0 := kX9_skipBlanks 1 (Nat.le_refl _) hW ga0 
      refine z_callV (As := []) eX9_skipBlanks sX9_skipBlanks lX9_44 rfl dX9_endTag_62 (hW.ob ga0 (by decide)).choose_spec hX0 (Nat.le_trans (by decide) hd) rfl (Nat.le_of_ble_eq_true rfl) (fun r cs hp => ?_)
      obtain ⟨τ, rfl, hW, k18⟩ := hp
      have hX := hX.tr k18 (by decide)
      have ga0 := k18.1.e ga0 (by decide)
      clear hX0
      refine z_st (st' := []) rfl ?_
      refine z_aload_n dX9_endTag_65 rfl rfl ?_
      refine tw_getO hW ga0 (by decide) (by decide) rfl kX9 fX9_24 dX9_endTag_66 (fun b19 pb19 gb19 => ?_)
      have gb19 : oT τ b19 5 := ⟨_, gb19⟩
      refine z_aload_n dX9_endTag_69 rfl rfl ?_
      refine tw_getI hW ga0 (by decide) (by decide) rfl kX9 fX9_9 dX9_endTag_70 (fun x20 _ vx20 gx20 => ?_)
      have hX0 := kX5_at 0 (Nat.le_refl _) hW gb19 gx20 
      refine z_callV (As := [_]) eX5_at sX5_at lX9_47 rfl dX9_endTag_73 (hW.os gb19).choose_spec hX0 (Nat.le_trans (by decide) hd) rfl (Nat.le_of_ble_eq_true rfl) (fun r cs1 hp => ?_)
      obtain ⟨hcs, r22, rfl, gr22, n21_0⟩ := hp
      obtain rfl := hcs.symm
      refine z_st (st' := [.int (Int32.ofInt r22)]) rfl ?_
      refine z_bipush (v := Int32.ofInt 62) dX9_endTag_76 (by decide) ?_
      refine i_icmp_eq (tgt := 90) dX9_endTag_78 (by decide) gr22 (show rng 62 from ⟨by decide, by decide⟩) (fun h23 => ?_) (fun h23 => ?_)
      · refine z_aload_n dX9_endTag_90 rfl rfl ?_
        refine z_dup dX9_endTag_91 rfl ?_
        refine tw_getI hW ga0 (by decide) (by decide) rfl kX9 fX9_9 dX9_endTag_92 (fun x24 _ vx24 gx24 => ?_)
        refine z_iconst (v := Int32.ofInt 1) dX9_endTag_95 rfl ?_
        refine tw_iadd dX9_endTag_96 (fun z25 gz25 ez25 => ?_)
        first | have ez25 := ez25 ⟨by omega, by omega⟩ | clear ez25
        refine tw_putI hW hX ga0 (by decide) (by decide) rfl kX9 fX9_9 dX9_endTag_97 rfl rfl rfl (any_ok _) (by decide) (fun c1 q _ _ => nT hW ga0 (by decide) c1 q) (fun cs hW hX _ _ _ => ?_)
        refine z_aload_n dX9_endTag_100 rfl rfl ?_
        refine z_aload_n dX9_endTag_101 rfl rfl ?_
        refine tw_getO hW ga0 (by decide) (by decide) rfl kX9 fX9_28 dX9_endTag_102 (fun b27 pb27 gb27 => ?_)
        refine z_aload_n dX9_endTag_105 rfl rfl ?_
        refine tw_getI hW ga0 (by decide) (by decide) rfl kX9 fX9_15 dX9_endTag_106 (fun x28 _ vx28 gx28 => ?_)
        have hX0 := kX6_parent 1 (Nat.le_refl _) hW gb27 gx28 
        refine z_callV (As := [_]) eX6_parent sX6_parent lX9_128 rfl dX9_endTag_109 (hW.ob gb27 (by decide)).choose_spec hX0 (Nat.le_trans (by decide) hd) rfl (Nat.le_of_ble_eq_true rfl) (fun r cs1 hp => ?_)
        obtain ⟨hcs, r30, rfl, gr30, n29_0⟩ := hp
        obtain rfl := hcs.symm
        refine z_st (st' := [.int (Int32.ofInt r30), .ref (G.1 + a0)]) rfl ?_
        refine tw_putI hW hX ga0 (by decide) (by decide) rfl kX9 fX9_15 dX9_endTag_112 rfl rfl rfl (iv_ok (by omega) (by decide) (by decide)) (by decide) (fun c1 q _ _ => nT hW ga0 (by decide) c1 q) (fun cs hW hX _ _ _ => ?_)
        refine z_aload_n dX9_endTag_115 rfl rfl ?_
        refine z_dup dX9_endTag_116 rfl ?_
        refine tw_getI hW ga0 (by decide) (by decide) rfl kX9 fX9_18 dX9_endTag_117 (fun x32 _ vx32 gx32 => ?_)
        refine z_iconst (v := Int32.ofInt 1) dX9_endTag_120 rfl ?_
        refine tw_isub dX9_endTag_121 (fun z33 gz33 ez33 => ?_)
        first | have ez33 := ez33 ⟨by omega, by omega⟩ | clear ez33
        refine tw_putI hW hX ga0 (by decide) (by decide) rfl kX9 fX9_18 dX9_endTag_122 rfl rfl rfl (any_ok _) (by decide) (fun c1 q _ _ => nT hW ga0 (by decide) c1 q) (fun cs hW hX _ _ _ => ?_)
        exact z_return dX9_endTag_125 rfl (hP _ _ hW hX)
      · refine z_aload_n dX9_endTag_81 rfl rfl ?_
        refine z_aload_n dX9_endTag_82 rfl rfl ?_
        refine tw_getI hW ga0 (by decide) (by decide) rfl kX9 fX9_9 dX9_endTag_83 (fun x35 _ vx35 gx35 => ?_)
        refine tw_putI hW hX ga0 (by decide) (by decide) rfl kX9 fX9_21 dX9_endTag_86 rfl rfl rfl (any_ok _) (by decide) (fun c1 q _ _ => nT hW ga0 (by decide) c1 q) (fun cs hW hX _ _ _ => ?_)
        exact z_return dX9_endTag_89 rfl (hP _ _ hW hX)
    · refine z_aload_n dX9_endTag_55 rfl rfl ?_
      refine z_iload_n dX9_endTag_56 rfl rfl ?_
      refine tw_putI hW hX ga0 (by decide) (by decide) rfl kX9 fX9_21 dX9_endTag_57 rfl rfl rfl (any_ok _) (by decide) (fun c1 q _ _ => nT hW ga0 (by decide) c1 q) (fun cs hW hX _ _ _ => ?_)
      exact z_return dX9_endTag_60 rfl (hP _ _ hW hX)
  · refine z_aload_n dX9_endTag_27 rfl rfl ?_
    refine z_aload_n dX9_endTag_28 rfl rfl ?_
    refine tw_getI hW ga0 (by decide) (by decide) rfl kX9 fX9_9 dX9_endTag_29 (fun x38 _ vx38 gx38 => ?_)
    refine tw_putI hW hX ga0 (by decide) (by decide) rfl kX9 fX9_21 dX9_endTag_32 rfl rfl rfl (any_ok _) (by decide) (fun c1 q _ _ => nT hW ga0 (by decide) c1 q) (fun cs hW hX _ _ _ => ?_)
    exact z_return dX9_endTag_35 rfl (hP _ _ hW hX)

set_option maxRecDepth 100000 in
set_option maxHeartbeats 4000000 in
theorem kX6_begin {G : xG} {B : Nat × Nat} {τ : Tau} {cs : List va_E} {a0 pa0 : Nat} {l1 : Int} {l2 : Int} {l3 : Int} (d : Nat) (hd : 1 ≤ d) (hW : WT G B τ cs) (ga0 : τ a0 = some (.inl (6, pa0))) (gl1 : rng l1) (gl2 : rng l2) (gl3 : rng l3) (p0 : iv (-1) 199 l3) : X G yX6_begin cX6_begin 4 (some .int) d [.ref (G.1 + a0), .int (Int32.ofInt l1), .int (Int32.ofInt l2), .int (Int32.ofInt l3)] cs (wI G B τ cs [6] (fun r => (iv (-1) 199 r))) := by
  refine X.of false (by decide +kernel) (by decide) (Nat.le_of_ble_eq_true rfl) ?_
  show Z (RX6, cX6_begin, 4, some .int, false) G d _ 0 [(0, .ref (G.1 + a0)), (1, .int (Int32.ofInt l1)), (2, .int (Int32.ofInt l2)), (3, .int (Int32.ofInt l3))] [] cs
  have hP : ∀ (τ1 : Tau) (c1 : List va_E) (r : Int), WT G B τ1 c1 → Fx [6] τ cs τ1 c1 → rng r → ((iv (-1) 199 r)) → wI G B τ cs [6] (fun r => (iv (-1) 199 r)) (some (.int (Int32.ofInt r))) c1 := fun τ1 c1 r h1 h2 h3 h4 => ⟨τ1, r, rfl, h3, h1, h2, h4⟩
  have hX : Fx [6] τ cs τ cs := Fx.rf
  skip
  refine z_aload_n dX6_begin_0 rfl rfl ?_
  refine tw_getI hW ga0 (by decide) (by decide) rfl kX6 fX6_65 dX6_begin_1 (fun x1 qx1 vx1 gx1 => ?_)
  refine z_sipush (v := Int32.ofInt 200) dX6_begin_4 (by decide) ?_
  refine i_icmp_lt (tgt := 12) dX6_begin_7 (by decide) gx1 (show rng 200 from ⟨by decide, by decide⟩) (fun h2 => ?_) (fun h2 => ?_)
  · refine z_aload_n dX6_begin_12 rfl rfl ?_
    refine tw_getA hW ga0 (by decide) (by decide) rfl kX6 fX6_21 dX6_begin_13 (fun b3 _ gb3 => ?_)
    refine z_aload_n dX6_begin_16 rfl rfl ?_
    refine tw_getI hW ga0 (by decide) (by decide) rfl kX6 fX6_65 dX6_begin_17 (fun x4 qx4 vx4 gx4 => ?_)
    refine z_iload_n dX6_begin_20 rfl rfl ?_
    refine tw_iast hW hX gb3 (by omega) (by omega) (any_ok _) (Or.inl rfl) dX6_begin_21 (fun c1 q _ => nA hW gb3 (show (2147483647 : Int) ≠ 600 by decide) (show (2147483647 : Int) ≠ 601 by decide) c1 q) (fun cs hW hX hfr _ => ?_)
    have f5 := fld_fr (k := 16) hfr ga0 gb3
    have f6 := fld_fr (k := 17) hfr ga0 gb3
    clear hfr
    refine z_aload_n dX6_begin_22 rfl rfl ?_
    refine tw_getA hW ga0 (by decide) (by decide) rfl kX6 fX6_25 dX6_begin_23 (fun b7 _ gb7 => ?_)
    refine z_aload_n dX6_begin_26 rfl rfl ?_
    refine tw_getI hW ga0 (by decide) (by decide) rfl kX6 fX6_65 dX6_begin_27 (fun x8 qx8 vx8 gx8 => ?_)
    refine z_iload_n dX6_begin_30 rfl rfl ?_
    refine z_iconst (v := Int32.ofInt 1) dX6_begin_31 rfl ?_
    refine tw_iadd dX6_begin_32 (fun z9 gz9 ez9 => ?_)
    first | have ez9 := ez9 ⟨by omega, by omega⟩ | clear ez9
    refine tw_iast hW hX gb7 (by omega) (by omega) (any_ok _) (Or.inl rfl) dX6_begin_33 (fun c1 q _ => nA hW gb7 (show (2147483647 : Int) ≠ 600 by decide) (show (2147483647 : Int) ≠ 601 by decide) c1 q) (fun cs hW hX hfr _ => ?_)
    have f10 := fld_fr (k := 16) hfr ga0 gb7
    have f11 := fld_fr (k := 17) hfr ga0 gb7
    clear hfr
    refine z_aload_n dX6_begin_34 rfl rfl ?_
    refine tw_getA hW ga0 (by decide) (by decide) rfl kX6 fX6_28 dX6_begin_35 (fun b12 _ gb12 => ?_)
    refine z_aload_n dX6_begin_38 rfl rfl ?_
    refine tw_getI hW ga0 (by decide) (by decide) rfl kX6 fX6_65 dX6_begin_39 (fun x13 qx13 vx13 gx13 => ?_)
    refine z_iload_n dX6_begin_42 rfl rfl ?_
    refine tw_iast hW hX gb12 (by omega) (by omega) (any_ok _) (Or.inl rfl) dX6_begin_43 (fun c1 q _ => nA hW gb12 (show (2147483647 : Int) ≠ 600 by decide) (show (2147483647 : Int) ≠ 601 by decide) c1 q) (fun cs hW hX hfr _ => ?_)
    have f14 := fld_fr (k := 16) hfr ga0 gb12
    have f15 := fld_fr (k := 17) hfr ga0 gb12
    clear hfr
    refine z_aload_n dX6_begin_44 rfl rfl ?_
    refine tw_getA hW ga0 (by decide) (by decide) rfl kX6 fX6_31 dX6_begin_45 (fun b16 _ gb16 => ?_)
    refine z_aload_n dX6_begin_48 rfl rfl ?_
    refine tw_getI hW ga0 (by decide) (by decide) rfl kX6 fX6_65 dX6_begin_49 (fun x17 qx17 vx17 gx17 => ?_)
    refine z_iload_n dX6_begin_52 rfl rfl ?_
    refine tw_iast hW hX gb16 (by omega) (by omega) (iv_ok (by omega) (by decide) (by decide)) (Or.inl rfl) dX6_begin_53 (fun c1 q _ => nA hW gb16 (show (199 : Int) ≠ 600 by decide) (show (199 : Int) ≠ 601 by decide) c1 q) (fun cs hW hX hfr _ => ?_)
    have f18 := fld_fr (k := 16) hfr ga0 gb16
    have f19 := fld_fr (k := 17) hfr ga0 gb16
    clear hfr
    refine z_aload_n dX6_begin_54 rfl rfl ?_
    refine tw_getA hW ga0 (by decide) (by decide) rfl kX6 fX6_34 dX6_begin_55 (fun b20 _ gb20 => ?_)
    refine z_aload_n dX6_begin_58 rfl rfl ?_
    refine tw_getI hW ga0 (by decide) (by decide) rfl kX6 fX6_65 dX6_begin_59 (fun x21 qx21 vx21 gx21 => ?_)
    refine z_iconst (v := Int32.ofInt 0) dX6_begin_62 rfl ?_
    refine tw_iast hW hX gb20 (by omega) (by omega) (any_ok _) (Or.inl rfl) dX6_begin_63 (fun c1 q _ => nA hW gb20 (show (2147483647 : Int) ≠ 600 by decide) (show (2147483647 : Int) ≠ 601 by decide) c1 q) (fun cs hW hX hfr _ => ?_)
    have f22 := fld_fr (k := 16) hfr ga0 gb20
    have f23 := fld_fr (k := 17) hfr ga0 gb20
    clear hfr
    refine z_aload_n dX6_begin_64 rfl rfl ?_
    refine tw_getA hW ga0 (by decide) (by decide) rfl kX6 fX6_37 dX6_begin_65 (fun b24 _ gb24 => ?_)
    refine z_aload_n dX6_begin_68 rfl rfl ?_
    refine tw_getI hW ga0 (by decide) (by decide) rfl kX6 fX6_65 dX6_begin_69 (fun x25 qx25 vx25 gx25 => ?_)
    refine z_aload_n dX6_begin_72 rfl rfl ?_
    refine tw_getI hW ga0 (by decide) (by decide) rfl kX6 fX6_69 dX6_begin_73 (fun x26 qx26 vx26 gx26 => ?_)
    refine tw_iast hW hX gb24 (by omega) (by omega) (iv_ok (by omega) (by decide) (by decide)) (Or.inl rfl) dX6_begin_76 (fun c1 q qe => by have hb : b24 = 11 := hW.2.1.2.2.1 _ gb24; subst hb; have h3 := hW.2.1.1 _ _ ga0; subst h3; exact TR_11 hW q qe (by omega)) (fun cs hW hX hfr hel => ?_)
    have f27 := fld_fr (k := 16) hfr ga0 gb24
    have f28 := fld_fr (k := 17) hfr ga0 gb24
    have t11 := hel x1 (by omega)
    rw [hW.2.1.2.2.1 _ gb24, rng_toInt gx26] at t11
    have t11 : elt cs 11 x1 = x26 := by omega
    clear hfr
    clear hel
    refine z_aload_n dX6_begin_77 rfl rfl ?_
    refine tw_getA hW ga0 (by decide) (by decide) rfl kX6 fX6_40 dX6_begin_78 (fun b29 _ gb29 => ?_)
    refine z_aload_n dX6_begin_81 rfl rfl ?_
    refine tw_getI hW ga0 (by decide) (by decide) rfl kX6 fX6_65 dX6_begin_82 (fun x30 qx30 vx30 gx30 => ?_)
    refine z_iconst (v := Int32.ofInt 0) dX6_begin_85 rfl ?_
    refine tw_iast hW hX gb29 (by omega) (by omega) (iv_ok (by omega) (by decide) (by decide)) (Or.inl rfl) dX6_begin_86 (fun c1 q qe => by have hb : b29 = 12 := hW.2.1.2.2.2.2.1 _ gb29; subst hb; have h3 := hW.2.1.1 _ _ ga0; subst h3; exact TR_12 hW q qe (Or.inl (by omega))) (fun cs hW hX hfr hel => ?_)
    have f31 := fld_fr (k := 16) hfr ga0 gb29
    have f32 := fld_fr (k := 17) hfr ga0 gb29
    have t12 := hel x1 (by omega)
    rw [hW.2.1.2.2.2.2.1 _ gb29] at t12
    have t12 : elt cs 12 x1 = 0 := by
      rcases t12 with q | q
      · rw [q.2]; rfl
      · exact absurd (by omega) q.1
    have t11 := (elt_c (i := x1) (hfr 11 (by rw [hW.2.1.2.2.2.2.1 _ gb29]; decide))).trans t11
    clear hfr
    clear hel
    refine z_aload_n dX6_begin_87 rfl rfl ?_
    refine tw_getA hW ga0 (by decide) (by decide) rfl kX6 fX6_49 dX6_begin_88 (fun b33 _ gb33 => ?_)
    refine z_aload_n dX6_begin_91 rfl rfl ?_
    refine tw_getI hW ga0 (by decide) (by decide) rfl kX6 fX6_65 dX6_begin_92 (fun x34 qx34 vx34 gx34 => ?_)
    refine z_iconst (v := Int32.ofInt 0) dX6_begin_95 rfl ?_
    refine tw_zast hW hX gb33 (by omega) (by omega) (bool_ok ⟨by decide, by decide⟩) (Or.inl rfl) dX6_begin_96 (fun c1 q _ => nA hW gb33 (show (1 : Int) ≠ 600 by decide) (show (1 : Int) ≠ 601 by decide) c1 q) (fun cs hW hX hfr hel => ?_)
    have f35 := fld_fr (k := 16) hfr ga0 gb33
    have f36 := fld_fr (k := 17) hfr ga0 gb33
    have t11 : elt cs 11 x1 = _ := (elt_c (hfr 11 (by have := hW.2.1.2.2.2.1; intro e; rw [e] at this; rw [this] at gb33; exact absurd gb33 (by decide)))).trans t11
    have t12 : elt cs 12 x1 = _ := (elt_c (hfr 12 (by have := hW.2.1.2.2.2.2.2.1; intro e; rw [e] at this; rw [this] at gb33; exact absurd gb33 (by decide)))).trans t12
    clear hfr
    clear hel
    refine z_aload_n dX6_begin_97 rfl rfl ?_
    refine z_iload_n dX6_begin_98 rfl rfl ?_
    have hX0 := kX6_has 0 (Nat.le_refl _) hW ga0 gl3 
    refine z_callV (As := [_]) eX6_has sX6_has lX6_75 rfl dX6_begin_99 (hW.ob ga0 (by decide)).choose_spec hX0 (Nat.le_trans (by decide) hd) rfl (Nat.le_of_ble_eq_true rfl) (fun r cs1 hp => ?_)
    obtain ⟨hcs, r38, rfl, gr38, ⟨n37_0, n37_1, n37_2⟩⟩ := hp
    obtain rfl := hcs.symm
    refine z_st (st' := [.int (Int32.ofInt r38)]) rfl ?_
    refine i_if_eq (tgt := 115) dX6_begin_102 (by decide) gr38 (fun h39 => ?_) (fun h39 => ?_)
    · refine z_aload_n dX6_begin_115 rfl rfl ?_
      refine z_dup dX6_begin_116 rfl ?_
      refine tw_getI hW ga0 (by decide) (by decide) rfl kX6 fX6_65 dX6_begin_117 (fun x40 qx40 vx40 gx40 => ?_)
      refine z_iconst (v := Int32.ofInt 1) dX6_begin_120 rfl ?_
      refine tw_iadd dX6_begin_121 (fun z41 gz41 ez41 => ?_)
      first | have ez41 := ez41 ⟨by omega, by omega⟩ | clear ez41
      refine tw_putI hW hX ga0 (by decide) (by decide) rfl kX6 fX6_65 dX6_begin_122 rfl rfl rfl (iv_ok (by omega) (by decide) (by decide)) (by decide) (fun c1 q qj qv => TR_sz (x := x1) hW ga0 q qj (by omega) (by rw [qv, rng_toInt gz41]; omega) (by omega)) (fun cs hW hX f42 hfj _ => ?_)
      rw [rng_toInt gz41] at f42
      have f43 := hfj 17 (by decide)
      clear hfj
      refine z_aload_n dX6_begin_125 rfl rfl ?_
      refine tw_getI hW ga0 (by decide) (by decide) rfl kX6 fX6_65 dX6_begin_126 (fun x44 qx44 vx44 gx44 => ?_)
      refine z_iconst (v := Int32.ofInt 1) dX6_begin_129 rfl ?_
      refine tw_isub dX6_begin_130 (fun z45 gz45 ez45 => ?_)
      first | have ez45 := ez45 ⟨by omega, by omega⟩ | clear ez45
      exact z_ireturn dX6_begin_131 rfl rfl (hP _ _ _ hW hX gz45 (by omega))
    · refine z_aload_n dX6_begin_105 rfl rfl ?_
      refine tw_getA hW ga0 (by decide) (by decide) rfl kX6 fX6_34 dX6_begin_106 (fun b46 _ gb46 => ?_)
      refine z_iload_n dX6_begin_109 rfl rfl ?_
      refine z_dup2 dX6_begin_110 rfl rfl ?_
      refine tw_iald hW gb46 (by omega) (by omega) dX6_begin_111 (fun x47 _ vx47 gx47 => ?_)
      refine z_iconst (v := Int32.ofInt 1) dX6_begin_112 rfl ?_
      refine tw_iadd dX6_begin_113 (fun z48 gz48 ez48 => ?_)
      first | have ez48 := ez48 ⟨by omega, by omega⟩ | clear ez48
      refine tw_iast hW hX gb46 (by omega) (by omega) (any_ok _) (Or.inl rfl) dX6_begin_114 (fun c1 q _ => nA hW gb46 (show (2147483647 : Int) ≠ 600 by decide) (show (2147483647 : Int) ≠ 601 by decide) c1 q) (fun cs hW hX hfr hel => ?_)
      have f49 := fld_fr (k := 16) hfr ga0 gb46
      have f50 := fld_fr (k := 17) hfr ga0 gb46
      have t11 : elt cs 11 x1 = _ := (elt_c (hfr 11 (by have := hW.2.1.2.2.2.1; intro e; rw [e] at this; rw [this] at gb46; exact absurd gb46 (by decide)))).trans t11
      have t12 : elt cs 12 x1 = _ := (elt_c (hfr 12 (by have := hW.2.1.2.2.2.2.2.1; intro e; rw [e] at this; rw [this] at gb46; exact absurd gb46 (by decide)))).trans t12
      clear hfr
      clear hel
      refine z_aload_n dX6_begin_115 rfl rfl ?_
      refine z_dup dX6_begin_116 rfl ?_
      refine tw_getI hW ga0 (by decide) (by decide) rfl kX6 fX6_65 dX6_begin_117 (fun x51 qx51 vx51 gx51 => ?_)
      refine z_iconst (v := Int32.ofInt 1) dX6_begin_120 rfl ?_
      refine tw_iadd dX6_begin_121 (fun z52 gz52 ez52 => ?_)
      first | have ez52 := ez52 ⟨by omega, by omega⟩ | clear ez52
      refine tw_putI hW hX ga0 (by decide) (by decide) rfl kX6 fX6_65 dX6_begin_122 rfl rfl rfl (iv_ok (by omega) (by decide) (by decide)) (by decide) (fun c1 q qj qv => TR_sz (x := x1) hW ga0 q qj (by omega) (by rw [qv, rng_toInt gz52]; omega) (by omega)) (fun cs hW hX f53 hfj _ => ?_)
      rw [rng_toInt gz52] at f53
      have f54 := hfj 17 (by decide)
      clear hfj
      refine z_aload_n dX6_begin_125 rfl rfl ?_
      refine tw_getI hW ga0 (by decide) (by decide) rfl kX6 fX6_65 dX6_begin_126 (fun x55 qx55 vx55 gx55 => ?_)
      refine z_iconst (v := Int32.ofInt 1) dX6_begin_129 rfl ?_
      refine tw_isub dX6_begin_130 (fun z56 gz56 ez56 => ?_)
      first | have ez56 := ez56 ⟨by omega, by omega⟩ | clear ez56
      exact z_ireturn dX6_begin_131 rfl rfl (hP _ _ _ hW hX gz56 (by omega))
  · refine z_iconst (v := Int32.ofInt (-1)) dX6_begin_10 rfl ?_
    exact z_ireturn dX6_begin_11 rfl rfl (hP _ _ _ hW hX (show rng (-1) from ⟨by decide, by decide⟩) (by omega))

set_option maxRecDepth 100000 in
set_option maxHeartbeats 4000000 in
theorem kX6_beginText {G : xG} {B : Nat × Nat} {τ : Tau} {cs : List va_E} {a0 pa0 : Nat} {l1 : Int} (d : Nat) (hd : 1 ≤ d) (hW : WT G B τ cs) (ga0 : τ a0 = some (.inl (6, pa0))) (gl1 : rng l1)  : X G yX6_beginText cX6_beginText 2 none d [.ref (G.1 + a0), .int (Int32.ofInt l1)] cs (wN G B τ cs [6]) := by
  refine X.of false (by decide +kernel) (by decide) (Nat.le_of_ble_eq_true rfl) ?_
  show Z (RX6, cX6_beginText, 2, none, false) G d _ 0 [(0, .ref (G.1 + a0)), (1, .int (Int32.ofInt l1))] [] cs
  have hP : ∀ (τ1 : Tau) (c1 : List va_E), WT G B τ1 c1 → Fx [6] τ cs τ1 c1 → wN G B τ cs [6] none c1 := fun τ1 c1 h1 h2 => ⟨τ1, rfl, h1, h2⟩
  have hX : Fx [6] τ cs τ cs := Fx.rf
  skip
  refine z_aload_n dX6_beginText_0 rfl rfl ?_
  refine z_iload_n dX6_beginText_1 rfl rfl ?_
  have hX0 := kX6_has 0 (Nat.le_refl _) hW ga0 gl1 
  refine z_callV (As := [_]) eX6_has sX6_has lX6_75 rfl dX6_beginText_2 (hW.ob ga0 (by decide)).choose_spec hX0 (Nat.le_trans (by decide) hd) rfl (Nat.le_of_ble_eq_true rfl) (fun r cs1 hp => ?_)
  obtain ⟨hcs, r2, rfl, gr2, ⟨n1_0, n1_1, n1_2⟩⟩ := hp
  obtain rfl := hcs.symm
  refine z_st (st' := [.int (Int32.ofInt r2)]) rfl ?_
  refine i_if_eq (tgt := 34) dX6_beginText_5 (by decide) gr2 (fun h3 => ?_) (fun h3 => ?_)
  · exact z_return dX6_beginText_34 rfl (hP _ _ hW hX)
  · refine z_aload_n dX6_beginText_8 rfl rfl ?_
    refine tw_getA hW ga0 (by decide) (by decide) rfl kX6 fX6_43 dX6_beginText_9 (fun b4 _ gb4 => ?_)
    refine z_iload_n dX6_beginText_12 rfl rfl ?_
    refine z_aload_n dX6_beginText_13 rfl rfl ?_
    refine tw_getO hW ga0 (by decide) (by decide) rfl kX6 fX6_12 dX6_beginText_14 (fun b5 pb5 gb5 => ?_)
    have gb5 : oT τ b5 5 := ⟨_, gb5⟩
    have hX0 := kX5_length 0 (Nat.le_refl _) hW gb5 
    refine z_callV (As := []) eX5_length sX5_length lX6_79 rfl dX6_beginText_17 (hW.os gb5).choose_spec hX0 (Nat.le_trans (by decide) hd) rfl (Nat.le_of_ble_eq_true rfl) (fun r cs1 hp => ?_)
    obtain ⟨hcs, r7, rfl, gr7, n6_0⟩ := hp
    obtain rfl := hcs.symm
    refine z_st (st' := [.int (Int32.ofInt r7), .int (Int32.ofInt l1), .ref (G.1 + b4)]) rfl ?_
    refine tw_iast hW hX gb4 (by omega) (by omega) (any_ok _) (Or.inl rfl) dX6_beginText_20 (fun c1 q _ => nA hW gb4 (show (2147483647 : Int) ≠ 600 by decide) (show (2147483647 : Int) ≠ 601 by decide) c1 q) (fun cs hW hX _ _ => ?_)
    refine z_aload_n dX6_beginText_21 rfl rfl ?_
    refine tw_getA hW ga0 (by decide) (by decide) rfl kX6 fX6_46 dX6_beginText_22 (fun b8 _ gb8 => ?_)
    refine z_iload_n dX6_beginText_25 rfl rfl ?_
    refine z_aload_n dX6_beginText_26 rfl rfl ?_
    refine tw_getO hW ga0 (by decide) (by decide) rfl kX6 fX6_12 dX6_beginText_27 (fun b9 pb9 gb9 => ?_)
    have gb9 : oT τ b9 5 := ⟨_, gb9⟩
    have hX0 := kX5_length 0 (Nat.le_refl _) hW gb9 
    refine z_callV (As := []) eX5_length sX5_length lX6_79 rfl dX6_beginText_30 (hW.os gb9).choose_spec hX0 (Nat.le_trans (by decide) hd) rfl (Nat.le_of_ble_eq_true rfl) (fun r cs1 hp => ?_)
    obtain ⟨hcs, r11, rfl, gr11, n10_0⟩ := hp
    obtain rfl := hcs.symm
    refine z_st (st' := [.int (Int32.ofInt r11), .int (Int32.ofInt l1), .ref (G.1 + b8)]) rfl ?_
    refine tw_iast hW hX gb8 (by omega) (by omega) (any_ok _) (Or.inl rfl) dX6_beginText_33 (fun c1 q _ => nA hW gb8 (show (2147483647 : Int) ≠ 600 by decide) (show (2147483647 : Int) ≠ 601 by decide) c1 q) (fun cs hW hX _ _ => ?_)
    exact z_return dX6_beginText_34 rfl (hP _ _ hW hX)

set_option maxRecDepth 100000 in
set_option maxHeartbeats 4000000 in
theorem kX6_addAttribute {G : xG} {B : Nat × Nat} {τ : Tau} {cs : List va_E} {a0 pa0 : Nat} {l1 : Int} {l2 : Int} {l3 : Int} (d : Nat) (hd : 1 ≤ d) (hW : WT G B τ cs) (ga0 : τ a0 = some (.inl (6, pa0))) (gl1 : rng l1) (gl2 : rng l2) (gl3 : rng l3)  : X G yX6_addAttribute cX6_addAttribute 4 none d [.ref (G.1 + a0), .int (Int32.ofInt l1), .int (Int32.ofInt l2), .int (Int32.ofInt l3)] cs (wN G B τ cs [6]) := by
  refine X.of false (by decide +kernel) (by decide) (Nat.le_of_ble_eq_true rfl) ?_
  show Z (RX6, cX6_addAttribute, 4, none, false) G d _ 0 [(0, .ref (G.1 + a0)), (1, .int (Int32.ofInt l1)), (2, .int (Int32.ofInt l2)), (3, .int (Int32.ofInt l3))] [] cs
  have hP : ∀ (τ1 : Tau) (c1 : List va_E), WT G B τ1 c1 → Fx [6] τ cs τ1 c1 → wN G B τ cs [6] none c1 := fun τ1 c1 h1 h2 => ⟨τ1, rfl, h1, h2⟩
  have hX : Fx [6] τ cs τ cs := Fx.rf
  skip
  refine z_aload_n dX6_addAttribute_0 rfl rfl ?_
  refine tw_getI hW ga0 (by decide) (by decide) rfl kX6 fX6_65 dX6_addAttribute_1 (fun x1 qx1 vx1 gx1 => ?_)
  refine i_if_eq (tgt := 17) dX6_addAttribute_4 (by decide) gx1 (fun h2 => ?_) (fun h2 => ?_)
  · exact z_return dX6_addAttribute_17 rfl (hP _ _ hW hX)
  · refine z_aload_n dX6_addAttribute_7 rfl rfl ?_
    refine tw_getI hW ga0 (by decide) (by decide) rfl kX6 fX6_69 dX6_addAttribute_8 (fun x3 qx3 vx3 gx3 => ?_)
    refine z_sipush (v := Int32.ofInt 600) dX6_addAttribute_11 (by decide) ?_
    refine i_icmp_lt (tgt := 18) dX6_addAttribute_14 (by decide) gx3 (show rng 600 from ⟨by decide, by decide⟩) (fun h4 => ?_) (fun h4 => ?_)
    · refine z_aload_n dX6_addAttribute_18 rfl rfl ?_
      refine tw_getA hW ga0 (by decide) (by decide) rfl kX6 fX6_53 dX6_addAttribute_19 (fun b5 _ gb5 => ?_)
      refine z_aload_n dX6_addAttribute_22 rfl rfl ?_
      refine tw_getI hW ga0 (by decide) (by decide) rfl kX6 fX6_69 dX6_addAttribute_23 (fun x6 qx6 vx6 gx6 => ?_)
      refine z_iload_n dX6_addAttribute_26 rfl rfl ?_
      refine tw_iast hW hX gb5 (by omega) (by omega) (any_ok _) (Or.inl rfl) dX6_addAttribute_27 (fun c1 q _ => nA hW gb5 (show (2147483647 : Int) ≠ 600 by decide) (show (2147483647 : Int) ≠ 601 by decide) c1 q) (fun cs hW hX hfr _ => ?_)
      have f7 := fld_fr (k := 16) hfr ga0 gb5
      have f8 := fld_fr (k := 17) hfr ga0 gb5
      clear hfr
      refine z_aload_n dX6_addAttribute_28 rfl rfl ?_
      refine tw_getA hW ga0 (by decide) (by decide) rfl kX6 fX6_56 dX6_addAttribute_29 (fun b9 _ gb9 => ?_)
      refine z_aload_n dX6_addAttribute_32 rfl rfl ?_
      refine tw_getI hW ga0 (by decide) (by decide) rfl kX6 fX6_69 dX6_addAttribute_33 (fun x10 qx10 vx10 gx10 => ?_)
      refine z_iload_n dX6_addAttribute_36 rfl rfl ?_
      refine tw_iast hW hX gb9 (by omega) (by omega) (any_ok _) (Or.inl rfl) dX6_addAttribute_37 (fun c1 q _ => nA hW gb9 (show (2147483647 : Int) ≠ 600 by decide) (show (2147483647 : Int) ≠ 601 by decide) c1 q) (fun cs hW hX hfr _ => ?_)
      have f11 := fld_fr (k := 16) hfr ga0 gb9
      have f12 := fld_fr (k := 17) hfr ga0 gb9
      clear hfr
      refine z_aload_n dX6_addAttribute_38 rfl rfl ?_
      refine tw_getA hW ga0 (by decide) (by decide) rfl kX6 fX6_59 dX6_addAttribute_39 (fun b13 _ gb13 => ?_)
      refine z_aload_n dX6_addAttribute_42 rfl rfl ?_
      refine tw_getI hW ga0 (by decide) (by decide) rfl kX6 fX6_69 dX6_addAttribute_43 (fun x14 qx14 vx14 gx14 => ?_)
      refine z_iload_n dX6_addAttribute_46 rfl rfl ?_
      refine tw_iast hW hX gb13 (by omega) (by omega) (any_ok _) (Or.inl rfl) dX6_addAttribute_47 (fun c1 q _ => nA hW gb13 (show (2147483647 : Int) ≠ 600 by decide) (show (2147483647 : Int) ≠ 601 by decide) c1 q) (fun cs hW hX hfr _ => ?_)
      have f15 := fld_fr (k := 16) hfr ga0 gb13
      have f16 := fld_fr (k := 17) hfr ga0 gb13
      clear hfr
      refine z_aload_n dX6_addAttribute_48 rfl rfl ?_
      refine tw_getA hW ga0 (by decide) (by decide) rfl kX6 fX6_62 dX6_addAttribute_49 (fun b17 _ gb17 => ?_)
      refine z_aload_n dX6_addAttribute_52 rfl rfl ?_
      refine tw_getI hW ga0 (by decide) (by decide) rfl kX6 fX6_69 dX6_addAttribute_53 (fun x18 qx18 vx18 gx18 => ?_)
      refine z_aload_n dX6_addAttribute_56 rfl rfl ?_
      refine tw_getO hW ga0 (by decide) (by decide) rfl kX6 fX6_12 dX6_addAttribute_57 (fun b19 pb19 gb19 => ?_)
      have gb19 : oT τ b19 5 := ⟨_, gb19⟩
      have hX0 := kX5_length 0 (Nat.le_refl _) hW gb19 
      refine z_callV (As := []) eX5_length sX5_length lX6_79 rfl dX6_addAttribute_60 (hW.os gb19).choose_spec hX0 (Nat.le_trans (by decide) hd) rfl (Nat.le_of_ble_eq_true rfl) (fun r cs1 hp => ?_)
      obtain ⟨hcs, r21, rfl, gr21, n20_0⟩ := hp
      obtain rfl := hcs.symm
      refine z_st (st' := [.int (Int32.ofInt r21), .int (Int32.ofInt x18), .ref (G.1 + b17)]) rfl ?_
      refine tw_iast hW hX gb17 (by omega) (by omega) (iv_ok (by omega) (by decide) (by decide)) (Or.inl rfl) dX6_addAttribute_63 (fun c1 q _ => nA hW gb17 (show (3000 : Int) ≠ 600 by decide) (show (3000 : Int) ≠ 601 by decide) c1 q) (fun cs hW hX hfr _ => ?_)
      have f22 := fld_fr (k := 16) hfr ga0 gb17
      have f23 := fld_fr (k := 17) hfr ga0 gb17
      clear hfr
      have h3 : a0 = 3 := hW.2.1.1 _ _ ga0
      have hT := hW.2.2.2.2.2.1 (x1 - 1) (by omega) (by rw [← h3]; omega)
      rw [← h3] at hT
      have e11 := hW.eiv hW.2.1.2.2.2.1 (x1 - 1)
      refine z_aload_n dX6_addAttribute_64 rfl rfl ?_
      refine z_dup dX6_addAttribute_65 rfl ?_
      refine tw_getI hW ga0 (by decide) (by decide) rfl kX6 fX6_69 dX6_addAttribute_66 (fun x24 qx24 vx24 gx24 => ?_)
      refine z_iconst (v := Int32.ofInt 1) dX6_addAttribute_69 rfl ?_
      refine tw_iadd dX6_addAttribute_70 (fun z25 gz25 ez25 => ?_)
      first | have ez25 := ez25 ⟨by omega, by omega⟩ | clear ez25
      refine tw_putI hW hX ga0 (by decide) (by decide) rfl kX6 fX6_69 dX6_addAttribute_71 rfl rfl rfl (iv_ok (by omega) (by decide) (by decide)) (by decide) (fun c1 q qj qv => TR_as hW ga0 q qj (Or.inl (by rw [qv, rng_toInt gz25]; omega))) (fun cs hW hX f26 hfj hfr => ?_)
      rw [rng_toInt gz25] at f26
      have f27 := hfj 16 (by decide)
      clear hfj
      have u11 := elt_c (i := x1 - 1) (hfr 11 (by omega))
      have u12 := elt_c (i := x1 - 1) (hfr 12 (by omega))
      refine z_aload_n dX6_addAttribute_74 rfl rfl ?_
      refine tw_getA hW ga0 (by decide) (by decide) rfl kX6 fX6_40 dX6_addAttribute_75 (fun b28 _ gb28 => ?_)
      refine z_aload_n dX6_addAttribute_78 rfl rfl ?_
      refine tw_getI hW ga0 (by decide) (by decide) rfl kX6 fX6_65 dX6_addAttribute_79 (fun x29 qx29 vx29 gx29 => ?_)
      refine z_iconst (v := Int32.ofInt 1) dX6_addAttribute_82 rfl ?_
      refine tw_isub dX6_addAttribute_83 (fun z30 gz30 ez30 => ?_)
      first | have ez30 := ez30 ⟨by omega, by omega⟩ | clear ez30
      refine z_dup2 dX6_addAttribute_84 rfl rfl ?_
      refine tw_iald hW gb28 (by omega) (by omega) dX6_addAttribute_85 (fun x31 qx31 vx31 gx31 => ?_)
      rw [hW.2.1.2.2.2.2.1 _ gb28, show z30 = x1 - 1 by omega] at qx31
      refine z_iconst (v := Int32.ofInt 1) dX6_addAttribute_86 rfl ?_
      refine tw_iadd dX6_addAttribute_87 (fun z32 gz32 ez32 => ?_)
      first | have ez32 := ez32 ⟨by omega, by omega⟩ | clear ez32
      refine tw_iast hW hX gb28 (by omega) (by omega) (iv_ok (by omega) (by decide) (by decide)) (Or.inl rfl) dX6_addAttribute_88 (fun c1 q qe => by have hb : b28 = 12 := hW.2.1.2.2.2.2.1 _ gb28; subst hb; exact TR_12 hW q qe (Or.inr (by rw [rng_toInt gz32, ← h3, show z30 = x1 - 1 by omega]; omega))) (fun cs hW hX hfr _ => ?_)
      have f33 := fld_fr (k := 16) hfr ga0 gb28
      have f34 := fld_fr (k := 17) hfr ga0 gb28
      clear hfr
      exact z_return dX6_addAttribute_89 rfl (hP _ _ hW hX)
    · exact z_return dX6_addAttribute_17 rfl (hP _ _ hW hX)

