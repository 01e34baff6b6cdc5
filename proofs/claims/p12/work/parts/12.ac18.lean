set_option maxRecDepth 100000 in
set_option maxHeartbeats 4000000 in
theorem kX9_textSign {G : xG} {B : Nat × Nat} {τ : Tau} {cs : List va_E} {a0 pa0 : Nat} (d : Nat) (hd : 7 ≤ d) (hW : WT G B τ cs) (ga0 : τ a0 = some (.inl (9, pa0)))  : X G yX9_textSign cX9_textSign 2 none d [.ref (G.1 + a0)] cs (wN G B τ cs [5, 6, 9]) := by
  refine X.of false (by decide +kernel) (by decide) (Nat.le_of_ble_eq_true rfl) ?_
  show Z (RX9, cX9_textSign, 2, none, false) G d _ 0 [(0, .ref (G.1 + a0))] [] cs
  have hP : ∀ (τ1 : Tau) (c1 : List va_E), WT G B τ1 c1 → Fx [5, 6, 9] τ cs τ1 c1 → wN G B τ cs [5, 6, 9] none c1 := fun τ1 c1 h1 h2 => ⟨τ1, rfl, h1, h2⟩
  have hX : Fx [5, 6, 9] τ cs τ cs := Fx.rf
  skip
  refine z_aload_n dX9_textSign_0 rfl rfl ?_
  have hX0 := kX9_decoded 6 (Nat.le_refl _) hW ga0 
  refine z_callV (As := []) eX9_decoded sX9_decoded lX9_115 rfl dX9_textSign_1 (hW.ob ga0 (by decide)).choose_spec hX0 (Nat.le_trans (by decide) hd) rfl (Nat.le_of_ble_eq_true rfl) (fun r cs hp => ?_)
  obtain ⟨τ, r2, rfl, gr2, hW, k3, _⟩ := hp
  have hX := hX.tr k3 (by decide)
  have ga0 := k3.1.e ga0 (by decide)
  clear hX0
  refine z_st (st' := [.int (Int32.ofInt r2)]) rfl ?_
  refine z_istore_n dX9_textSign_4 rfl (by decide) ?_
  refine z_loc (L' := [(0, .ref (G.1 + a0)), (1, .int (Int32.ofInt r2))]) (List.forall_mem_cons.mpr ⟨rfl, (List.forall_mem_cons.mpr ⟨rfl, (fun _ h => nomatch h)⟩)⟩) ?_
  refine z_iload_n dX9_textSign_5 rfl rfl ?_
  refine z_iconst (v := Int32.ofInt (-1)) dX9_textSign_6 rfl ?_
  refine i_icmp_eq (tgt := 22) dX9_textSign_7 (by decide) gr2 (show rng (-1) from ⟨by decide, by decide⟩) (fun h4 => ?_) (fun h4 => ?_)
  · exact z_return dX9_textSign_22 rfl (hP _ _ hW hX)
  · refine z_aload_n dX9_textSign_10 rfl rfl ?_
    refine tw_getO hW ga0 (by decide) (by decide) rfl kX9 fX9_28 dX9_textSign_11 (fun b5 pb5 gb5 => ?_)
    refine z_aload_n dX9_textSign_14 rfl rfl ?_
    refine tw_getI hW ga0 (by decide) (by decide) rfl kX9 fX9_15 dX9_textSign_15 (fun x6 _ vx6 gx6 => ?_)
    refine z_iload_n dX9_textSign_18 rfl rfl ?_
    have hX0 := kX6_addText 2 (Nat.le_refl _) hW gb5 gx6 gr2 
    refine z_callV (As := [_, _]) eX6_addText sX6_addText lX9_135 rfl dX9_textSign_19 (hW.ob gb5 (by decide)).choose_spec hX0 (Nat.le_trans (by decide) hd) rfl (Nat.le_of_ble_eq_true rfl) (fun r cs hp => ?_)
    obtain ⟨τ, rfl, hW, k9⟩ := hp
    have hX := hX.tr k9 (by decide)
    have ga0 := k9.1.e ga0 (by decide)
    clear hX0
    refine z_st (st' := []) rfl ?_
    exact z_return dX9_textSign_22 rfl (hP _ _ hW hX)

set_option maxRecDepth 100000 in
set_option maxHeartbeats 4000000 in
theorem bX9_firstWrong_214 {G : xG} {d : Nat} {Post : xP} {B : Nat × Nat} {τ0 τ : Tau} {c0 cs : List va_E} {a0 pa0 : Nat} (hd : 9 ≤ d) (hW : WT G B τ cs) (hX : Fx [5, 6, 9] τ0 c0 τ cs) (ga0 : τ a0 = some (.inl (9, pa0)))   (hP : ∀ (τ1 : Tau) (c1 : List va_E) (r : Int), WT G B τ1 c1 → Fx [5, 6, 9] τ0 c0 τ1 c1 → rng r → (True) → Post (some (.int (Int32.ofInt r))) c1)  : Z (RX9, cX9_firstWrong, 2, some .int, false) G d Post 214 [(0, .ref (G.1 + a0))] [] cs := by
  refine z_aload_n dX9_firstWrong_214 rfl rfl ?_
  refine tw_getI hW ga0 (by decide) (by decide) rfl kX9 fX9_21 dX9_firstWrong_215 (fun x1 _ vx1 gx1 => ?_)
  refine z_iconst (v := Int32.ofInt (-1)) dX9_firstWrong_218 rfl ?_
  refine i_icmp_eq (tgt := 227) dX9_firstWrong_219 (by decide) gx1 (show rng (-1) from ⟨by decide, by decide⟩) (fun h2 => ?_) (fun h2 => ?_)
  · refine z_aload_n dX9_firstWrong_227 rfl rfl ?_
    have hX0 := kX9_skipBlanks 1 (Nat.le_refl _) hW ga0 
    refine z_callV (As := []) eX9_skipBlanks sX9_skipBlanks lX9_44 rfl dX9_firstWrong_228 (hW.ob ga0 (by decide)).choose_spec hX0 (Nat.le_trans (by decide) hd) rfl (Nat.le_of_ble_eq_true rfl) (fun r cs hp => ?_)
    obtain ⟨τ, rfl, hW, k5⟩ := hp
    have hX := hX.tr k5 (by decide)
    have ga0 := k5.1.e ga0 (by decide)
    clear hX0
    refine z_st (st' := []) rfl ?_
    refine z_aload_n dX9_firstWrong_231 rfl rfl ?_
    refine tw_getI hW ga0 (by decide) (by decide) rfl kX9 fX9_9 dX9_firstWrong_232 (fun x6 _ vx6 gx6 => ?_)
    refine z_aload_n dX9_firstWrong_235 rfl rfl ?_
    refine tw_getO hW ga0 (by decide) (by decide) rfl kX9 fX9_24 dX9_firstWrong_236 (fun b7 pb7 gb7 => ?_)
    have gb7 : oT τ b7 5 := ⟨_, gb7⟩
    have hX0 := kX5_length 0 (Nat.le_refl _) hW gb7 
    refine z_callV (As := []) eX5_length sX5_length lX9_80 rfl dX9_firstWrong_239 (hW.os gb7).choose_spec hX0 (Nat.le_trans (by decide) hd) rfl (Nat.le_of_ble_eq_true rfl) (fun r cs1 hp => ?_)
    obtain ⟨hcs, r9, rfl, gr9, n8_0⟩ := hp
    obtain rfl := hcs.symm
    refine z_st (st' := [.int (Int32.ofInt r9), .int (Int32.ofInt x6)]) rfl ?_
    refine i_icmp_ge (tgt := 252) dX9_firstWrong_242 (by decide) gx6 gr9 (fun h10 => ?_) (fun h10 => ?_)
    · refine z_iconst (v := Int32.ofInt (-1)) dX9_firstWrong_252 rfl ?_
      exact z_ireturn dX9_firstWrong_253 rfl rfl (hP _ _ _ hW hX (show rng (-1) from ⟨by decide, by decide⟩) trivial)
    · refine z_aload_n dX9_firstWrong_245 rfl rfl ?_
      refine tw_getI hW ga0 (by decide) (by decide) rfl kX9 fX9_9 dX9_firstWrong_246 (fun x11 _ vx11 gx11 => ?_)
      refine z_goto (tgt := 253) dX9_firstWrong_249 (by decide) ?_
      exact z_ireturn dX9_firstWrong_253 rfl rfl (hP _ _ _ hW hX gx11 trivial)
  · refine z_aload_n dX9_firstWrong_222 rfl rfl ?_
    refine tw_getI hW ga0 (by decide) (by decide) rfl kX9 fX9_21 dX9_firstWrong_223 (fun x12 _ vx12 gx12 => ?_)
    exact z_ireturn dX9_firstWrong_226 rfl rfl (hP _ _ _ hW hX gx12 trivial)
set_option maxRecDepth 100000 in
set_option maxHeartbeats 4000000 in
theorem bX9_firstWrong_208 {G : xG} {d : Nat} {Post : xP} {B : Nat × Nat} {τ0 τ : Tau} {c0 cs : List va_E} {a0 pa0 : Nat} {l1 : Int} {n42 : Nat} (hd : 9 ≤ d) (hW : WT G B τ cs) (hX : Fx [5, 6, 9] τ0 c0 τ cs) (ga0 : τ a0 = some (.inl (9, pa0))) (gl1 : rng l1) (i0 : 1 ≤ 3000 - l1) (hm_42 : (3000 - l1).toNat < n42 + 1) (hP : ∀ (τ1 : Tau) (c1 : List va_E) (r : Int), WT G B τ1 c1 → Fx [5, 6, 9] τ0 c0 τ1 c1 → rng r → (True) → Post (some (.int (Int32.ofInt r))) c1) (ih_42 : ∀ {τ : Tau} {cs : List va_E} {a0 pa0 : Nat} {l1 : Int} (hW : WT G B τ cs) (hX : Fx [5, 6, 9] τ0 c0 τ cs) (ga0 : τ a0 = some (.inl (9, pa0))) (gl1 : rng l1)  , (3000 - l1).toNat < n42 → Z (RX9, cX9_firstWrong, 2, some .int, false) G d Post 42 [(0, .ref (G.1 + a0)), (1, .int (Int32.ofInt l1))] [] cs) : Z (RX9, cX9_firstWrong, 2, some .int, false) G d Post 208 [(0, .ref (G.1 + a0)), (1, .int (Int32.ofInt l1))] [] cs := by
  refine tw_iinc (l := l1) dX9_firstWrong_208 rfl (by decide) (fun z1 gz1 ez1 => ?_)
  first | have ez1 := ez1 ⟨by omega, by omega⟩ | clear ez1
  refine z_loc (L' := [(0, .ref (G.1 + a0)), (1, .int (Int32.ofInt z1))]) (List.forall_mem_cons.mpr ⟨rfl, (List.forall_mem_cons.mpr ⟨rfl, (fun _ h => nomatch h)⟩)⟩) ?_
  refine z_goto (tgt := 42) dX9_firstWrong_211 (by decide) ?_
  refine z_loc (L' := [(0, .ref (G.1 + a0)), (1, .int (Int32.ofInt z1))]) (List.forall_mem_cons.mpr ⟨rfl, (List.forall_mem_cons.mpr ⟨rfl, (fun _ h => nomatch h)⟩)⟩) ?_
  exact ih_42 hW hX ga0 gz1   (by omega)
set_option maxRecDepth 100000 in
set_option maxHeartbeats 4000000 in
theorem bX9_firstWrong_193 {G : xG} {d : Nat} {Post : xP} {B : Nat × Nat} {τ0 τ : Tau} {c0 cs : List va_E} {a0 pa0 : Nat} {l1 : Int} {n42 : Nat} (hd : 9 ≤ d) (hW : WT G B τ cs) (hX : Fx [5, 6, 9] τ0 c0 τ cs) (ga0 : τ a0 = some (.inl (9, pa0))) (gl1 : rng l1) (i0 : 1 ≤ 3000 - l1) (hm_42 : (3000 - l1).toNat < n42 + 1) (hP : ∀ (τ1 : Tau) (c1 : List va_E) (r : Int), WT G B τ1 c1 → Fx [5, 6, 9] τ0 c0 τ1 c1 → rng r → (True) → Post (some (.int (Int32.ofInt r))) c1) (ih_42 : ∀ {τ : Tau} {cs : List va_E} {a0 pa0 : Nat} {l1 : Int} (hW : WT G B τ cs) (hX : Fx [5, 6, 9] τ0 c0 τ cs) (ga0 : τ a0 = some (.inl (9, pa0))) (gl1 : rng l1)  , (3000 - l1).toNat < n42 → Z (RX9, cX9_firstWrong, 2, some .int, false) G d Post 42 [(0, .ref (G.1 + a0)), (1, .int (Int32.ofInt l1))] [] cs) : Z (RX9, cX9_firstWrong, 2, some .int, false) G d Post 193 [(0, .ref (G.1 + a0)), (1, .int (Int32.ofInt l1))] [] cs := by
  refine z_aload_n dX9_firstWrong_193 rfl rfl ?_
  refine z_aload_n dX9_firstWrong_194 rfl rfl ?_
  refine tw_getI hW ga0 (by decide) (by decide) rfl kX9 fX9_9 dX9_firstWrong_195 (fun x1 _ vx1 gx1 => ?_)
  refine tw_putI hW hX ga0 (by decide) (by decide) rfl kX9 fX9_21 dX9_firstWrong_198 rfl rfl rfl (any_ok _) (by decide) (fun c1 q _ _ => nT hW ga0 (by decide) c1 q) (fun cs hW hX _ _ _ => ?_)
  refine z_goto (tgt := 208) dX9_firstWrong_201 (by decide) ?_
  refine z_loc (L' := [(0, .ref (G.1 + a0)), (1, .int (Int32.ofInt l1))]) (List.forall_mem_cons.mpr ⟨rfl, (List.forall_mem_cons.mpr ⟨rfl, (fun _ h => nomatch h)⟩)⟩) ?_
  exact bX9_firstWrong_208 hd hW hX ga0 gl1 (by omega) (by omega) hP ih_42
set_option maxRecDepth 100000 in
set_option maxHeartbeats 4000000 in
theorem eX9_firstWrong_42 {G : xG} {d : Nat} {Post : xP} {B : Nat × Nat} {τ0 τ : Tau} {c0 cs : List va_E} {a0 pa0 : Nat} {l1 : Int} {n42 : Nat} (hd : 9 ≤ d) (hW : WT G B τ cs) (hX : Fx [5, 6, 9] τ0 c0 τ cs) (ga0 : τ a0 = some (.inl (9, pa0))) (gl1 : rng l1)   (hP : ∀ (τ1 : Tau) (c1 : List va_E) (r : Int), WT G B τ1 c1 → Fx [5, 6, 9] τ0 c0 τ1 c1 → rng r → (True) → Post (some (.int (Int32.ofInt r))) c1)  (ih_42 : ∀ {τ : Tau} {cs : List va_E} {a0 pa0 : Nat} {l1 : Int} (hW : WT G B τ cs) (hX : Fx [5, 6, 9] τ0 c0 τ cs) (ga0 : τ a0 = some (.inl (9, pa0))) (gl1 : rng l1)  , (3000 - l1).toNat < n42 → Z (RX9, cX9_firstWrong, 2, some .int, false) G d Post 42 [(0, .ref (G.1 + a0)), (1, .int (Int32.ofInt l1))] [] cs) (hm_42 : (3000 - l1).toNat < n42 + 1) : Z (RX9, cX9_firstWrong, 2, some .int, false) G d Post 42 [(0, .ref (G.1 + a0)), (1, .int (Int32.ofInt l1))] [] cs := by
  refine z_iload_n dX9_firstWrong_42 rfl rfl ?_
  refine z_sipush (v := Int32.ofInt 3000) dX9_firstWrong_43 (by decide) ?_
  refine i_icmp_ge (tgt := 214) dX9_firstWrong_46 (by decide) gl1 (show rng 3000 from ⟨by decide, by decide⟩) (fun h1 => ?_) (fun h1 => ?_)
  · refine z_loc (L' := [(0, .ref (G.1 + a0))]) (List.forall_mem_cons.mpr ⟨rfl, (fun _ h => nomatch h)⟩) ?_
    exact bX9_firstWrong_214 hd hW hX ga0   hP 
  · refine z_aload_n dX9_firstWrong_49 rfl rfl ?_
    refine tw_getI hW ga0 (by decide) (by decide) rfl kX9 fX9_21 dX9_firstWrong_50 (fun x2 _ vx2 gx2 => ?_)
    refine z_iconst (v := Int32.ofInt (-1)) dX9_firstWrong_53 rfl ?_
    refine i_icmp_ne (tgt := 214) dX9_firstWrong_54 (by decide) gx2 (show rng (-1) from ⟨by decide, by decide⟩) (fun h3 => ?_) (fun h3 => ?_)
    · refine z_loc (L' := [(0, .ref (G.1 + a0))]) (List.forall_mem_cons.mpr ⟨rfl, (fun _ h => nomatch h)⟩) ?_
      exact bX9_firstWrong_214 hd hW hX ga0   hP 
    · refine z_aload_n dX9_firstWrong_57 rfl rfl ?_
      refine tw_getI hW ga0 (by decide) (by decide) rfl kX9 fX9_15 dX9_firstWrong_58 (fun x4 _ vx4 gx4 => ?_)
      refine z_iconst (v := Int32.ofInt (-1)) dX9_firstWrong_61 rfl ?_
      refine i_icmp_eq (tgt := 214) dX9_firstWrong_62 (by decide) gx4 (show rng (-1) from ⟨by decide, by decide⟩) (fun h5 => ?_) (fun h5 => ?_)
      · refine z_loc (L' := [(0, .ref (G.1 + a0))]) (List.forall_mem_cons.mpr ⟨rfl, (fun _ h => nomatch h)⟩) ?_
        exact bX9_firstWrong_214 hd hW hX ga0   hP 
      · refine z_aload_n dX9_firstWrong_65 rfl rfl ?_
        refine tw_getO hW ga0 (by decide) (by decide) rfl kX9 fX9_24 dX9_firstWrong_66 (fun b6 pb6 gb6 => ?_)
        have gb6 : oT τ b6 5 := ⟨_, gb6⟩
        refine z_aload_n dX9_firstWrong_69 rfl rfl ?_
        refine tw_getI hW ga0 (by decide) (by decide) rfl kX9 fX9_9 dX9_firstWrong_70 (fun x7 _ vx7 gx7 => ?_)
        have hX0 := kX5_at 0 (Nat.le_refl _) hW gb6 gx7 
        refine z_callV (As := [_]) eX5_at sX5_at lX9_47 rfl dX9_firstWrong_73 (hW.os gb6).choose_spec hX0 (Nat.le_trans (by decide) hd) rfl (Nat.le_of_ble_eq_true rfl) (fun r cs1 hp => ?_)
        obtain ⟨hcs, r9, rfl, gr9, n8_0⟩ := hp
        obtain rfl := hcs.symm
        refine z_st (st' := [.int (Int32.ofInt r9)]) rfl ?_
        refine z_iconst (v := Int32.ofInt (-1)) dX9_firstWrong_76 rfl ?_
        refine i_icmp_ne (tgt := 91) dX9_firstWrong_77 (by decide) gr9 (show rng (-1) from ⟨by decide, by decide⟩) (fun h10 => ?_) (fun h10 => ?_)
        · refine z_aload_n dX9_firstWrong_91 rfl rfl ?_
          refine tw_getO hW ga0 (by decide) (by decide) rfl kX9 fX9_24 dX9_firstWrong_92 (fun b11 pb11 gb11 => ?_)
          have gb11 : oT τ b11 5 := ⟨_, gb11⟩
          refine z_aload_n dX9_firstWrong_95 rfl rfl ?_
          refine tw_getI hW ga0 (by decide) (by decide) rfl kX9 fX9_9 dX9_firstWrong_96 (fun x12 _ vx12 gx12 => ?_)
          have hX0 := kX5_at 0 (Nat.le_refl _) hW gb11 gx12 
          refine z_callV (As := [_]) eX5_at sX5_at lX9_47 rfl dX9_firstWrong_99 (hW.os gb11).choose_spec hX0 (Nat.le_trans (by decide) hd) rfl (Nat.le_of_ble_eq_true rfl) (fun r cs1 hp => ?_)
          obtain ⟨hcs, r14, rfl, gr14, n13_0⟩ := hp
          obtain rfl := hcs.symm
          refine z_st (st' := [.int (Int32.ofInt r14)]) rfl ?_
          refine z_bipush (v := Int32.ofInt 60) dX9_firstWrong_102 (by decide) ?_
          refine i_icmp_eq (tgt := 114) dX9_firstWrong_104 (by decide) gr14 (show rng 60 from ⟨by decide, by decide⟩) (fun h15 => ?_) (fun h15 => ?_)
          · refine z_aload_n dX9_firstWrong_114 rfl rfl ?_
            refine tw_getO hW ga0 (by decide) (by decide) rfl kX9 fX9_24 dX9_firstWrong_115 (fun b16 pb16 gb16 => ?_)
            have gb16 : oT τ b16 5 := ⟨_, gb16⟩
            refine z_aload_n dX9_firstWrong_118 rfl rfl ?_
            refine tw_getI hW ga0 (by decide) (by decide) rfl kX9 fX9_9 dX9_firstWrong_119 (fun x17 _ vx17 gx17 => ?_)
            refine z_iconst (v := Int32.ofInt 1) dX9_firstWrong_122 rfl ?_
            refine tw_iadd dX9_firstWrong_123 (fun z18 gz18 ez18 => ?_)
            first | have ez18 := ez18 ⟨by omega, by omega⟩ | clear ez18
            have hX0 := kX5_at 0 (Nat.le_refl _) hW gb16 gz18 
            refine z_callV (As := [_]) eX5_at sX5_at lX9_47 rfl dX9_firstWrong_124 (hW.os gb16).choose_spec hX0 (Nat.le_trans (by decide) hd) rfl (Nat.le_of_ble_eq_true rfl) (fun r cs1 hp => ?_)
            obtain ⟨hcs, r20, rfl, gr20, n19_0⟩ := hp
            obtain rfl := hcs.symm
            refine z_st (st' := [.int (Int32.ofInt r20)]) rfl ?_
            refine z_bipush (v := Int32.ofInt 47) dX9_firstWrong_127 (by decide) ?_
            refine i_icmp_ne (tgt := 139) dX9_firstWrong_129 (by decide) gr20 (show rng 47 from ⟨by decide, by decide⟩) (fun h21 => ?_) (fun h21 => ?_)
            · refine z_aload_n dX9_firstWrong_139 rfl rfl ?_
              refine z_ldcS (i := 20) (tx := "<!--") (by decide +kernel) dX9_firstWrong_140 ?_
              have hX0 := kX9_comes 4 (Nat.le_refl _) hW ga0 (show 20 < xN by decide) 
              refine z_callV (As := [_]) eX9_comes sX9_comes lX9_64 rfl dX9_firstWrong_142 (hW.ob ga0 (by decide)).choose_spec hX0 (Nat.le_trans (by decide) hd) rfl (Nat.le_of_ble_eq_true rfl) (fun r cs1 hp => ?_)
              obtain ⟨hcs, r23, rfl, gr23, n22_0⟩ := hp
              obtain rfl := hcs.symm
              refine z_st (st' := [.int (Int32.ofInt r23)]) rfl ?_
              refine i_if_eq (tgt := 155) dX9_firstWrong_145 (by decide) gr23 (fun h24 => ?_) (fun h24 => ?_)
              · refine z_aload_n dX9_firstWrong_155 rfl rfl ?_
                refine z_ldcS (i := 22) (tx := "<![CDATA[") (by decide +kernel) dX9_firstWrong_156 ?_
                have hX0 := kX9_comes 4 (Nat.le_refl _) hW ga0 (show 22 < xN by decide) 
                refine z_callV (As := [_]) eX9_comes sX9_comes lX9_64 rfl dX9_firstWrong_158 (hW.ob ga0 (by decide)).choose_spec hX0 (Nat.le_trans (by decide) hd) rfl (Nat.le_of_ble_eq_true rfl) (fun r cs1 hp => ?_)
                obtain ⟨hcs, r26, rfl, gr26, n25_0⟩ := hp
                obtain rfl := hcs.symm
                refine z_st (st' := [.int (Int32.ofInt r26)]) rfl ?_
                refine i_if_eq (tgt := 171) dX9_firstWrong_161 (by decide) gr26 (fun h27 => ?_) (fun h27 => ?_)
                · refine z_aload_n dX9_firstWrong_171 rfl rfl ?_
                  refine tw_getO hW ga0 (by decide) (by decide) rfl kX9 fX9_28 dX9_firstWrong_172 (fun b28 pb28 gb28 => ?_)
                  have hX0 := kX6_size 0 (Nat.le_refl _) hW gb28 
                  refine z_callV (As := []) eX6_size sX6_size lX9_76 rfl dX9_firstWrong_175 (hW.ob gb28 (by decide)).choose_spec hX0 (Nat.le_trans (by decide) hd) rfl (Nat.le_of_ble_eq_true rfl) (fun r cs1 hp => ?_)
                  obtain ⟨hcs, r30, rfl, gr30, ⟨n29_0, n29_1⟩⟩ := hp
                  obtain rfl := hcs.symm
                  refine z_st (st' := [.int (Int32.ofInt r30)]) rfl ?_
                  refine z_sipush (v := Int32.ofInt 200) dX9_firstWrong_178 (by decide) ?_
                  refine i_icmp_ge (tgt := 193) dX9_firstWrong_181 (by decide) gr30 (show rng 200 from ⟨by decide, by decide⟩) (fun h31 => ?_) (fun h31 => ?_)
                  · refine z_loc (L' := [(0, .ref (G.1 + a0)), (1, .int (Int32.ofInt l1))]) (List.forall_mem_cons.mpr ⟨rfl, (List.forall_mem_cons.mpr ⟨rfl, (fun _ h => nomatch h)⟩)⟩) ?_
                    exact bX9_firstWrong_193 hd hW hX ga0 gl1 (by omega) (by omega) hP ih_42
                  · refine z_aload_n dX9_firstWrong_184 rfl rfl ?_
                    refine tw_getI hW ga0 (by decide) (by decide) rfl kX9 fX9_18 dX9_firstWrong_185 (fun x32 _ vx32 gx32 => ?_)
                    refine z_bipush (v := Int32.ofInt 40) dX9_firstWrong_188 (by decide) ?_
                    refine i_icmp_lt (tgt := 204) dX9_firstWrong_190 (by decide) gx32 (show rng 40 from ⟨by decide, by decide⟩) (fun h33 => ?_) (fun h33 => ?_)
                    · refine z_aload_n dX9_firstWrong_204 rfl rfl ?_
                      have hX0 := kX9_startTag 8 (Nat.le_refl _) hW ga0 
                      refine z_callV (As := []) eX9_startTag sX9_startTag lX9_53 rfl dX9_firstWrong_205 (hW.ob ga0 (by decide)).choose_spec hX0 (Nat.le_trans (by decide) hd) rfl (Nat.le_of_ble_eq_true rfl) (fun r cs hp => ?_)
                      obtain ⟨τ, rfl, hW, k36⟩ := hp
                      have hX := hX.tr k36 (by decide)
                      have ga0 := k36.1.e ga0 (by decide)
                      clear hX0
                      refine z_st (st' := []) rfl ?_
                      refine z_loc (L' := [(0, .ref (G.1 + a0)), (1, .int (Int32.ofInt l1))]) (List.forall_mem_cons.mpr ⟨rfl, (List.forall_mem_cons.mpr ⟨rfl, (fun _ h => nomatch h)⟩)⟩) ?_
                      exact bX9_firstWrong_208 hd hW hX ga0 gl1 (by omega) (by omega) hP ih_42
                    · refine z_loc (L' := [(0, .ref (G.1 + a0)), (1, .int (Int32.ofInt l1))]) (List.forall_mem_cons.mpr ⟨rfl, (List.forall_mem_cons.mpr ⟨rfl, (fun _ h => nomatch h)⟩)⟩) ?_
                      exact bX9_firstWrong_193 hd hW hX ga0 gl1 (by omega) (by omega) hP ih_42
                · refine z_aload_n dX9_firstWrong_164 rfl rfl ?_
                  have hX0 := kX9_cdata 5 (Nat.le_refl _) hW ga0 
                  refine z_callV (As := []) eX9_cdata sX9_cdata lX9_73 rfl dX9_firstWrong_165 (hW.ob ga0 (by decide)).choose_spec hX0 (Nat.le_trans (by decide) hd) rfl (Nat.le_of_ble_eq_true rfl) (fun r cs hp => ?_)
                  obtain ⟨τ, rfl, hW, k39⟩ := hp
                  have hX := hX.tr k39 (by decide)
                  have ga0 := k39.1.e ga0 (by decide)
                  clear hX0
                  refine z_st (st' := []) rfl ?_
                  refine z_goto (tgt := 208) dX9_firstWrong_168 (by decide) ?_
                  refine z_loc (L' := [(0, .ref (G.1 + a0)), (1, .int (Int32.ofInt l1))]) (List.forall_mem_cons.mpr ⟨rfl, (List.forall_mem_cons.mpr ⟨rfl, (fun _ h => nomatch h)⟩)⟩) ?_
                  exact bX9_firstWrong_208 hd hW hX ga0 gl1 (by omega) (by omega) hP ih_42
              · refine z_aload_n dX9_firstWrong_148 rfl rfl ?_
                have hX0 := kX9_comment 5 (Nat.le_refl _) hW ga0 
                refine z_callV (As := []) eX9_comment sX9_comment lX9_68 rfl dX9_firstWrong_149 (hW.ob ga0 (by decide)).choose_spec hX0 (Nat.le_trans (by decide) hd) rfl (Nat.le_of_ble_eq_true rfl) (fun r cs hp => ?_)
                obtain ⟨τ, rfl, hW, k42⟩ := hp
                have hX := hX.tr k42 (by decide)
                have ga0 := k42.1.e ga0 (by decide)
                clear hX0
                refine z_st (st' := []) rfl ?_
                refine z_goto (tgt := 208) dX9_firstWrong_152 (by decide) ?_
                refine z_loc (L' := [(0, .ref (G.1 + a0)), (1, .int (Int32.ofInt l1))]) (List.forall_mem_cons.mpr ⟨rfl, (List.forall_mem_cons.mpr ⟨rfl, (fun _ h => nomatch h)⟩)⟩) ?_
                exact bX9_firstWrong_208 hd hW hX ga0 gl1 (by omega) (by omega) hP ih_42
            · refine z_aload_n dX9_firstWrong_132 rfl rfl ?_
              have hX0 := kX9_endTag 3 (Nat.le_refl _) hW ga0 
              refine z_callV (As := []) eX9_endTag sX9_endTag lX9_59 rfl dX9_firstWrong_133 (hW.ob ga0 (by decide)).choose_spec hX0 (Nat.le_trans (by decide) hd) rfl (Nat.le_of_ble_eq_true rfl) (fun r cs hp => ?_)
              obtain ⟨τ, rfl, hW, k45⟩ := hp
              have hX := hX.tr k45 (by decide)
              have ga0 := k45.1.e ga0 (by decide)
              clear hX0
              refine z_st (st' := []) rfl ?_
              refine z_goto (tgt := 208) dX9_firstWrong_136 (by decide) ?_
              refine z_loc (L' := [(0, .ref (G.1 + a0)), (1, .int (Int32.ofInt l1))]) (List.forall_mem_cons.mpr ⟨rfl, (List.forall_mem_cons.mpr ⟨rfl, (fun _ h => nomatch h)⟩)⟩) ?_
              exact bX9_firstWrong_208 hd hW hX ga0 gl1 (by omega) (by omega) hP ih_42
          · refine z_aload_n dX9_firstWrong_107 rfl rfl ?_
            have hX0 := kX9_textSign 7 (Nat.le_refl _) hW ga0 
            refine z_callV (As := []) eX9_textSign sX9_textSign lX9_56 rfl dX9_firstWrong_108 (hW.ob ga0 (by decide)).choose_spec hX0 (Nat.le_trans (by decide) hd) rfl (Nat.le_of_ble_eq_true rfl) (fun r cs hp => ?_)
            obtain ⟨τ, rfl, hW, k48⟩ := hp
            have hX := hX.tr k48 (by decide)
            have ga0 := k48.1.e ga0 (by decide)
            clear hX0
            refine z_st (st' := []) rfl ?_
            refine z_goto (tgt := 208) dX9_firstWrong_111 (by decide) ?_
            refine z_loc (L' := [(0, .ref (G.1 + a0)), (1, .int (Int32.ofInt l1))]) (List.forall_mem_cons.mpr ⟨rfl, (List.forall_mem_cons.mpr ⟨rfl, (fun _ h => nomatch h)⟩)⟩) ?_
            exact bX9_firstWrong_208 hd hW hX ga0 gl1 (by omega) (by omega) hP ih_42
        · refine z_aload_n dX9_firstWrong_80 rfl rfl ?_
          refine z_aload_n dX9_firstWrong_81 rfl rfl ?_
          refine tw_getI hW ga0 (by decide) (by decide) rfl kX9 fX9_9 dX9_firstWrong_82 (fun x49 _ vx49 gx49 => ?_)
          refine tw_putI hW hX ga0 (by decide) (by decide) rfl kX9 fX9_21 dX9_firstWrong_85 rfl rfl rfl (any_ok _) (by decide) (fun c1 q _ _ => nT hW ga0 (by decide) c1 q) (fun cs hW hX _ _ _ => ?_)
          refine z_goto (tgt := 208) dX9_firstWrong_88 (by decide) ?_
          refine z_loc (L' := [(0, .ref (G.1 + a0)), (1, .int (Int32.ofInt l1))]) (List.forall_mem_cons.mpr ⟨rfl, (List.forall_mem_cons.mpr ⟨rfl, (fun _ h => nomatch h)⟩)⟩) ?_
          exact bX9_firstWrong_208 hd hW hX ga0 gl1 (by omega) (by omega) hP ih_42
set_option maxRecDepth 100000 in
set_option maxHeartbeats 4000000 in
theorem bX9_firstWrong_42 {G : xG} {d : Nat} {Post : xP} {B : Nat × Nat} {τ0 τ : Tau} {c0 cs : List va_E} {a0 pa0 : Nat} {l1 : Int} (hd : 9 ≤ d) (hW : WT G B τ cs) (hX : Fx [5, 6, 9] τ0 c0 τ cs) (ga0 : τ a0 = some (.inl (9, pa0))) (gl1 : rng l1)   (hP : ∀ (τ1 : Tau) (c1 : List va_E) (r : Int), WT G B τ1 c1 → Fx [5, 6, 9] τ0 c0 τ1 c1 → rng r → (True) → Post (some (.int (Int32.ofInt r))) c1)  : Z (RX9, cX9_firstWrong, 2, some .int, false) G d Post 42 [(0, .ref (G.1 + a0)), (1, .int (Int32.ofInt l1))] [] cs := by
  have key : ∀ (n : Nat) (τ : Tau) (cs : List va_E) (a0 pa0 : Nat) (l1 : Int) (hW : WT G B τ cs) (hX : Fx [5, 6, 9] τ0 c0 τ cs) (ga0 : τ a0 = some (.inl (9, pa0))) (gl1 : rng l1)  , (3000 - l1).toNat < n → Z (RX9, cX9_firstWrong, 2, some .int, false) G d Post 42 [(0, .ref (G.1 + a0)), (1, .int (Int32.ofInt l1))] [] cs := by
    intro n
    induction n with
    | zero => intro τ cs a0 pa0 l1 hW hX ga0 gl1 hm; exact absurd hm (Nat.not_lt_zero _)
    | succ n ih =>
      intro τ cs a0 pa0 l1 hW hX ga0 gl1 hm
      exact eX9_firstWrong_42 hd hW hX ga0 gl1 hP  (fun hW hX ga0 gl1 hm => ih _ _ _ _ _ hW hX ga0 gl1 hm) hm
  exact key _ _ _ _ _ _ hW hX ga0 gl1 (Nat.lt_succ_self _)
set_option maxRecDepth 100000 in
set_option maxHeartbeats 4000000 in
theorem kX9_firstWrong {G : xG} {B : Nat × Nat} {τ : Tau} {cs : List va_E} {a0 pa0 : Nat} (d : Nat) (hd : 9 ≤ d) (hW : WT G B τ cs) (ga0 : τ a0 = some (.inl (9, pa0)))  : X G yX9_firstWrong cX9_firstWrong 2 (some .int) d [.ref (G.1 + a0)] cs (wI G B τ cs [5, 6, 9] (fun r => True)) := by
  refine X.of false (by decide +kernel) (by decide) (Nat.le_of_ble_eq_true rfl) ?_
  show Z (RX9, cX9_firstWrong, 2, some .int, false) G d _ 0 [(0, .ref (G.1 + a0))] [] cs
  have hP : ∀ (τ1 : Tau) (c1 : List va_E) (r : Int), WT G B τ1 c1 → Fx [5, 6, 9] τ cs τ1 c1 → rng r → (True) → wI G B τ cs [5, 6, 9] (fun r => True) (some (.int (Int32.ofInt r))) c1 := fun τ1 c1 r h1 h2 h3 h4 => ⟨τ1, r, rfl, h3, h1, h2, h4⟩
  have hX : Fx [5, 6, 9] τ cs τ cs := Fx.rf
  skip
  refine z_aload_n dX9_firstWrong_0 rfl rfl ?_
  refine tw_getO hW ga0 (by decide) (by decide) rfl kX9 fX9_28 dX9_firstWrong_1 (fun b1 pb1 gb1 => ?_)
  refine z_aload_n dX9_firstWrong_4 rfl rfl ?_
  refine tw_getO hW ga0 (by decide) (by decide) rfl kX9 fX9_24 dX9_firstWrong_5 (fun b2 pb2 gb2 => ?_)
  have gb2 : oT τ b2 5 := ⟨_, gb2⟩
  have hX0 := kX6_restart 1 (Nat.le_refl _) hW gb1 gb2 
  refine z_callV (As := [_]) eX6_restart sX6_restart lX9_40 rfl dX9_firstWrong_8 (hW.ob gb1 (by decide)).choose_spec hX0 (Nat.le_trans (by decide) hd) rfl (Nat.le_of_ble_eq_true rfl) (fun r cs hp => ?_)
  obtain ⟨τ, rfl, hW, k5⟩ := hp
  have hX := hX.tr k5 (by decide)
  have ga0 := k5.1.e ga0 (by decide)
  clear hX0
  refine z_st (st' := []) rfl ?_
  refine z_aload_n dX9_firstWrong_11 rfl rfl ?_
  have hX0 := kX9_skipBlanks 1 (Nat.le_refl _) hW ga0 
  refine z_callV (As := []) eX9_skipBlanks sX9_skipBlanks lX9_44 rfl dX9_firstWrong_12 (hW.ob ga0 (by decide)).choose_spec hX0 (Nat.le_trans (by decide) hd) rfl (Nat.le_of_ble_eq_true rfl) (fun r cs hp => ?_)
  obtain ⟨τ, rfl, hW, k8⟩ := hp
  have hX := hX.tr k8 (by decide)
  have ga0 := k8.1.e ga0 (by decide)
  clear hX0
  refine z_st (st' := []) rfl ?_
  refine z_aload_n dX9_firstWrong_15 rfl rfl ?_
  refine tw_getO hW ga0 (by decide) (by decide) rfl kX9 fX9_24 dX9_firstWrong_16 (fun b9 pb9 gb9 => ?_)
  have gb9 : oT τ b9 5 := ⟨_, gb9⟩
  refine z_aload_n dX9_firstWrong_19 rfl rfl ?_
  refine tw_getI hW ga0 (by decide) (by decide) rfl kX9 fX9_9 dX9_firstWrong_20 (fun x10 _ vx10 gx10 => ?_)
  have hX0 := kX5_at 0 (Nat.le_refl _) hW gb9 gx10 
  refine z_callV (As := [_]) eX5_at sX5_at lX9_47 rfl dX9_firstWrong_23 (hW.os gb9).choose_spec hX0 (Nat.le_trans (by decide) hd) rfl (Nat.le_of_ble_eq_true rfl) (fun r cs1 hp => ?_)
  obtain ⟨hcs, r12, rfl, gr12, n11_0⟩ := hp
  obtain rfl := hcs.symm
  refine z_st (st' := [.int (Int32.ofInt r12)]) rfl ?_
  refine z_bipush (v := Int32.ofInt 60) dX9_firstWrong_26 (by decide) ?_
  refine i_icmp_eq (tgt := 36) dX9_firstWrong_28 (by decide) gr12 (show rng 60 from ⟨by decide, by decide⟩) (fun h13 => ?_) (fun h13 => ?_)
  · refine z_aload_n dX9_firstWrong_36 rfl rfl ?_
    have hX0 := kX9_startTag 8 (Nat.le_refl _) hW ga0 
    refine z_callV (As := []) eX9_startTag sX9_startTag lX9_53 rfl dX9_firstWrong_37 (hW.ob ga0 (by decide)).choose_spec hX0 (Nat.le_trans (by decide) hd) rfl (Nat.le_of_ble_eq_true rfl) (fun r cs hp => ?_)
    obtain ⟨τ, rfl, hW, k16⟩ := hp
    have hX := hX.tr k16 (by decide)
    have ga0 := k16.1.e ga0 (by decide)
    clear hX0
    refine z_st (st' := []) rfl ?_
    refine z_iconst (v := Int32.ofInt 0) dX9_firstWrong_40 rfl ?_
    refine z_istore_n dX9_firstWrong_41 rfl (by decide) ?_
    refine z_loc (L' := [(0, .ref (G.1 + a0)), (1, .int (Int32.ofInt 0))]) (List.forall_mem_cons.mpr ⟨rfl, (List.forall_mem_cons.mpr ⟨rfl, (fun _ h => nomatch h)⟩)⟩) ?_
    refine z_loc (L' := [(0, .ref (G.1 + a0)), (1, .int (Int32.ofInt 0))]) (List.forall_mem_cons.mpr ⟨rfl, (List.forall_mem_cons.mpr ⟨rfl, (fun _ h => nomatch h)⟩)⟩) ?_
    exact bX9_firstWrong_42 hd hW hX ga0 (show rng 0 from ⟨by decide, by decide⟩)   hP 
  · refine z_aload_n dX9_firstWrong_31 rfl rfl ?_
    refine tw_getI hW ga0 (by decide) (by decide) rfl kX9 fX9_9 dX9_firstWrong_32 (fun x17 _ vx17 gx17 => ?_)
    exact z_ireturn dX9_firstWrong_35 rfl rfl (hP _ _ _ hW hX gx17 trivial)

set_option maxRecDepth 100000 in
set_option maxHeartbeats 4000000 in
theorem kX1_cell {G : xG} {B : Nat × Nat} {τ : Tau} {cs : List va_E} {a0 pa0 : Nat} {l1 : Int} {l2 : Int} {l3 : Int} (d : Nat) (hd : 1 ≤ d) (hW : WT G B τ cs) (ga0 : τ a0 = some (.inl (1, pa0))) (gl1 : rng l1) (gl2 : rng l2) (gl3 : rng l3)  : X G yX1_cell cX1_cell 4 (some .int) d [.ref (G.1 + a0), .int (Int32.ofInt l1), .int (Int32.ofInt l2), .int (Int32.ofInt l3)] cs (rI cs (fun r => True)) := by
  refine X.of false (by decide +kernel) (by decide) (Nat.le_of_ble_eq_true rfl) ?_
  show Z (RX1, cX1_cell, 4, some .int, false) G d _ 0 [(0, .ref (G.1 + a0)), (1, .int (Int32.ofInt l1)), (2, .int (Int32.ofInt l2)), (3, .int (Int32.ofInt l3))] [] cs
  have hP : ∀ r : Int, rng r → (True) → rI cs (fun r => True) (some (.int (Int32.ofInt r))) cs := fun r h1 h2 => ⟨rfl, r, rfl, h1, h2⟩
  refine z_aload_n dX1_cell_0 rfl rfl ?_
  refine z_iload_n dX1_cell_1 rfl rfl ?_
  refine z_iload_n dX1_cell_2 rfl rfl ?_
  refine z_iload_n dX1_cell_3 rfl rfl ?_
  have hX0 := kX1_hasCell 0 (Nat.le_refl _) hW ga0 gl1 gl2 gl3 
  refine z_callV (As := [_, _, _]) eX1_hasCell sX1_hasCell lX1_33 rfl dX1_cell_4 (hW.ob ga0 (by decide)).choose_spec hX0 (Nat.le_trans (by decide) hd) rfl (Nat.le_of_ble_eq_true rfl) (fun r cs1 hp => ?_)
  obtain ⟨hcs, r2, rfl, gr2, ⟨n1_0, n1_1⟩⟩ := hp
  obtain rfl := hcs.symm
  refine z_st (st' := [.int (Int32.ofInt r2)]) rfl ?_
  refine i_if_eq (tgt := 28) dX1_cell_7 (by decide) gr2 (fun h3 => ?_) (fun h3 => ?_)
  · refine z_bipush (v := Int32.ofInt (-2)) dX1_cell_28 (by decide) ?_
    exact z_ireturn dX1_cell_30 rfl rfl (hP _ (show rng (-2) from ⟨by decide, by decide⟩) trivial)
  · refine z_aload_n dX1_cell_10 rfl rfl ?_
    refine tw_getA hW ga0 (by decide) (by decide) rfl kX1 fX1_18 dX1_cell_11 (fun b4 _ gb4 => ?_)
    refine z_iload_n dX1_cell_14 rfl rfl ?_
    refine z_iconst (v := Int32.ofInt 4) dX1_cell_15 rfl ?_
    refine tw_imul dX1_cell_16 (fun z5 gz5 ez5 => ?_)
    first | have ez5 := ez5 ⟨by omega, by omega⟩ | clear ez5
    refine z_iload_n dX1_cell_17 rfl rfl ?_
    refine tw_iadd dX1_cell_18 (fun z6 gz6 ez6 => ?_)
    first | have ez6 := ez6 ⟨by omega, by omega⟩ | clear ez6
    refine z_bipush (v := Int32.ofInt 20) dX1_cell_19 (by decide) ?_
    refine tw_imul dX1_cell_21 (fun z7 gz7 ez7 => ?_)
    first | have ez7 := ez7 ⟨by omega, by omega⟩ | clear ez7
    refine z_iload_n dX1_cell_22 rfl rfl ?_
    refine tw_iadd dX1_cell_23 (fun z8 gz8 ez8 => ?_)
    first | have ez8 := ez8 ⟨by omega, by omega⟩ | clear ez8
    refine tw_iald hW gb4 (by omega) (by omega) dX1_cell_24 (fun x9 _ vx9 gx9 => ?_)
    refine z_goto (tgt := 30) dX1_cell_25 (by decide) ?_
    exact z_ireturn dX1_cell_30 rfl rfl (hP _ gx9 trivial)

set_option maxRecDepth 100000 in
set_option maxHeartbeats 4000000 in
theorem bX2_pairs_22 {G : xG} {d : Nat} {Post : xP} {B : Nat × Nat} {τ0 τ : Tau} {c0 cs : List va_E} {a0 pa0 : Nat} {l1 : Int} {l2 : Int} (hd : 2 ≤ d) (hW : WT G B τ cs) (hX : Fx [2] τ0 c0 τ cs) (ga0 : τ a0 = some (.inl (2, pa0))) (gl1 : rng l1) (gl2 : rng l2)   (hP : ∀ (τ1 : Tau) (c1 : List va_E) (r : Int), WT G B τ1 c1 → Fx [2] τ0 c0 τ1 c1 → rng r → ((iv 0 1 r)) → Post (some (.int (Int32.ofInt r))) c1)  : Z (RX2, cX2_pairs, 3, some .boolean, false) G d Post 22 [(0, .ref (G.1 + a0)), (1, .int (Int32.ofInt l1)), (2, .int (Int32.ofInt l2))] [] cs := by
  refine z_aload_n dX2_pairs_22 rfl rfl ?_
  refine tw_getO hW ga0 (by decide) (by decide) rfl kX2 fX2_29 dX2_pairs_23 (fun b1 pb1 gb1 => ?_)
  refine z_iload_n dX2_pairs_26 rfl rfl ?_
  have hX0 := kX1_has 0 (Nat.le_refl _) hW gb1 gl1 
  refine z_callV (As := [_]) eX1_has sX1_has lX2_49 rfl dX2_pairs_27 (hW.ob gb1 (by decide)).choose_spec hX0 (Nat.le_trans (by decide) hd) rfl (Nat.le_of_ble_eq_true rfl) (fun r cs1 hp => ?_)
  obtain ⟨hcs, r3, rfl, gr3, ⟨n2_0, n2_1⟩⟩ := hp
  obtain rfl := hcs.symm
  refine z_st (st' := [.int (Int32.ofInt r3)]) rfl ?_
  refine z_aload_n dX2_pairs_30 rfl rfl ?_
  refine tw_getO hW ga0 (by decide) (by decide) rfl kX2 fX2_33 dX2_pairs_31 (fun b4 pb4 gb4 => ?_)
  refine z_iload_n dX2_pairs_34 rfl rfl ?_
  have hX0 := kX1_has 0 (Nat.le_refl _) hW gb4 gl2 
  refine z_callV (As := [_]) eX1_has sX1_has lX2_49 rfl dX2_pairs_35 (hW.ob gb4 (by decide)).choose_spec hX0 (Nat.le_trans (by decide) hd) rfl (Nat.le_of_ble_eq_true rfl) (fun r cs1 hp => ?_)
  obtain ⟨hcs, r6, rfl, gr6, ⟨n5_0, n5_1⟩⟩ := hp
  obtain rfl := hcs.symm
  refine z_st (st' := [.int (Int32.ofInt r6), .int (Int32.ofInt r3)]) rfl ?_
  refine i_icmp_ne (tgt := 45) dX2_pairs_38 (by decide) gr3 gr6 (fun h7 => ?_) (fun h7 => ?_)
  · refine z_iconst (v := Int32.ofInt 0) dX2_pairs_45 rfl ?_
    exact z_ireturn dX2_pairs_46 rfl (nar01 (b01 ⟨by decide, by decide⟩)) (hP _ _ _ hW hX (show rng 0 from ⟨by decide, by decide⟩) (by omega))
  · refine z_iconst (v := Int32.ofInt 1) dX2_pairs_41 rfl ?_
    refine z_goto (tgt := 46) dX2_pairs_42 (by decide) ?_
    exact z_ireturn dX2_pairs_46 rfl (nar01 (b01 ⟨by decide, by decide⟩)) (hP _ _ _ hW hX (show rng 1 from ⟨by decide, by decide⟩) (by omega))
set_option maxRecDepth 100000 in
set_option maxHeartbeats 4000000 in
theorem bX2_pairs_69 {G : xG} {d : Nat} {Post : xP} {B : Nat × Nat} {τ0 τ : Tau} {c0 cs : List va_E} {a0 pa0 : Nat} {l1 : Int} {l2 : Int} (hd : 2 ≤ d) (hW : WT G B τ cs) (hX : Fx [2] τ0 c0 τ cs) (ga0 : τ a0 = some (.inl (2, pa0))) (gl1 : rng l1) (gl2 : rng l2) (i0 : iv 0 29 l1) (i1 : iv 0 29 l2)  (hP : ∀ (τ1 : Tau) (c1 : List va_E) (r : Int), WT G B τ1 c1 → Fx [2] τ0 c0 τ1 c1 → rng r → ((iv 0 1 r)) → Post (some (.int (Int32.ofInt r))) c1)  : Z (RX2, cX2_pairs, 3, some .boolean, false) G d Post 69 [(0, .ref (G.1 + a0)), (1, .int (Int32.ofInt l1)), (2, .int (Int32.ofInt l2))] [] cs := by
  refine z_aload_n dX2_pairs_69 rfl rfl ?_
  refine tw_getA hW ga0 (by decide) (by decide) rfl kX2 fX2_9 dX2_pairs_70 (fun b1 _ gb1 => ?_)
  refine z_iload_n dX2_pairs_73 rfl rfl ?_
  refine tw_iald hW gb1 (by omega) (by omega) dX2_pairs_74 (fun x2 _ vx2 gx2 => ?_)
  refine z_iload_n dX2_pairs_75 rfl rfl ?_
  refine i_icmp_ne (tgt := 83) dX2_pairs_76 (by decide) gx2 gl2 (fun h3 => ?_) (fun h3 => ?_)
  · refine z_iconst (v := Int32.ofInt 0) dX2_pairs_83 rfl ?_
    exact z_ireturn dX2_pairs_84 rfl (nar01 (b01 ⟨by decide, by decide⟩)) (hP _ _ _ hW hX (show rng 0 from ⟨by decide, by decide⟩) (by omega))
  · refine z_iconst (v := Int32.ofInt 1) dX2_pairs_79 rfl ?_
    refine z_goto (tgt := 84) dX2_pairs_80 (by decide) ?_
    exact z_ireturn dX2_pairs_84 rfl (nar01 (b01 ⟨by decide, by decide⟩)) (hP _ _ _ hW hX (show rng 1 from ⟨by decide, by decide⟩) (by omega))
set_option maxRecDepth 100000 in
set_option maxHeartbeats 4000000 in
theorem kX2_pairs {G : xG} {B : Nat × Nat} {τ : Tau} {cs : List va_E} {a0 pa0 : Nat} {l1 : Int} {l2 : Int} (d : Nat) (hd : 2 ≤ d) (hW : WT G B τ cs) (ga0 : τ a0 = some (.inl (2, pa0))) (gl1 : rng l1) (gl2 : rng l2)  : X G yX2_pairs cX2_pairs 3 (some .boolean) d [.ref (G.1 + a0), .int (Int32.ofInt l1), .int (Int32.ofInt l2)] cs (wI G B τ cs [2] (fun r => (iv 0 1 r))) := by
  refine X.of false (by decide +kernel) (by decide) (Nat.le_of_ble_eq_true rfl) ?_
  show Z (RX2, cX2_pairs, 3, some .boolean, false) G d _ 0 [(0, .ref (G.1 + a0)), (1, .int (Int32.ofInt l1)), (2, .int (Int32.ofInt l2))] [] cs
  have hP : ∀ (τ1 : Tau) (c1 : List va_E) (r : Int), WT G B τ1 c1 → Fx [2] τ cs τ1 c1 → rng r → ((iv 0 1 r)) → wI G B τ cs [2] (fun r => (iv 0 1 r)) (some (.int (Int32.ofInt r))) c1 := fun τ1 c1 r h1 h2 h3 h4 => ⟨τ1, r, rfl, h3, h1, h2, h4⟩
  have hX : Fx [2] τ cs τ cs := Fx.rf
  skip
  refine z_aload_n dX2_pairs_0 rfl rfl ?_
  refine tw_getO hW ga0 (by decide) (by decide) rfl kX2 fX2_29 dX2_pairs_1 (fun b1 pb1 gb1 => ?_)
  refine z_iload_n dX2_pairs_4 rfl rfl ?_
  have hX0 := kX1_has 0 (Nat.le_refl _) hW gb1 gl1 
  refine z_callV (As := [_]) eX1_has sX1_has lX2_49 rfl dX2_pairs_5 (hW.ob gb1 (by decide)).choose_spec hX0 (Nat.le_trans (by decide) hd) rfl (Nat.le_of_ble_eq_true rfl) (fun r cs1 hp => ?_)
  obtain ⟨hcs, r3, rfl, gr3, ⟨n2_0, n2_1⟩⟩ := hp
  obtain rfl := hcs.symm
  refine z_st (st' := [.int (Int32.ofInt r3)]) rfl ?_
  refine i_if_eq (tgt := 22) dX2_pairs_8 (by decide) gr3 (fun h4 => ?_) (fun h4 => ?_)
  · refine z_loc (L' := [(0, .ref (G.1 + a0)), (1, .int (Int32.ofInt l1)), (2, .int (Int32.ofInt l2))]) (List.forall_mem_cons.mpr ⟨rfl, (List.forall_mem_cons.mpr ⟨rfl, (List.forall_mem_cons.mpr ⟨rfl, (fun _ h => nomatch h)⟩)⟩)⟩) ?_
    exact bX2_pairs_22 hd hW hX ga0 gl1 gl2   hP 
  · refine z_aload_n dX2_pairs_11 rfl rfl ?_
    refine tw_getO hW ga0 (by decide) (by decide) rfl kX2 fX2_33 dX2_pairs_12 (fun b5 pb5 gb5 => ?_)
    refine z_iload_n dX2_pairs_15 rfl rfl ?_
    have hX0 := kX1_has 0 (Nat.le_refl _) hW gb5 gl2 
    refine z_callV (As := [_]) eX1_has sX1_has lX2_49 rfl dX2_pairs_16 (hW.ob gb5 (by decide)).choose_spec hX0 (Nat.le_trans (by decide) hd) rfl (Nat.le_of_ble_eq_true rfl) (fun r cs1 hp => ?_)
    obtain ⟨hcs, r7, rfl, gr7, ⟨n6_0, n6_1⟩⟩ := hp
    obtain rfl := hcs.symm
    refine z_st (st' := [.int (Int32.ofInt r7)]) rfl ?_
    refine i_if_ne (tgt := 47) dX2_pairs_19 (by decide) gr7 (fun h8 => ?_) (fun h8 => ?_)
    · refine z_aload_n dX2_pairs_47 rfl rfl ?_
      refine tw_getA hW ga0 (by decide) (by decide) rfl kX2 fX2_9 dX2_pairs_48 (fun b9 _ gb9 => ?_)
      refine z_iload_n dX2_pairs_51 rfl rfl ?_
      refine tw_iald hW gb9 (by omega) (by omega) dX2_pairs_52 (fun x10 _ vx10 gx10 => ?_)
      refine z_bipush (v := Int32.ofInt (-2)) dX2_pairs_53 (by decide) ?_
      refine i_icmp_ne (tgt := 69) dX2_pairs_55 (by decide) gx10 (show rng (-2) from ⟨by decide, by decide⟩) (fun h11 => ?_) (fun h11 => ?_)
      · refine z_loc (L' := [(0, .ref (G.1 + a0)), (1, .int (Int32.ofInt l1)), (2, .int (Int32.ofInt l2))]) (List.forall_mem_cons.mpr ⟨rfl, (List.forall_mem_cons.mpr ⟨rfl, (List.forall_mem_cons.mpr ⟨rfl, (fun _ h => nomatch h)⟩)⟩)⟩) ?_
        exact bX2_pairs_69 hd hW hX ga0 gl1 gl2 (by omega) (by omega)  hP 
      · refine z_aload_n dX2_pairs_58 rfl rfl ?_
        refine tw_getA hW ga0 (by decide) (by decide) rfl kX2 fX2_15 dX2_pairs_59 (fun b12 _ gb12 => ?_)
        refine z_iload_n dX2_pairs_62 rfl rfl ?_
        refine tw_iald hW gb12 (by omega) (by omega) dX2_pairs_63 (fun x13 _ vx13 gx13 => ?_)
        refine z_bipush (v := Int32.ofInt (-2)) dX2_pairs_64 (by decide) ?_
        refine i_icmp_eq (tgt := 85) dX2_pairs_66 (by decide) gx13 (show rng (-2) from ⟨by decide, by decide⟩) (fun h14 => ?_) (fun h14 => ?_)
        · refine z_aload_n dX2_pairs_85 rfl rfl ?_
          refine tw_getO hW ga0 (by decide) (by decide) rfl kX2 fX2_29 dX2_pairs_86 (fun b15 pb15 gb15 => ?_)
          refine z_iload_n dX2_pairs_89 rfl rfl ?_
          have hX0 := kX1_classOf 1 (Nat.le_refl _) hW gb15 gl1 
          refine z_callV (As := [_]) eX1_classOf sX1_classOf lX2_55 rfl dX2_pairs_90 (hW.ob gb15 (by decide)).choose_spec hX0 (Nat.le_trans (by decide) hd) rfl (Nat.le_of_ble_eq_true rfl) (fun r cs1 hp => ?_)
          obtain ⟨hcs, r17, rfl, gr17, _⟩ := hp
          obtain rfl := hcs.symm
          refine z_st (st' := [.int (Int32.ofInt r17)]) rfl ?_
          refine z_aload_n dX2_pairs_93 rfl rfl ?_
          refine tw_getO hW ga0 (by decide) (by decide) rfl kX2 fX2_33 dX2_pairs_94 (fun b18 pb18 gb18 => ?_)
          refine z_iload_n dX2_pairs_97 rfl rfl ?_
          have hX0 := kX1_classOf 1 (Nat.le_refl _) hW gb18 gl2 
          refine z_callV (As := [_]) eX1_classOf sX1_classOf lX2_55 rfl dX2_pairs_98 (hW.ob gb18 (by decide)).choose_spec hX0 (Nat.le_trans (by decide) hd) rfl (Nat.le_of_ble_eq_true rfl) (fun r cs1 hp => ?_)
          obtain ⟨hcs, r20, rfl, gr20, _⟩ := hp
          obtain rfl := hcs.symm
          refine z_st (st' := [.int (Int32.ofInt r20), .int (Int32.ofInt r17)]) rfl ?_
          refine i_icmp_ne (tgt := 113) dX2_pairs_101 (by decide) gr17 gr20 (fun h21 => ?_) (fun h21 => ?_)
          · refine z_iconst (v := Int32.ofInt 0) dX2_pairs_113 rfl ?_
            exact z_ireturn dX2_pairs_114 rfl (nar01 (b01 ⟨by decide, by decide⟩)) (hP _ _ _ hW hX (show rng 0 from ⟨by decide, by decide⟩) (by omega))
          · refine z_aload_n dX2_pairs_104 rfl rfl ?_
            refine tw_getI hW ga0 (by decide) (by decide) rfl kX2 fX2_21 dX2_pairs_105 (fun x22 qx22 vx22 gx22 => ?_)
            refine z_bipush (v := Int32.ofInt 30) dX2_pairs_108 (by decide) ?_
            refine i_icmp_lt (tgt := 115) dX2_pairs_110 (by decide) gx22 (show rng 30 from ⟨by decide, by decide⟩) (fun h23 => ?_) (fun h23 => ?_)
            · refine z_aload_n dX2_pairs_115 rfl rfl ?_
              refine tw_getA hW ga0 (by decide) (by decide) rfl kX2 fX2_9 dX2_pairs_116 (fun b24 _ gb24 => ?_)
              refine z_iload_n dX2_pairs_119 rfl rfl ?_
              refine z_iload_n dX2_pairs_120 rfl rfl ?_
              refine tw_iast hW hX gb24 (by omega) (by omega) (any_ok _) (Or.inl rfl) dX2_pairs_121 (fun c1 q _ => nA hW gb24 (show (2147483647 : Int) ≠ 600 by decide) (show (2147483647 : Int) ≠ 601 by decide) c1 q) (fun cs hW hX hfr _ => ?_)
              have f25 := fld_fr (k := 6) hfr ga0 gb24
              clear hfr
              refine z_aload_n dX2_pairs_122 rfl rfl ?_
              refine tw_getA hW ga0 (by decide) (by decide) rfl kX2 fX2_15 dX2_pairs_123 (fun b26 _ gb26 => ?_)
              refine z_iload_n dX2_pairs_126 rfl rfl ?_
              refine z_iload_n dX2_pairs_127 rfl rfl ?_
              refine tw_iast hW hX gb26 (by omega) (by omega) (any_ok _) (Or.inl rfl) dX2_pairs_128 (fun c1 q _ => nA hW gb26 (show (2147483647 : Int) ≠ 600 by decide) (show (2147483647 : Int) ≠ 601 by decide) c1 q) (fun cs hW hX hfr _ => ?_)
              have f27 := fld_fr (k := 6) hfr ga0 gb26
              clear hfr
              refine z_aload_n dX2_pairs_129 rfl rfl ?_
              refine tw_getA hW ga0 (by decide) (by decide) rfl kX2 fX2_18 dX2_pairs_130 (fun b28 _ gb28 => ?_)
              refine z_aload_n dX2_pairs_133 rfl rfl ?_
              refine tw_getI hW ga0 (by decide) (by decide) rfl kX2 fX2_21 dX2_pairs_134 (fun x29 qx29 vx29 gx29 => ?_)
              refine z_iload_n dX2_pairs_137 rfl rfl ?_
              refine tw_iast hW hX gb28 (by omega) (by omega) (iv_ok (by omega) (by decide) (by decide)) (Or.inl rfl) dX2_pairs_138 (fun c1 q _ => nA hW gb28 (show (29 : Int) ≠ 600 by decide) (show (29 : Int) ≠ 601 by decide) c1 q) (fun cs hW hX hfr _ => ?_)
              have f30 := fld_fr (k := 6) hfr ga0 gb28
              clear hfr
              refine z_aload_n dX2_pairs_139 rfl rfl ?_
              refine z_dup dX2_pairs_140 rfl ?_
              refine tw_getI hW ga0 (by decide) (by decide) rfl kX2 fX2_21 dX2_pairs_141 (fun x31 qx31 vx31 gx31 => ?_)
              refine z_iconst (v := Int32.ofInt 1) dX2_pairs_144 rfl ?_
              refine tw_iadd dX2_pairs_145 (fun z32 gz32 ez32 => ?_)
              first | have ez32 := ez32 ⟨by omega, by omega⟩ | clear ez32
              refine tw_putI hW hX ga0 (by decide) (by decide) rfl kX2 fX2_21 dX2_pairs_146 rfl rfl rfl (iv_ok (by omega) (by decide) (by decide)) (by decide) (fun c1 q _ _ => nT hW ga0 (by decide) c1 q) (fun cs hW hX f33 _ _ => ?_)
              rw [rng_toInt gz32] at f33
              refine z_iconst (v := Int32.ofInt 1) dX2_pairs_149 rfl ?_
              exact z_ireturn dX2_pairs_150 rfl (nar01 (b01 ⟨by decide, by decide⟩)) (hP _ _ _ hW hX (show rng 1 from ⟨by decide, by decide⟩) (by omega))
            · refine z_iconst (v := Int32.ofInt 0) dX2_pairs_113 rfl ?_
              exact z_ireturn dX2_pairs_114 rfl (nar01 (b01 ⟨by decide, by decide⟩)) (hP _ _ _ hW hX (show rng 0 from ⟨by decide, by decide⟩) (by omega))
        · refine z_loc (L' := [(0, .ref (G.1 + a0)), (1, .int (Int32.ofInt l1)), (2, .int (Int32.ofInt l2))]) (List.forall_mem_cons.mpr ⟨rfl, (List.forall_mem_cons.mpr ⟨rfl, (List.forall_mem_cons.mpr ⟨rfl, (fun _ h => nomatch h)⟩)⟩)⟩) ?_
          exact bX2_pairs_69 hd hW hX ga0 gl1 gl2 (by omega) (by omega)  hP 
    · refine z_loc (L' := [(0, .ref (G.1 + a0)), (1, .int (Int32.ofInt l1)), (2, .int (Int32.ofInt l2))]) (List.forall_mem_cons.mpr ⟨rfl, (List.forall_mem_cons.mpr ⟨rfl, (List.forall_mem_cons.mpr ⟨rfl, (fun _ h => nomatch h)⟩)⟩)⟩) ?_
      exact bX2_pairs_22 hd hW hX ga0 gl1 gl2   hP 

