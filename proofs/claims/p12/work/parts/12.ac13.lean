set_option maxRecDepth 100000 in
set_option maxHeartbeats 4000000 in
theorem bX3_leads_130 {G : xG} {d : Nat} {Post : xP} {B : Nat × Nat} {τ0 τ : Tau} {c0 cs : List va_E} {a0 pm : Nat} {l1 : Int} {s0 : Int} (hd : 5 ≤ d) (hW : WT G B τ cs) (hX : Fx [1] τ0 c0 τ cs) (ga0 : τ a0 = some (.inl (3, pm))) (gl1 : rng l1) (gs0 : rng s0) (i0 : 0 ≤ l1) (i1 : l1 < (pm : Nat))  (hP : ∀ (τ1 : Tau) (c1 : List va_E) (r : Int), WT G B τ1 c1 → Fx [1] τ0 c0 τ1 c1 → rng r → ((iv 0 1 r)) → Post (some (.int (Int32.ofInt r))) c1)  : Z (RX3, cX3_leads, 6, some .boolean, false) G d Post 130 [(0, .ref (G.1 + a0)), (1, .int (Int32.ofInt l1))] [.int (Int32.ofInt s0)] cs := by
  have hpm := hW.2.1.2.2.2.2.2.2.1 _ _ ga0
  refine z_istore dX3_leads_130 (by decide) ?_
  refine z_loc (L' := [(0, .ref (G.1 + a0)), (1, .int (Int32.ofInt l1)), (5, .int (Int32.ofInt s0))]) (List.forall_mem_cons.mpr ⟨rfl, (List.forall_mem_cons.mpr ⟨rfl, (List.forall_mem_cons.mpr ⟨rfl, (fun _ h => nomatch h)⟩)⟩)⟩) ?_
  refine z_iload dX3_leads_132 rfl ?_
  refine i_if_lt (tgt := 154) dX3_leads_134 (by decide) gs0 (fun h1 => ?_) (fun h1 => ?_)
  · refine z_iconst (v := Int32.ofInt 0) dX3_leads_154 rfl ?_
    exact z_ireturn dX3_leads_155 rfl (nar01 (b01 ⟨by decide, by decide⟩)) (hP _ _ _ hW hX (show rng 0 from ⟨by decide, by decide⟩) (by omega))
  · refine z_iload dX3_leads_137 rfl ?_
    refine z_iload_n dX3_leads_139 rfl rfl ?_
    refine i_icmp_ge (tgt := 154) dX3_leads_140 (by decide) gs0 gl1 (fun h2 => ?_) (fun h2 => ?_)
    · refine z_iconst (v := Int32.ofInt 0) dX3_leads_154 rfl ?_
      exact z_ireturn dX3_leads_155 rfl (nar01 (b01 ⟨by decide, by decide⟩)) (hP _ _ _ hW hX (show rng 0 from ⟨by decide, by decide⟩) (by omega))
    · refine z_aload_n dX3_leads_143 rfl rfl ?_
      refine tw_getA hW ga0 (by decide) (by decide) rfl kX3 fX3_54 dX3_leads_144 (fun b3 _ gb3 => ?_)
      refine z_iload dX3_leads_147 rfl ?_
      refine tw_iald hW gb3 (by omega) (by omega) dX3_leads_149 (fun x4 _ vx4 gx4 => ?_)
      refine z_iconst (v := Int32.ofInt 1) dX3_leads_150 rfl ?_
      refine i_icmp_eq (tgt := 156) dX3_leads_151 (by decide) gx4 (show rng 1 from ⟨by decide, by decide⟩) (fun h5 => ?_) (fun h5 => ?_)
      · refine z_aload_n dX3_leads_156 rfl rfl ?_
        refine tw_getA hW ga0 (by decide) (by decide) rfl kX3 fX3_63 dX3_leads_157 (fun b6 _ gb6 => ?_)
        refine z_iload_n dX3_leads_160 rfl rfl ?_
        refine tw_iald hW gb6 (by omega) (by omega) dX3_leads_161 (fun x7 _ vx7 gx7 => ?_)
        refine z_iconst (v := Int32.ofInt (-1)) dX3_leads_162 rfl ?_
        refine i_icmp_ne (tgt := 194) dX3_leads_163 (by decide) gx7 (show rng (-1) from ⟨by decide, by decide⟩) (fun h8 => ?_) (fun h8 => ?_)
        · refine z_aload_n dX3_leads_194 rfl rfl ?_
          refine tw_getO hW ga0 (by decide) (by decide) rfl kX3 fX3_37 dX3_leads_195 (fun b9 pb9 gb9 => ?_)
          refine z_aload_n dX3_leads_198 rfl rfl ?_
          refine tw_getA hW ga0 (by decide) (by decide) rfl kX3 fX3_57 dX3_leads_199 (fun b10 _ gb10 => ?_)
          refine z_iload_n dX3_leads_202 rfl rfl ?_
          refine tw_iald hW gb10 (by omega) (by omega) dX3_leads_203 (fun x11 _ vx11 gx11 => ?_)
          refine z_aload_n dX3_leads_204 rfl rfl ?_
          refine tw_getA hW ga0 (by decide) (by decide) rfl kX3 fX3_60 dX3_leads_205 (fun b12 _ gb12 => ?_)
          refine z_iload_n dX3_leads_208 rfl rfl ?_
          refine tw_iald hW gb12 (by omega) (by omega) dX3_leads_209 (fun x13 _ vx13 gx13 => ?_)
          refine z_aload_n dX3_leads_210 rfl rfl ?_
          refine tw_getA hW ga0 (by decide) (by decide) rfl kX3 fX3_63 dX3_leads_211 (fun b14 _ gb14 => ?_)
          refine z_iload_n dX3_leads_214 rfl rfl ?_
          refine tw_iald hW gb14 (by omega) (by omega) dX3_leads_215 (fun x15 _ vx15 gx15 => ?_)
          refine z_aload_n dX3_leads_216 rfl rfl ?_
          refine tw_getA hW ga0 (by decide) (by decide) rfl kX3 fX3_57 dX3_leads_217 (fun b16 _ gb16 => ?_)
          refine z_iload dX3_leads_220 rfl ?_
          refine tw_iald hW gb16 (by omega) (by omega) dX3_leads_222 (fun x17 _ vx17 gx17 => ?_)
          have hX0 := kX1_putCell 1 (Nat.le_refl _) hW gb9 gx11 gx13 gx15 gx17 
          refine z_callV (As := [_, _, _, _]) eX1_putCell sX1_putCell lX3_160 rfl dX3_leads_223 (hW.ob gb9 (by decide)).choose_spec hX0 (Nat.le_trans (by decide) hd) rfl (Nat.le_of_ble_eq_true rfl) (fun r cs hp => ?_)
          obtain ⟨τ, rfl, hW, k20⟩ := hp
          have hX := hX.tr k20 (by decide)
          have ga0 := k20.1.e ga0 (by decide)
          clear hX0
          refine z_st (st' := []) rfl ?_
          refine z_aload_n dX3_leads_226 rfl rfl ?_
          refine tw_getO hW ga0 (by decide) (by decide) rfl kX3 fX3_15 dX3_leads_227 (fun b21 pb21 gb21 => ?_)
          refine z_aload_n dX3_leads_230 rfl rfl ?_
          refine tw_getO hW ga0 (by decide) (by decide) rfl kX3 fX3_37 dX3_leads_231 (fun b22 pb22 gb22 => ?_)
          refine z_aload_n dX3_leads_234 rfl rfl ?_
          refine tw_getA hW ga0 (by decide) (by decide) rfl kX3 fX3_57 dX3_leads_235 (fun b23 _ gb23 => ?_)
          refine z_iload dX3_leads_238 rfl ?_
          refine tw_iald hW gb23 (by omega) (by omega) dX3_leads_240 (fun x24 _ vx24 gx24 => ?_)
          have hX0 := kX1_classOf 1 (Nat.le_refl _) hW gb22 gx24 
          refine z_callV (As := [_]) eX1_classOf sX1_classOf lX3_122 rfl dX3_leads_241 (hW.ob gb22 (by decide)).choose_spec hX0 (Nat.le_trans (by decide) hd) rfl (Nat.le_of_ble_eq_true rfl) (fun r cs1 hp => ?_)
          obtain ⟨hcs, r26, rfl, gr26, _⟩ := hp
          obtain rfl := hcs.symm
          refine z_st (st' := [.int (Int32.ofInt r26), .ref (G.1 + b21)]) rfl ?_
          refine z_aload_n dX3_leads_244 rfl rfl ?_
          refine tw_getO hW ga0 (by decide) (by decide) rfl kX3 fX3_29 dX3_leads_245 (fun b27 pb27 gb27 => ?_)
          have gb27 : oT τ b27 5 := ⟨_, gb27⟩
          refine z_aload_n dX3_leads_248 rfl rfl ?_
          refine tw_getO hW ga0 (by decide) (by decide) rfl kX3 fX3_19 dX3_leads_249 (fun b28 pb28 gb28 => ?_)
          refine z_iload_n dX3_leads_252 rfl rfl ?_
          have hX0 := kX6_nameFrom 1 (Nat.le_refl _) hW gb28 gl1 
          refine z_callV (As := [_]) eX6_nameFrom sX6_nameFrom lX3_88 rfl dX3_leads_253 (hW.ob gb28 (by decide)).choose_spec hX0 (Nat.le_trans (by decide) hd) rfl (Nat.le_of_ble_eq_true rfl) (fun r cs1 hp => ?_)
          obtain ⟨hcs, r30, rfl, gr30, _⟩ := hp
          obtain rfl := hcs.symm
          refine z_st (st' := [.int (Int32.ofInt r30), .ref (G.1 + b27), .int (Int32.ofInt r26), .ref (G.1 + b21)]) rfl ?_
          refine z_aload_n dX3_leads_256 rfl rfl ?_
          refine tw_getO hW ga0 (by decide) (by decide) rfl kX3 fX3_19 dX3_leads_257 (fun b31 pb31 gb31 => ?_)
          refine z_iload_n dX3_leads_260 rfl rfl ?_
          have hX0 := kX6_nameTo 1 (Nat.le_refl _) hW gb31 gl1 
          refine z_callV (As := [_]) eX6_nameTo sX6_nameTo lX3_91 rfl dX3_leads_261 (hW.ob gb31 (by decide)).choose_spec hX0 (Nat.le_trans (by decide) hd) rfl (Nat.le_of_ble_eq_true rfl) (fun r cs1 hp => ?_)
          obtain ⟨hcs, r33, rfl, gr33, _⟩ := hp
          obtain rfl := hcs.symm
          refine z_st (st' := [.int (Int32.ofInt r33), .int (Int32.ofInt r30), .ref (G.1 + b27), .int (Int32.ofInt r26), .ref (G.1 + b21)]) rfl ?_
          have hX0 := kX4_spells 1 (Nat.le_refl _) hW gb21 gr26 gb27 gr30 gr33 
          refine z_callV (As := [_, _, _, _]) eX4_spells sX4_spells lX3_235 rfl dX3_leads_264 (hW.ob gb21 (by decide)).choose_spec hX0 (Nat.le_trans (by decide) hd) rfl (Nat.le_of_ble_eq_true rfl) (fun r cs1 hp => ?_)
          obtain ⟨hcs, r35, rfl, gr35, n34_0⟩ := hp
          obtain rfl := hcs.symm
          refine z_st (st' := [.int (Int32.ofInt r35)]) rfl ?_
          exact z_ireturn dX3_leads_267 rfl (nar01 (b01 (by omega))) (hP _ _ _ hW hX gr35 (by omega))
        · refine z_aload_n dX3_leads_166 rfl rfl ?_
          refine tw_getO hW ga0 (by decide) (by decide) rfl kX3 fX3_37 dX3_leads_167 (fun b36 pb36 gb36 => ?_)
          refine z_aload_n dX3_leads_170 rfl rfl ?_
          refine tw_getA hW ga0 (by decide) (by decide) rfl kX3 fX3_57 dX3_leads_171 (fun b37 _ gb37 => ?_)
          refine z_iload_n dX3_leads_174 rfl rfl ?_
          refine tw_iald hW gb37 (by omega) (by omega) dX3_leads_175 (fun x38 _ vx38 gx38 => ?_)
          refine z_aload_n dX3_leads_176 rfl rfl ?_
          refine tw_getA hW ga0 (by decide) (by decide) rfl kX3 fX3_60 dX3_leads_177 (fun b39 _ gb39 => ?_)
          refine z_iload_n dX3_leads_180 rfl rfl ?_
          refine tw_iald hW gb39 (by omega) (by omega) dX3_leads_181 (fun x40 _ vx40 gx40 => ?_)
          refine z_aload_n dX3_leads_182 rfl rfl ?_
          refine tw_getA hW ga0 (by decide) (by decide) rfl kX3 fX3_57 dX3_leads_183 (fun b41 _ gb41 => ?_)
          refine z_iload dX3_leads_186 rfl ?_
          refine tw_iald hW gb41 (by omega) (by omega) dX3_leads_188 (fun x42 _ vx42 gx42 => ?_)
          have hX0 := kX1_putHead 1 (Nat.le_refl _) hW gb36 gx38 gx40 gx42 
          refine z_callV (As := [_, _, _]) eX1_putHead sX1_putHead lX3_152 rfl dX3_leads_189 (hW.ob gb36 (by decide)).choose_spec hX0 (Nat.le_trans (by decide) hd) rfl (Nat.le_of_ble_eq_true rfl) (fun r cs hp => ?_)
          obtain ⟨τ, rfl, hW, k45⟩ := hp
          have hX := hX.tr k45 (by decide)
          have ga0 := k45.1.e ga0 (by decide)
          clear hX0
          refine z_st (st' := []) rfl ?_
          refine z_iconst (v := Int32.ofInt 1) dX3_leads_192 rfl ?_
          exact z_ireturn dX3_leads_193 rfl (nar01 (b01 ⟨by decide, by decide⟩)) (hP _ _ _ hW hX (show rng 1 from ⟨by decide, by decide⟩) (by omega))
      · refine z_iconst (v := Int32.ofInt 0) dX3_leads_154 rfl ?_
        exact z_ireturn dX3_leads_155 rfl (nar01 (b01 ⟨by decide, by decide⟩)) (hP _ _ _ hW hX (show rng 0 from ⟨by decide, by decide⟩) (by omega))
set_option maxRecDepth 100000 in
set_option maxHeartbeats 4000000 in
theorem bX3_leads_100 {G : xG} {d : Nat} {Post : xP} {B : Nat × Nat} {τ0 τ : Tau} {c0 cs : List va_E} {a0 pm : Nat} {l1 : Int} {l2 : Int} {l3 : Int} {s0 : Int} (hd : 5 ≤ d) (hW : WT G B τ cs) (hX : Fx [1] τ0 c0 τ cs) (ga0 : τ a0 = some (.inl (3, pm))) (gl1 : rng l1) (gl2 : rng l2) (gl3 : rng l3) (gs0 : rng s0) (bs0 : iv 0 1 s0) (i0 : l3 ≤ 3000) (i1 : 0 ≤ l1) (i2 : l1 < (pm : Nat))  (hP : ∀ (τ1 : Tau) (c1 : List va_E) (r : Int), WT G B τ1 c1 → Fx [1] τ0 c0 τ1 c1 → rng r → ((iv 0 1 r)) → Post (some (.int (Int32.ofInt r))) c1)  : Z (RX3, cX3_leads, 6, some .boolean, false) G d Post 100 [(0, .ref (G.1 + a0)), (1, .int (Int32.ofInt l1)), (2, .int (Int32.ofInt l2)), (3, .int (Int32.ofInt l3))] [.int (Int32.ofInt s0)] cs := by
  have hpm := hW.2.1.2.2.2.2.2.2.1 _ _ ga0
  refine z_istore dX3_leads_100 (by decide) ?_
  refine z_loc (L' := [(0, .ref (G.1 + a0)), (1, .int (Int32.ofInt l1)), (2, .int (Int32.ofInt l2)), (3, .int (Int32.ofInt l3)), (4, .int (Int32.ofInt s0))]) (List.forall_mem_cons.mpr ⟨rfl, (List.forall_mem_cons.mpr ⟨rfl, (List.forall_mem_cons.mpr ⟨rfl, (List.forall_mem_cons.mpr ⟨rfl, (List.forall_mem_cons.mpr ⟨rfl, (fun _ h => nomatch h)⟩)⟩)⟩)⟩)⟩) ?_
  refine z_iload dX3_leads_102 rfl ?_
  refine i_if_eq (tgt := 120) dX3_leads_104 (by decide) gs0 (fun h1 => ?_) (fun h1 => ?_)
  · refine z_aload_n dX3_leads_120 rfl rfl ?_
    refine tw_getO hW ga0 (by decide) (by decide) rfl kX3 fX3_46 dX3_leads_121 (fun b2 pb2 gb2 => ?_)
    refine z_iload_n dX3_leads_124 rfl rfl ?_
    refine z_iload_n dX3_leads_125 rfl rfl ?_
    refine z_iload_n dX3_leads_126 rfl rfl ?_
    have hX0 := kX7_end 4 (Nat.le_refl _) hW gb2 gl1 gl2 gl3 (by omega) (by omega)
    refine z_callV (As := [_, _, _]) eX7_end sX7_end lX3_232 rfl dX3_leads_127 (hW.ob gb2 (by decide)).choose_spec hX0 (Nat.le_trans (by decide) hd) rfl (Nat.le_of_ble_eq_true rfl) (fun r cs1 hp => ?_)
    obtain ⟨hcs, r4, rfl, gr4, _⟩ := hp
    obtain rfl := hcs.symm
    refine z_st (st' := [.int (Int32.ofInt r4)]) rfl ?_
    refine z_loc (L' := [(0, .ref (G.1 + a0)), (1, .int (Int32.ofInt l1))]) (List.forall_mem_cons.mpr ⟨rfl, (List.forall_mem_cons.mpr ⟨rfl, (fun _ h => nomatch h)⟩)⟩) ?_
    exact bX3_leads_130 hd hW hX ga0 gl1 gr4 (by omega) (by omega)  hP 
  · refine z_aload_n dX3_leads_107 rfl rfl ?_
    refine z_aload_n dX3_leads_108 rfl rfl ?_
    refine z_iload_n dX3_leads_109 rfl rfl ?_
    refine z_iload_n dX3_leads_110 rfl rfl ?_
    have hX0 := kX3_idAt 1 (Nat.le_refl _) hW ga0 gl2 gl3 
    refine z_callV (As := [_, _]) eX3_idAt sX3_idAt lX3_205 rfl dX3_leads_111 (hW.ob ga0 (by decide)).choose_spec hX0 (Nat.le_trans (by decide) hd) rfl (Nat.le_of_ble_eq_true rfl) (fun r cs1 hp => ?_)
    obtain ⟨hcs, r6, rfl, gr6, _⟩ := hp
    obtain rfl := hcs.symm
    refine z_st (st' := [.int (Int32.ofInt r6), .ref (G.1 + a0)]) rfl ?_
    have hX0 := kX3_elementWithId 0 (Nat.le_refl _) hW ga0 gr6 
    refine z_callV (As := [_]) eX3_elementWithId sX3_elementWithId lX3_208 rfl dX3_leads_114 (hW.ob ga0 (by decide)).choose_spec hX0 (Nat.le_trans (by decide) hd) rfl (Nat.le_of_ble_eq_true rfl) (fun r cs1 hp => ?_)
    obtain ⟨hcs, r8, rfl, gr8, _⟩ := hp
    obtain rfl := hcs.symm
    refine z_st (st' := [.int (Int32.ofInt r8)]) rfl ?_
    refine z_goto (tgt := 130) dX3_leads_117 (by decide) ?_
    refine z_loc (L' := [(0, .ref (G.1 + a0)), (1, .int (Int32.ofInt l1))]) (List.forall_mem_cons.mpr ⟨rfl, (List.forall_mem_cons.mpr ⟨rfl, (fun _ h => nomatch h)⟩)⟩) ?_
    exact bX3_leads_130 hd hW hX ga0 gl1 gr8 (by omega) (by omega)  hP 
set_option maxRecDepth 100000 in
set_option maxHeartbeats 4000000 in
theorem bX3_leads_99 {G : xG} {d : Nat} {Post : xP} {B : Nat × Nat} {τ0 τ : Tau} {c0 cs : List va_E} {a0 pm : Nat} {l1 : Int} {l2 : Int} {l3 : Int} (hd : 5 ≤ d) (hW : WT G B τ cs) (hX : Fx [1] τ0 c0 τ cs) (ga0 : τ a0 = some (.inl (3, pm))) (gl1 : rng l1) (gl2 : rng l2) (gl3 : rng l3) (i0 : l3 ≤ 3000) (i1 : 0 ≤ l1) (i2 : l1 < (pm : Nat))  (hP : ∀ (τ1 : Tau) (c1 : List va_E) (r : Int), WT G B τ1 c1 → Fx [1] τ0 c0 τ1 c1 → rng r → ((iv 0 1 r)) → Post (some (.int (Int32.ofInt r))) c1)  : Z (RX3, cX3_leads, 6, some .boolean, false) G d Post 99 [(0, .ref (G.1 + a0)), (1, .int (Int32.ofInt l1)), (2, .int (Int32.ofInt l2)), (3, .int (Int32.ofInt l3))] [] cs := by
  have hpm := hW.2.1.2.2.2.2.2.2.1 _ _ ga0
  refine z_iconst (v := Int32.ofInt 0) dX3_leads_99 rfl ?_
  refine z_loc (L' := [(0, .ref (G.1 + a0)), (1, .int (Int32.ofInt l1)), (2, .int (Int32.ofInt l2)), (3, .int (Int32.ofInt l3))]) (List.forall_mem_cons.mpr ⟨rfl, (List.forall_mem_cons.mpr ⟨rfl, (List.forall_mem_cons.mpr ⟨rfl, (List.forall_mem_cons.mpr ⟨rfl, (fun _ h => nomatch h)⟩)⟩)⟩)⟩) ?_
  exact bX3_leads_100 hd hW hX ga0 gl1 gl2 gl3 (show rng 0 from ⟨by decide, by decide⟩) ⟨by decide, by decide⟩ (by omega) (by omega) (by omega)  hP 
set_option maxRecDepth 100000 in
set_option maxHeartbeats 4000000 in
theorem kX3_leads {G : xG} {B : Nat × Nat} {τ : Tau} {cs : List va_E} {a0 pm : Nat} {l1 : Int} (d : Nat) (hd : 5 ≤ d) (hW : WT G B τ cs) (ga0 : τ a0 = some (.inl (3, pm))) (gl1 : rng l1) (p0 : 0 ≤ l1) (p1 : l1 < (pm : Nat)) : X G yX3_leads cX3_leads 6 (some .boolean) d [.ref (G.1 + a0), .int (Int32.ofInt l1)] cs (wI G B τ cs [1] (fun r => (iv 0 1 r))) := by
  refine X.of false (by decide +kernel) (by decide) (Nat.le_of_ble_eq_true rfl) ?_
  show Z (RX3, cX3_leads, 6, some .boolean, false) G d _ 0 [(0, .ref (G.1 + a0)), (1, .int (Int32.ofInt l1))] [] cs
  have hP : ∀ (τ1 : Tau) (c1 : List va_E) (r : Int), WT G B τ1 c1 → Fx [1] τ cs τ1 c1 → rng r → ((iv 0 1 r)) → wI G B τ cs [1] (fun r => (iv 0 1 r)) (some (.int (Int32.ofInt r))) c1 := fun τ1 c1 r h1 h2 h3 h4 => ⟨τ1, r, rfl, h3, h1, h2, h4⟩
  have hX : Fx [1] τ cs τ cs := Fx.rf
  skip
  have hpm := hW.2.1.2.2.2.2.2.2.1 _ _ ga0
  refine z_aload_n dX3_leads_0 rfl rfl ?_
  refine tw_getO hW ga0 (by decide) (by decide) rfl kX3 fX3_19 dX3_leads_1 (fun b1 pb1 gb1 => ?_)
  refine z_iload_n dX3_leads_4 rfl rfl ?_
  have hX0 := kX6_attributeCount 1 (Nat.le_refl _) hW gb1 gl1 
  refine z_callV (As := [_]) eX6_attributeCount sX6_attributeCount lX3_169 rfl dX3_leads_5 (hW.ob gb1 (by decide)).choose_spec hX0 (Nat.le_trans (by decide) hd) rfl (Nat.le_of_ble_eq_true rfl) (fun r cs1 hp => ?_)
  obtain ⟨hcs, r3, rfl, gr3, ⟨n2_0, n2_1⟩⟩ := hp
  obtain rfl := hcs.symm
  refine z_st (st' := [.int (Int32.ofInt r3)]) rfl ?_
  refine z_iconst (v := Int32.ofInt 1) dX3_leads_8 rfl ?_
  refine i_icmp_ne (tgt := 42) dX3_leads_9 (by decide) gr3 (show rng 1 from ⟨by decide, by decide⟩) (fun h4 => ?_) (fun h4 => ?_)
  · refine z_iconst (v := Int32.ofInt 0) dX3_leads_42 rfl ?_
    exact z_ireturn dX3_leads_43 rfl (nar01 (b01 ⟨by decide, by decide⟩)) (hP _ _ _ hW hX (show rng 0 from ⟨by decide, by decide⟩) (by omega))
  · refine z_aload_n dX3_leads_12 rfl rfl ?_
    refine tw_getO hW ga0 (by decide) (by decide) rfl kX3 fX3_19 dX3_leads_13 (fun b5 pb5 gb5 => ?_)
    refine z_iload_n dX3_leads_16 rfl rfl ?_
    have hX0 := kX6_kidCount 1 (Nat.le_refl _) hW gb5 gl1 
    refine z_callV (As := [_]) eX6_kidCount sX6_kidCount lX3_172 rfl dX3_leads_17 (hW.ob gb5 (by decide)).choose_spec hX0 (Nat.le_trans (by decide) hd) rfl (Nat.le_of_ble_eq_true rfl) (fun r cs1 hp => ?_)
    obtain ⟨hcs, r7, rfl, gr7, _⟩ := hp
    obtain rfl := hcs.symm
    refine z_st (st' := [.int (Int32.ofInt r7)]) rfl ?_
    refine i_if_gt (tgt := 42) dX3_leads_20 (by decide) gr7 (fun h8 => ?_) (fun h8 => ?_)
    · refine z_iconst (v := Int32.ofInt 0) dX3_leads_42 rfl ?_
      exact z_ireturn dX3_leads_43 rfl (nar01 (b01 ⟨by decide, by decide⟩)) (hP _ _ _ hW hX (show rng 0 from ⟨by decide, by decide⟩) (by omega))
    · refine z_aload_n dX3_leads_23 rfl rfl ?_
      refine tw_getO hW ga0 (by decide) (by decide) rfl kX3 fX3_19 dX3_leads_24 (fun b9 pb9 gb9 => ?_)
      refine z_iload_n dX3_leads_27 rfl rfl ?_
      have hX0 := kX6_textTo 1 (Nat.le_refl _) hW gb9 gl1 
      refine z_callV (As := [_]) eX6_textTo sX6_textTo lX3_178 rfl dX3_leads_28 (hW.ob gb9 (by decide)).choose_spec hX0 (Nat.le_trans (by decide) hd) rfl (Nat.le_of_ble_eq_true rfl) (fun r cs1 hp => ?_)
      obtain ⟨hcs, r11, rfl, gr11, _⟩ := hp
      obtain rfl := hcs.symm
      refine z_st (st' := [.int (Int32.ofInt r11)]) rfl ?_
      refine z_aload_n dX3_leads_31 rfl rfl ?_
      refine tw_getO hW ga0 (by decide) (by decide) rfl kX3 fX3_19 dX3_leads_32 (fun b12 pb12 gb12 => ?_)
      refine z_iload_n dX3_leads_35 rfl rfl ?_
      have hX0 := kX6_textFrom 1 (Nat.le_refl _) hW gb12 gl1 
      refine z_callV (As := [_]) eX6_textFrom sX6_textFrom lX3_175 rfl dX3_leads_36 (hW.ob gb12 (by decide)).choose_spec hX0 (Nat.le_trans (by decide) hd) rfl (Nat.le_of_ble_eq_true rfl) (fun r cs1 hp => ?_)
      obtain ⟨hcs, r14, rfl, gr14, _⟩ := hp
      obtain rfl := hcs.symm
      refine z_st (st' := [.int (Int32.ofInt r14), .int (Int32.ofInt r11)]) rfl ?_
      refine i_icmp_le (tgt := 44) dX3_leads_39 (by decide) gr11 gr14 (fun h15 => ?_) (fun h15 => ?_)
      · refine z_aload_n dX3_leads_44 rfl rfl ?_
        refine tw_getO hW ga0 (by decide) (by decide) rfl kX3 fX3_19 dX3_leads_45 (fun b16 pb16 gb16 => ?_)
        refine z_aload_n dX3_leads_48 rfl rfl ?_
        refine tw_getO hW ga0 (by decide) (by decide) rfl kX3 fX3_19 dX3_leads_49 (fun b17 pb17 gb17 => ?_)
        refine z_iload_n dX3_leads_52 rfl rfl ?_
        have hX0 := kX6_firstAttribute 1 (Nat.le_refl _) hW gb17 gl1 
        refine z_callV (As := [_]) eX6_firstAttribute sX6_firstAttribute lX3_185 rfl dX3_leads_53 (hW.ob gb17 (by decide)).choose_spec hX0 (Nat.le_trans (by decide) hd) rfl (Nat.le_of_ble_eq_true rfl) (fun r cs1 hp => ?_)
        obtain ⟨hcs, r19, rfl, gr19, ⟨n18_0, n18_1⟩⟩ := hp
        obtain rfl := hcs.symm
        refine z_st (st' := [.int (Int32.ofInt r19), .ref (G.1 + b16)]) rfl ?_
        have hX0 := kX6_valueFrom 1 (Nat.le_refl _) hW gb16 gr19 
        refine z_callV (As := [_]) eX6_valueFrom sX6_valueFrom lX3_146 rfl dX3_leads_56 (hW.ob gb16 (by decide)).choose_spec hX0 (Nat.le_trans (by decide) hd) rfl (Nat.le_of_ble_eq_true rfl) (fun r cs1 hp => ?_)
        obtain ⟨hcs, r21, rfl, gr21, _⟩ := hp
        obtain rfl := hcs.symm
        refine z_st (st' := [.int (Int32.ofInt r21)]) rfl ?_
        refine z_istore_n dX3_leads_59 rfl (by decide) ?_
        refine z_loc (L' := [(0, .ref (G.1 + a0)), (1, .int (Int32.ofInt l1)), (2, .int (Int32.ofInt r21))]) (List.forall_mem_cons.mpr ⟨rfl, (List.forall_mem_cons.mpr ⟨rfl, (List.forall_mem_cons.mpr ⟨rfl, (fun _ h => nomatch h)⟩)⟩)⟩) ?_
        refine z_aload_n dX3_leads_60 rfl rfl ?_
        refine tw_getO hW ga0 (by decide) (by decide) rfl kX3 fX3_19 dX3_leads_61 (fun b22 pb22 gb22 => ?_)
        refine z_aload_n dX3_leads_64 rfl rfl ?_
        refine tw_getO hW ga0 (by decide) (by decide) rfl kX3 fX3_19 dX3_leads_65 (fun b23 pb23 gb23 => ?_)
        refine z_iload_n dX3_leads_68 rfl rfl ?_
        have hX0 := kX6_firstAttribute 1 (Nat.le_refl _) hW gb23 gl1 
        refine z_callV (As := [_]) eX6_firstAttribute sX6_firstAttribute lX3_185 rfl dX3_leads_69 (hW.ob gb23 (by decide)).choose_spec hX0 (Nat.le_trans (by decide) hd) rfl (Nat.le_of_ble_eq_true rfl) (fun r cs1 hp => ?_)
        obtain ⟨hcs, r25, rfl, gr25, ⟨n24_0, n24_1⟩⟩ := hp
        obtain rfl := hcs.symm
        refine z_st (st' := [.int (Int32.ofInt r25), .ref (G.1 + b22)]) rfl ?_
        have hX0 := kX6_valueTo 1 (Nat.le_refl _) hW gb22 gr25 
        refine z_callV (As := [_]) eX6_valueTo sX6_valueTo lX3_149 rfl dX3_leads_72 (hW.ob gb22 (by decide)).choose_spec hX0 (Nat.le_trans (by decide) hd) rfl (Nat.le_of_ble_eq_true rfl) (fun r cs1 hp => ?_)
        obtain ⟨hcs, r27, rfl, gr27, n26_0⟩ := hp
        obtain rfl := hcs.symm
        refine z_st (st' := [.int (Int32.ofInt r27)]) rfl ?_
        refine z_istore_n dX3_leads_75 rfl (by decide) ?_
        refine z_loc (L' := [(0, .ref (G.1 + a0)), (1, .int (Int32.ofInt l1)), (2, .int (Int32.ofInt r21)), (3, .int (Int32.ofInt r27))]) (List.forall_mem_cons.mpr ⟨rfl, (List.forall_mem_cons.mpr ⟨rfl, (List.forall_mem_cons.mpr ⟨rfl, (List.forall_mem_cons.mpr ⟨rfl, (fun _ h => nomatch h)⟩)⟩)⟩)⟩) ?_
        refine z_iload_n dX3_leads_76 rfl rfl ?_
        refine z_iload_n dX3_leads_77 rfl rfl ?_
        refine i_icmp_ge (tgt := 99) dX3_leads_78 (by decide) gr21 gr27 (fun h28 => ?_) (fun h28 => ?_)
        · refine z_loc (L' := [(0, .ref (G.1 + a0)), (1, .int (Int32.ofInt l1)), (2, .int (Int32.ofInt r21)), (3, .int (Int32.ofInt r27))]) (List.forall_mem_cons.mpr ⟨rfl, (List.forall_mem_cons.mpr ⟨rfl, (List.forall_mem_cons.mpr ⟨rfl, (List.forall_mem_cons.mpr ⟨rfl, (fun _ h => nomatch h)⟩)⟩)⟩)⟩) ?_
          exact bX3_leads_99 hd hW hX ga0 gl1 gr21 gr27 (by omega) (by omega) (by omega)  hP 
        · refine z_aload_n dX3_leads_81 rfl rfl ?_
          refine tw_getO hW ga0 (by decide) (by decide) rfl kX3 fX3_35 dX3_leads_82 (fun b29 pb29 gb29 => ?_)
          have gb29 : oT τ b29 5 := ⟨_, gb29⟩
          refine z_iload_n dX3_leads_85 rfl rfl ?_
          have hX0 := kX5_at 0 (Nat.le_refl _) hW gb29 gr21 
          refine z_callV (As := [_]) eX5_at sX5_at lX3_211 rfl dX3_leads_86 (hW.os gb29).choose_spec hX0 (Nat.le_trans (by decide) hd) rfl (Nat.le_of_ble_eq_true rfl) (fun r cs1 hp => ?_)
          obtain ⟨hcs, r31, rfl, gr31, n30_0⟩ := hp
          obtain rfl := hcs.symm
          refine z_st (st' := [.int (Int32.ofInt r31)]) rfl ?_
          have hX0 := kX10_isDigit 0 (Nat.le_refl _) hW gr31 
          refine z_callSN (As := [_]) eX10_isDigit sX10_isDigit lX3_214 dX3_leads_89 hX0 (Nat.le_trans (by decide) hd) rfl (Nat.le_of_ble_eq_true rfl) (fun r cs1 hp => ?_)
          obtain ⟨hcs, r33, rfl, gr33, n32_0⟩ := hp
          obtain rfl := hcs.symm
          refine z_st (st' := [.int (Int32.ofInt r33)]) rfl ?_
          refine i_if_eq (tgt := 99) dX3_leads_92 (by decide) gr33 (fun h34 => ?_) (fun h34 => ?_)
          · refine z_loc (L' := [(0, .ref (G.1 + a0)), (1, .int (Int32.ofInt l1)), (2, .int (Int32.ofInt r21)), (3, .int (Int32.ofInt r27))]) (List.forall_mem_cons.mpr ⟨rfl, (List.forall_mem_cons.mpr ⟨rfl, (List.forall_mem_cons.mpr ⟨rfl, (List.forall_mem_cons.mpr ⟨rfl, (fun _ h => nomatch h)⟩)⟩)⟩)⟩) ?_
            exact bX3_leads_99 hd hW hX ga0 gl1 gr21 gr27 (by omega) (by omega) (by omega)  hP 
          · refine z_iconst (v := Int32.ofInt 1) dX3_leads_95 rfl ?_
            refine z_goto (tgt := 100) dX3_leads_96 (by decide) ?_
            refine z_loc (L' := [(0, .ref (G.1 + a0)), (1, .int (Int32.ofInt l1)), (2, .int (Int32.ofInt r21)), (3, .int (Int32.ofInt r27))]) (List.forall_mem_cons.mpr ⟨rfl, (List.forall_mem_cons.mpr ⟨rfl, (List.forall_mem_cons.mpr ⟨rfl, (List.forall_mem_cons.mpr ⟨rfl, (fun _ h => nomatch h)⟩)⟩)⟩)⟩) ?_
            exact bX3_leads_100 hd hW hX ga0 gl1 gr21 gr27 (show rng 1 from ⟨by decide, by decide⟩) ⟨by decide, by decide⟩ (by omega) (by omega) (by omega)  hP 
      · refine z_iconst (v := Int32.ofInt 0) dX3_leads_42 rfl ?_
        exact z_ireturn dX3_leads_43 rfl (nar01 (b01 ⟨by decide, by decide⟩)) (hP _ _ _ hW hX (show rng 0 from ⟨by decide, by decide⟩) (by omega))

set_option maxRecDepth 100000 in
set_option maxHeartbeats 4000000 in
theorem bX3_firstWrong_73 {G : xG} {d : Nat} {Post : xP} {B : Nat × Nat} {τ0 τ : Tau} {c0 cs : List va_E} {a0 pm : Nat} {l1 : Int} {n44 : Nat} (hd : 9 ≤ d) (hW : WT G B τ cs) (hX : Fx [1, 3] τ0 c0 τ cs) (ga0 : τ a0 = some (.inl (3, pm))) (gl1 : rng l1) (i0 : 1 ≤ (pm : Nat) - l1) (i1 : 0 ≤ l1) (hm_44 : ((pm : Nat) - l1).toNat < n44 + 1) (hP : ∀ (τ1 : Tau) (c1 : List va_E) (r : Int), WT G B τ1 c1 → Fx [1, 3] τ0 c0 τ1 c1 → rng r → (True) → Post (some (.int (Int32.ofInt r))) c1) (ih_44 : ∀ {τ : Tau} {cs : List va_E} {a0 pm : Nat} {l1 : Int} (hW : WT G B τ cs) (hX : Fx [1, 3] τ0 c0 τ cs) (ga0 : τ a0 = some (.inl (3, pm))) (gl1 : rng l1) (i0 : 0 ≤ l1) , ((pm : Nat) - l1).toNat < n44 → Z (RX3, cX3_firstWrong, 2, some .int, false) G d Post 44 [(0, .ref (G.1 + a0)), (1, .int (Int32.ofInt l1))] [] cs) : Z (RX3, cX3_firstWrong, 2, some .int, false) G d Post 73 [(0, .ref (G.1 + a0)), (1, .int (Int32.ofInt l1))] [] cs := by
  have hpm := hW.2.1.2.2.2.2.2.2.1 _ _ ga0
  refine tw_iinc (l := l1) dX3_firstWrong_73 rfl (by decide) (fun z1 gz1 ez1 => ?_)
  first | have ez1 := ez1 ⟨by omega, by omega⟩ | clear ez1
  refine z_loc (L' := [(0, .ref (G.1 + a0)), (1, .int (Int32.ofInt z1))]) (List.forall_mem_cons.mpr ⟨rfl, (List.forall_mem_cons.mpr ⟨rfl, (fun _ h => nomatch h)⟩)⟩) ?_
  refine z_goto (tgt := 44) dX3_firstWrong_76 (by decide) ?_
  refine z_loc (L' := [(0, .ref (G.1 + a0)), (1, .int (Int32.ofInt z1))]) (List.forall_mem_cons.mpr ⟨rfl, (List.forall_mem_cons.mpr ⟨rfl, (fun _ h => nomatch h)⟩)⟩) ?_
  exact ih_44 hW hX ga0 gz1 (by omega)  (by omega)
set_option maxRecDepth 100000 in
set_option maxHeartbeats 4000000 in
theorem eX3_firstWrong_44 {G : xG} {d : Nat} {Post : xP} {B : Nat × Nat} {τ0 τ : Tau} {c0 cs : List va_E} {a0 pm : Nat} {l1 : Int} {n44 : Nat} (hd : 9 ≤ d) (hW : WT G B τ cs) (hX : Fx [1, 3] τ0 c0 τ cs) (ga0 : τ a0 = some (.inl (3, pm))) (gl1 : rng l1) (i0 : 0 ≤ l1)  (hP : ∀ (τ1 : Tau) (c1 : List va_E) (r : Int), WT G B τ1 c1 → Fx [1, 3] τ0 c0 τ1 c1 → rng r → (True) → Post (some (.int (Int32.ofInt r))) c1)  (ih_44 : ∀ {τ : Tau} {cs : List va_E} {a0 pm : Nat} {l1 : Int} (hW : WT G B τ cs) (hX : Fx [1, 3] τ0 c0 τ cs) (ga0 : τ a0 = some (.inl (3, pm))) (gl1 : rng l1) (i0 : 0 ≤ l1) , ((pm : Nat) - l1).toNat < n44 → Z (RX3, cX3_firstWrong, 2, some .int, false) G d Post 44 [(0, .ref (G.1 + a0)), (1, .int (Int32.ofInt l1))] [] cs) (hm_44 : ((pm : Nat) - l1).toNat < n44 + 1) : Z (RX3, cX3_firstWrong, 2, some .int, false) G d Post 44 [(0, .ref (G.1 + a0)), (1, .int (Int32.ofInt l1))] [] cs := by
  have hpm := hW.2.1.2.2.2.2.2.2.1 _ _ ga0
  refine z_iload_n dX3_firstWrong_44 rfl rfl ?_
  refine z_aload_n dX3_firstWrong_45 rfl rfl ?_
  refine tw_getA hW ga0 (by decide) (by decide) rfl kX3 fX3_54 dX3_firstWrong_46 (fun b1 _ gb1 => ?_)
  refine tw_alen (t0 := 0) hW gb1 rfl dX3_firstWrong_49 (fun x2 qx2 gx2 => ?_)
  refine i_icmp_ge (tgt := 79) dX3_firstWrong_50 (by decide) gl1 gx2 (fun h3 => ?_) (fun h3 => ?_)
  · refine z_iconst (v := Int32.ofInt (-1)) dX3_firstWrong_79 rfl ?_
    exact z_ireturn dX3_firstWrong_80 rfl rfl (hP _ _ _ hW hX (show rng (-1) from ⟨by decide, by decide⟩) trivial)
  · refine z_aload_n dX3_firstWrong_53 rfl rfl ?_
    refine tw_getA hW ga0 (by decide) (by decide) rfl kX3 fX3_54 dX3_firstWrong_54 (fun b4 _ gb4 => ?_)
    refine z_iload_n dX3_firstWrong_57 rfl rfl ?_
    refine tw_iald hW gb4 (by omega) (by omega) dX3_firstWrong_58 (fun x5 _ vx5 gx5 => ?_)
    refine z_iconst (v := Int32.ofInt 4) dX3_firstWrong_59 rfl ?_
    refine i_icmp_ne (tgt := 73) dX3_firstWrong_60 (by decide) gx5 (show rng 4 from ⟨by decide, by decide⟩) (fun h6 => ?_) (fun h6 => ?_)
    · refine z_loc (L' := [(0, .ref (G.1 + a0)), (1, .int (Int32.ofInt l1))]) (List.forall_mem_cons.mpr ⟨rfl, (List.forall_mem_cons.mpr ⟨rfl, (fun _ h => nomatch h)⟩)⟩) ?_
      exact bX3_firstWrong_73 hd hW hX ga0 gl1 (by omega) (by omega) (by omega) hP ih_44
    · refine z_aload_n dX3_firstWrong_63 rfl rfl ?_
      refine z_iload_n dX3_firstWrong_64 rfl rfl ?_
      have hX0 := kX3_leads 5 (Nat.le_refl _) hW ga0 gl1 (by omega) (by omega)
      refine z_callV (As := [_]) eX3_leads sX3_leads lX3_81 rfl dX3_firstWrong_65 (hW.ob ga0 (by decide)).choose_spec hX0 (Nat.le_trans (by decide) hd) rfl (Nat.le_of_ble_eq_true rfl) (fun r cs hp => ?_)
      obtain ⟨τ, r8, rfl, gr8, hW, k9, n7_0⟩ := hp
      have hX := hX.tr k9 (by decide)
      have ga0 := k9.1.e ga0 (by decide)
      clear hX0
      refine z_st (st' := [.int (Int32.ofInt r8)]) rfl ?_
      refine i_if_ne (tgt := 73) dX3_firstWrong_68 (by decide) gr8 (fun h10 => ?_) (fun h10 => ?_)
      · refine z_loc (L' := [(0, .ref (G.1 + a0)), (1, .int (Int32.ofInt l1))]) (List.forall_mem_cons.mpr ⟨rfl, (List.forall_mem_cons.mpr ⟨rfl, (fun _ h => nomatch h)⟩)⟩) ?_
        exact bX3_firstWrong_73 hd hW hX ga0 gl1 (by omega) (by omega) (by omega) hP ih_44
      · refine z_iload_n dX3_firstWrong_71 rfl rfl ?_
        exact z_ireturn dX3_firstWrong_72 rfl rfl (hP _ _ _ hW hX gl1 trivial)
set_option maxRecDepth 100000 in
set_option maxHeartbeats 4000000 in
theorem bX3_firstWrong_44 {G : xG} {d : Nat} {Post : xP} {B : Nat × Nat} {τ0 τ : Tau} {c0 cs : List va_E} {a0 pm : Nat} {l1 : Int} (hd : 9 ≤ d) (hW : WT G B τ cs) (hX : Fx [1, 3] τ0 c0 τ cs) (ga0 : τ a0 = some (.inl (3, pm))) (gl1 : rng l1) (i0 : 0 ≤ l1)  (hP : ∀ (τ1 : Tau) (c1 : List va_E) (r : Int), WT G B τ1 c1 → Fx [1, 3] τ0 c0 τ1 c1 → rng r → (True) → Post (some (.int (Int32.ofInt r))) c1)  : Z (RX3, cX3_firstWrong, 2, some .int, false) G d Post 44 [(0, .ref (G.1 + a0)), (1, .int (Int32.ofInt l1))] [] cs := by
  have key : ∀ (n : Nat) (τ : Tau) (cs : List va_E) (a0 pm : Nat) (l1 : Int) (hW : WT G B τ cs) (hX : Fx [1, 3] τ0 c0 τ cs) (ga0 : τ a0 = some (.inl (3, pm))) (gl1 : rng l1) (i0 : 0 ≤ l1) , ((pm : Nat) - l1).toNat < n → Z (RX3, cX3_firstWrong, 2, some .int, false) G d Post 44 [(0, .ref (G.1 + a0)), (1, .int (Int32.ofInt l1))] [] cs := by
    intro n
    induction n with
    | zero => intro τ cs a0 pm l1 hW hX ga0 gl1 i0 hm; exact absurd hm (Nat.not_lt_zero _)
    | succ n ih =>
      intro τ cs a0 pm l1 hW hX ga0 gl1 i0 hm
      exact eX3_firstWrong_44 hd hW hX ga0 gl1 i0 hP  (fun hW hX ga0 gl1 i0 hm => ih _ _ _ _ _ hW hX ga0 gl1 i0 hm) hm
  exact key _ _ _ _ _ _ hW hX ga0 gl1 i0 (Nat.lt_succ_self _)
set_option maxRecDepth 100000 in
set_option maxHeartbeats 4000000 in
theorem eX3_firstWrong_9 {G : xG} {d : Nat} {Post : xP} {B : Nat × Nat} {τ0 τ : Tau} {c0 cs : List va_E} {a0 pm : Nat} {l1 : Int} {n9 : Nat} (hd : 9 ≤ d) (hW : WT G B τ cs) (hX : Fx [1, 3] τ0 c0 τ cs) (ga0 : τ a0 = some (.inl (3, pm))) (gl1 : rng l1) (i0 : 0 ≤ l1)  (hP : ∀ (τ1 : Tau) (c1 : List va_E) (r : Int), WT G B τ1 c1 → Fx [1, 3] τ0 c0 τ1 c1 → rng r → (True) → Post (some (.int (Int32.ofInt r))) c1)  (ih_9 : ∀ {τ : Tau} {cs : List va_E} {a0 pm : Nat} {l1 : Int} (hW : WT G B τ cs) (hX : Fx [1, 3] τ0 c0 τ cs) (ga0 : τ a0 = some (.inl (3, pm))) (gl1 : rng l1) (i0 : 0 ≤ l1) , ((pm : Nat) - l1).toNat < n9 → Z (RX3, cX3_firstWrong, 2, some .int, false) G d Post 9 [(0, .ref (G.1 + a0)), (1, .int (Int32.ofInt l1))] [] cs) (hm_9 : ((pm : Nat) - l1).toNat < n9 + 1) : Z (RX3, cX3_firstWrong, 2, some .int, false) G d Post 9 [(0, .ref (G.1 + a0)), (1, .int (Int32.ofInt l1))] [] cs := by
  have hpm := hW.2.1.2.2.2.2.2.2.1 _ _ ga0
  refine z_iload_n dX3_firstWrong_9 rfl rfl ?_
  refine z_aload_n dX3_firstWrong_10 rfl rfl ?_
  refine tw_getA hW ga0 (by decide) (by decide) rfl kX3 fX3_54 dX3_firstWrong_11 (fun b1 _ gb1 => ?_)
  refine tw_alen (t0 := 0) hW gb1 rfl dX3_firstWrong_14 (fun x2 qx2 gx2 => ?_)
  refine i_icmp_ge (tgt := 42) dX3_firstWrong_15 (by decide) gl1 gx2 (fun h3 => ?_) (fun h3 => ?_)
  · refine z_iconst (v := Int32.ofInt 0) dX3_firstWrong_42 rfl ?_
    refine z_istore_n dX3_firstWrong_43 rfl (by decide) ?_
    refine z_loc (L' := [(0, .ref (G.1 + a0)), (1, .int (Int32.ofInt 0))]) (List.forall_mem_cons.mpr ⟨rfl, (List.forall_mem_cons.mpr ⟨rfl, (fun _ h => nomatch h)⟩)⟩) ?_
    refine z_loc (L' := [(0, .ref (G.1 + a0)), (1, .int (Int32.ofInt 0))]) (List.forall_mem_cons.mpr ⟨rfl, (List.forall_mem_cons.mpr ⟨rfl, (fun _ h => nomatch h)⟩)⟩) ?_
    exact bX3_firstWrong_44 hd hW hX ga0 (show rng 0 from ⟨by decide, by decide⟩) (by omega)  hP 
  · refine z_aload_n dX3_firstWrong_18 rfl rfl ?_
    refine z_iload_n dX3_firstWrong_19 rfl rfl ?_
    have hX0 := kX3_isPlaced 8 (Nat.le_refl _) hW ga0 gl1 (by omega) (by omega)
    refine z_callV (As := [_]) eX3_isPlaced sX3_isPlaced lX3_74 rfl dX3_firstWrong_20 (hW.ob ga0 (by decide)).choose_spec hX0 (Nat.le_trans (by decide) hd) rfl (Nat.le_of_ble_eq_true rfl) (fun r cs hp => ?_)
    obtain ⟨τ, r5, rfl, gr5, hW, k6, n4_0⟩ := hp
    have hX := hX.tr k6 (by decide)
    have ga0 := k6.1.e ga0 (by decide)
    clear hX0
    refine z_st (st' := [.int (Int32.ofInt r5)]) rfl ?_
    refine i_if_eq (tgt := 34) dX3_firstWrong_23 (by decide) gr5 (fun h7 => ?_) (fun h7 => ?_)
    · refine z_iload_n dX3_firstWrong_34 rfl rfl ?_
      exact z_ireturn dX3_firstWrong_35 rfl rfl (hP _ _ _ hW hX gl1 trivial)
    · refine z_aload_n dX3_firstWrong_26 rfl rfl ?_
      refine z_iload_n dX3_firstWrong_27 rfl rfl ?_
      have hX0 := kX3_isSound 6 (Nat.le_refl _) hW ga0 gl1 (by omega) (by omega)
      refine z_callV (As := [_]) eX3_isSound sX3_isSound lX3_78 rfl dX3_firstWrong_28 (hW.ob ga0 (by decide)).choose_spec hX0 (Nat.le_trans (by decide) hd) rfl (Nat.le_of_ble_eq_true rfl) (fun r cs hp => ?_)
      obtain ⟨τ, r9, rfl, gr9, hW, k10, n8_0⟩ := hp
      have hX := hX.tr k10 (by decide)
      have ga0 := k10.1.e ga0 (by decide)
      clear hX0
      refine z_st (st' := [.int (Int32.ofInt r9)]) rfl ?_
      refine i_if_ne (tgt := 36) dX3_firstWrong_31 (by decide) gr9 (fun h11 => ?_) (fun h11 => ?_)
      · refine tw_iinc (l := l1) dX3_firstWrong_36 rfl (by decide) (fun z12 gz12 ez12 => ?_)
        first | have ez12 := ez12 ⟨by omega, by omega⟩ | clear ez12
        refine z_loc (L' := [(0, .ref (G.1 + a0)), (1, .int (Int32.ofInt z12))]) (List.forall_mem_cons.mpr ⟨rfl, (List.forall_mem_cons.mpr ⟨rfl, (fun _ h => nomatch h)⟩)⟩) ?_
        refine z_goto (tgt := 9) dX3_firstWrong_39 (by decide) ?_
        refine z_loc (L' := [(0, .ref (G.1 + a0)), (1, .int (Int32.ofInt z12))]) (List.forall_mem_cons.mpr ⟨rfl, (List.forall_mem_cons.mpr ⟨rfl, (fun _ h => nomatch h)⟩)⟩) ?_
        exact ih_9 hW hX ga0 gz12 (by omega)  (by omega)
      · refine z_iload_n dX3_firstWrong_34 rfl rfl ?_
        exact z_ireturn dX3_firstWrong_35 rfl rfl (hP _ _ _ hW hX gl1 trivial)
set_option maxRecDepth 100000 in
set_option maxHeartbeats 4000000 in
theorem bX3_firstWrong_9 {G : xG} {d : Nat} {Post : xP} {B : Nat × Nat} {τ0 τ : Tau} {c0 cs : List va_E} {a0 pm : Nat} {l1 : Int} (hd : 9 ≤ d) (hW : WT G B τ cs) (hX : Fx [1, 3] τ0 c0 τ cs) (ga0 : τ a0 = some (.inl (3, pm))) (gl1 : rng l1) (i0 : 0 ≤ l1)  (hP : ∀ (τ1 : Tau) (c1 : List va_E) (r : Int), WT G B τ1 c1 → Fx [1, 3] τ0 c0 τ1 c1 → rng r → (True) → Post (some (.int (Int32.ofInt r))) c1)  : Z (RX3, cX3_firstWrong, 2, some .int, false) G d Post 9 [(0, .ref (G.1 + a0)), (1, .int (Int32.ofInt l1))] [] cs := by
  have key : ∀ (n : Nat) (τ : Tau) (cs : List va_E) (a0 pm : Nat) (l1 : Int) (hW : WT G B τ cs) (hX : Fx [1, 3] τ0 c0 τ cs) (ga0 : τ a0 = some (.inl (3, pm))) (gl1 : rng l1) (i0 : 0 ≤ l1) , ((pm : Nat) - l1).toNat < n → Z (RX3, cX3_firstWrong, 2, some .int, false) G d Post 9 [(0, .ref (G.1 + a0)), (1, .int (Int32.ofInt l1))] [] cs := by
    intro n
    induction n with
    | zero => intro τ cs a0 pm l1 hW hX ga0 gl1 i0 hm; exact absurd hm (Nat.not_lt_zero _)
    | succ n ih =>
      intro τ cs a0 pm l1 hW hX ga0 gl1 i0 hm
      exact eX3_firstWrong_9 hd hW hX ga0 gl1 i0 hP  (fun hW hX ga0 gl1 i0 hm => ih _ _ _ _ _ hW hX ga0 gl1 i0 hm) hm
  exact key _ _ _ _ _ _ hW hX ga0 gl1 i0 (Nat.lt_succ_self _)
set_option maxRecDepth 100000 in
set_option maxHeartbeats 4000000 in
theorem kX3_firstWrong {G : xG} {B : Nat × Nat} {τ : Tau} {cs : List va_E} {a0 pm : Nat} (d : Nat) (hd : 9 ≤ d) (hW : WT G B τ cs) (ga0 : τ a0 = some (.inl (3, pm)))  : X G yX3_firstWrong cX3_firstWrong 2 (some .int) d [.ref (G.1 + a0)] cs (wI G B τ cs [1, 3] (fun r => True)) := by
  refine X.of false (by decide +kernel) (by decide) (Nat.le_of_ble_eq_true rfl) ?_
  show Z (RX3, cX3_firstWrong, 2, some .int, false) G d _ 0 [(0, .ref (G.1 + a0))] [] cs
  have hP : ∀ (τ1 : Tau) (c1 : List va_E) (r : Int), WT G B τ1 c1 → Fx [1, 3] τ cs τ1 c1 → rng r → (True) → wI G B τ cs [1, 3] (fun r => True) (some (.int (Int32.ofInt r))) c1 := fun τ1 c1 r h1 h2 h3 h4 => ⟨τ1, r, rfl, h3, h1, h2, h4⟩
  have hX : Fx [1, 3] τ cs τ cs := Fx.rf
  skip
  have hpm := hW.2.1.2.2.2.2.2.2.1 _ _ ga0
  refine z_aload_n dX3_firstWrong_0 rfl rfl ?_
  refine tw_getO hW ga0 (by decide) (by decide) rfl kX3 fX3_37 dX3_firstWrong_1 (fun b1 pb1 gb1 => ?_)
  have hX0 := kX1_clear 0 (Nat.le_refl _) hW gb1 
  refine z_callV (As := []) eX1_clear sX1_clear lX3_69 rfl dX3_firstWrong_4 (hW.ob gb1 (by decide)).choose_spec hX0 (Nat.le_trans (by decide) hd) rfl (Nat.le_of_ble_eq_true rfl) (fun r cs hp => ?_)
  obtain ⟨τ, rfl, hW, k4⟩ := hp
  have hX := hX.tr k4 (by decide)
  have ga0 := k4.1.e ga0 (by decide)
  clear hX0
  refine z_st (st' := []) rfl ?_
  refine z_iconst (v := Int32.ofInt 0) dX3_firstWrong_7 rfl ?_
  refine z_istore_n dX3_firstWrong_8 rfl (by decide) ?_
  refine z_loc (L' := [(0, .ref (G.1 + a0)), (1, .int (Int32.ofInt 0))]) (List.forall_mem_cons.mpr ⟨rfl, (List.forall_mem_cons.mpr ⟨rfl, (fun _ h => nomatch h)⟩)⟩) ?_
  refine z_loc (L' := [(0, .ref (G.1 + a0)), (1, .int (Int32.ofInt 0))]) (List.forall_mem_cons.mpr ⟨rfl, (List.forall_mem_cons.mpr ⟨rfl, (fun _ h => nomatch h)⟩)⟩) ?_
  exact bX3_firstWrong_9 hd hW hX ga0 (show rng 0 from ⟨by decide, by decide⟩) (by omega)  hP 

set_option maxRecDepth 100000 in
set_option maxHeartbeats 4000000 in
theorem kX6_beginOf {G : xG} {B : Nat × Nat} {τ : Tau} {cs : List va_E} {a0 pa0 : Nat} {l1 : Int} (d : Nat) (hd : 1 ≤ d) (hW : WT G B τ cs) (ga0 : τ a0 = some (.inl (6, pa0))) (gl1 : rng l1)  : X G yX6_beginOf cX6_beginOf 2 (some .int) d [.ref (G.1 + a0), .int (Int32.ofInt l1)] cs (rI cs (fun r => True)) := by
  refine X.of false (by decide +kernel) (by decide) (Nat.le_of_ble_eq_true rfl) ?_
  show Z (RX6, cX6_beginOf, 2, some .int, false) G d _ 0 [(0, .ref (G.1 + a0)), (1, .int (Int32.ofInt l1))] [] cs
  have hP : ∀ r : Int, rng r → (True) → rI cs (fun r => True) (some (.int (Int32.ofInt r))) cs := fun r h1 h2 => ⟨rfl, r, rfl, h1, h2⟩
  refine z_aload_n dX6_beginOf_0 rfl rfl ?_
  refine z_iload_n dX6_beginOf_1 rfl rfl ?_
  have hX0 := kX6_has 0 (Nat.le_refl _) hW ga0 gl1 
  refine z_callV (As := [_]) eX6_has sX6_has lX6_75 rfl dX6_beginOf_2 (hW.ob ga0 (by decide)).choose_spec hX0 (Nat.le_trans (by decide) hd) rfl (Nat.le_of_ble_eq_true rfl) (fun r cs1 hp => ?_)
  obtain ⟨hcs, r2, rfl, gr2, ⟨n1_0, n1_1, n1_2⟩⟩ := hp
  obtain rfl := hcs.symm
  refine z_st (st' := [.int (Int32.ofInt r2)]) rfl ?_
  refine i_if_eq (tgt := 17) dX6_beginOf_5 (by decide) gr2 (fun h3 => ?_) (fun h3 => ?_)
  · refine z_iconst (v := Int32.ofInt 0) dX6_beginOf_17 rfl ?_
    exact z_ireturn dX6_beginOf_18 rfl rfl (hP _ (show rng 0 from ⟨by decide, by decide⟩) trivial)
  · refine z_aload_n dX6_beginOf_8 rfl rfl ?_
    refine tw_getA hW ga0 (by decide) (by decide) rfl kX6 fX6_21 dX6_beginOf_9 (fun b4 _ gb4 => ?_)
    refine z_iload_n dX6_beginOf_12 rfl rfl ?_
    refine tw_iald hW gb4 (by omega) (by omega) dX6_beginOf_13 (fun x5 _ vx5 gx5 => ?_)
    refine z_goto (tgt := 18) dX6_beginOf_14 (by decide) ?_
    exact z_ireturn dX6_beginOf_18 rfl rfl (hP _ gx5 trivial)

