/-! THE LAW, on a script of at most one call -/
set_option maxRecDepth 100000 in
set_option maxHeartbeats 4000000 in
theorem law_unit {G : xG} {d : Nat} (hd : 10 ≤ d) (hL5 : G.2.2.2.2.2.2.1 = 5) : Z (RL, cL_law, 4, some .boolean, false) G d (fun r _ => r = some (.int 1)) 112 [(0, .ref G.2.2.2.2.2.1), (1, .ref (G.1 + 0)), (2, .ref (G.1 + 54)), (3, .int 0)] [] (w0 G) := by
  have hi1 : vp_in ((0 : Int32) + 1) G.2.2.2.2.2.2.1 := by rw [hL5]; exact vp_in_nI (n := 1) (by decide) (by decide)
  have hi2 : vp_in ((0 : Int32) + 2) G.2.2.2.2.2.2.1 := by rw [hL5]; exact vp_in_nI (n := 2) (by decide) (by decide)
  have hi3 : vp_in ((0 : Int32) + 3) G.2.2.2.2.2.2.1 := by rw [hL5]; exact vp_in_nI (n := 3) (by decide) (by decide)
  have hi4 : vp_in ((0 : Int32) + 4) G.2.2.2.2.2.2.1 := by rw [hL5]; exact vp_in_nI (n := 4) (by decide) (by decide)
  have hi0 := hi1
  refine z_aload_n dL_law_112 rfl rfl ?_
  refine z_aload_n dL_law_113 rfl rfl ?_
  refine z_iload_n dL_law_114 rfl rfl ?_
  refine z_iconst (v := 1) dL_law_115 (by decide) ?_
  refine z_iadd dL_law_116 ?_
  refine z_scd (by first | exact hi0 | exact hi1 | exact hi2 | exact hi3 | exact hi4) dL_law_117 ?_
  refine z_callV (As := [_]) eX10_unit sX10_unit lL_13 rfl dL_law_118 (by rfl) (fx_unit 2 (Nat.le_refl _) _) (by omega) rfl (Nat.le_of_ble_eq_true rfl) (fun r cs1 hp => ?_)
  obtain ⟨rfl, hM⟩ := hp
  refine z_st (st' := [.int _]) rfl ?_
  refine z_aload_n dL_law_121 rfl rfl ?_
  refine z_aload_n dL_law_122 rfl rfl ?_
  refine z_iload_n dL_law_123 rfl rfl ?_
  refine z_iconst (v := 1) dL_law_124 (by decide) ?_
  refine z_iadd dL_law_125 ?_
  refine z_scd (by first | exact hi0 | exact hi1 | exact hi2 | exact hi3 | exact hi4) dL_law_126 ?_
  refine z_callV (As := [_]) eX11_unit sX11_unit lL_17 rfl dL_law_127 hM.o (mx_unit 1 (Nat.le_refl _) hM _) (by omega) rfl (Nat.le_of_ble_eq_true rfl) (fun r cs1 hp => ?_)
  obtain rfl := hp
  refine z_st (st' := [.int _, .int _]) rfl ?_
  refine z_icmp_eq (tgt := 576) dL_law_130 (by decide) (fun h1 => ?_) (fun h1 => ?_)
  · refine z_iinc dL_law_576 rfl rfl (by decide) ?_
    refine z_goto (tgt := 18) dL_law_579 (by decide) ?_
    refine z_iload_n dL_law_18 rfl rfl ?_
    refine z_aload_n dL_law_19 rfl rfl ?_
    refine z_scl dL_law_20 ?_
    refine z_iconst (v := 5) dL_law_21 (by decide) ?_
    refine z_isub dL_law_22 ?_
    refine z_icmp_gt (tgt := 582) dL_law_23 (by decide) (fun q => ?_) (fun q => absurd (by rw [hL5]; decide) q)
    refine z_iconst (v := 1) dL_law_582 (by decide) ?_
    exact z_ireturn dL_law_583 rfl (by decide) rfl
  · first | exact absurd rfl h1 | exact absurd rfl h2 | exact absurd rfl h3 | exact absurd rfl h4 | exact absurd rfl h5 | exact absurd rfl h6 | exact absurd rfl h7
set_option maxRecDepth 100000 in
set_option maxHeartbeats 4000000 in
theorem law_classes {G : xG} {d : Nat} (hd : 10 ≤ d) (hL5 : G.2.2.2.2.2.2.1 = 5) : Z (RL, cL_law, 4, some .boolean, false) G d (fun r _ => r = some (.int 1)) 135 [(0, .ref G.2.2.2.2.2.1), (1, .ref (G.1 + 0)), (2, .ref (G.1 + 54)), (3, .int 0)] [] (w0 G) := by
  have hi1 : vp_in ((0 : Int32) + 1) G.2.2.2.2.2.2.1 := by rw [hL5]; exact vp_in_nI (n := 1) (by decide) (by decide)
  have hi2 : vp_in ((0 : Int32) + 2) G.2.2.2.2.2.2.1 := by rw [hL5]; exact vp_in_nI (n := 2) (by decide) (by decide)
  have hi3 : vp_in ((0 : Int32) + 3) G.2.2.2.2.2.2.1 := by rw [hL5]; exact vp_in_nI (n := 3) (by decide) (by decide)
  have hi4 : vp_in ((0 : Int32) + 4) G.2.2.2.2.2.2.1 := by rw [hL5]; exact vp_in_nI (n := 4) (by decide) (by decide)
  have hi0 := hi1
  refine z_aload_n dL_law_135 rfl rfl ?_
  refine z_callV (As := []) eX10_classes sX10_classes lL_18 rfl dL_law_136 (by rfl) (fx_classes 5 (Nat.le_refl _)) (by omega) rfl (Nat.le_of_ble_eq_true rfl) (fun r cs1 hp => ?_)
  obtain ⟨rfl, hM⟩ := hp
  refine z_st (st' := [.int _]) rfl ?_
  refine z_aload_n dL_law_139 rfl rfl ?_
  refine z_callV (As := []) eX11_classes sX11_classes lL_22 rfl dL_law_140 hM.o (mx_classes 4 (Nat.le_refl _) hM) (by omega) rfl (Nat.le_of_ble_eq_true rfl) (fun r cs1 hp => ?_)
  obtain rfl := hp
  refine z_st (st' := [.int _, .int _]) rfl ?_
  refine z_icmp_eq (tgt := 576) dL_law_143 (by decide) (fun h1 => ?_) (fun h1 => ?_)
  · refine z_iinc dL_law_576 rfl rfl (by decide) ?_
    refine z_goto (tgt := 18) dL_law_579 (by decide) ?_
    refine z_iload_n dL_law_18 rfl rfl ?_
    refine z_aload_n dL_law_19 rfl rfl ?_
    refine z_scl dL_law_20 ?_
    refine z_iconst (v := 5) dL_law_21 (by decide) ?_
    refine z_isub dL_law_22 ?_
    refine z_icmp_gt (tgt := 582) dL_law_23 (by decide) (fun q => ?_) (fun q => absurd (by rw [hL5]; decide) q)
    refine z_iconst (v := 1) dL_law_582 (by decide) ?_
    exact z_ireturn dL_law_583 rfl (by decide) rfl
  · first | exact absurd rfl h1 | exact absurd rfl h2 | exact absurd rfl h3 | exact absurd rfl h4 | exact absurd rfl h5 | exact absurd rfl h6 | exact absurd rfl h7
set_option maxRecDepth 100000 in
set_option maxHeartbeats 4000000 in
theorem law_make {G : xG} {d : Nat} (hd : 10 ≤ d) (hL5 : G.2.2.2.2.2.2.1 = 5) : Z (RL, cL_law, 4, some .boolean, false) G d (fun r _ => r = some (.int 1)) 148 [(0, .ref G.2.2.2.2.2.1), (1, .ref (G.1 + 0)), (2, .ref (G.1 + 54)), (3, .int 0)] [] (w0 G) := by
  have hi1 : vp_in ((0 : Int32) + 1) G.2.2.2.2.2.2.1 := by rw [hL5]; exact vp_in_nI (n := 1) (by decide) (by decide)
  have hi2 : vp_in ((0 : Int32) + 2) G.2.2.2.2.2.2.1 := by rw [hL5]; exact vp_in_nI (n := 2) (by decide) (by decide)
  have hi3 : vp_in ((0 : Int32) + 3) G.2.2.2.2.2.2.1 := by rw [hL5]; exact vp_in_nI (n := 3) (by decide) (by decide)
  have hi4 : vp_in ((0 : Int32) + 4) G.2.2.2.2.2.2.1 := by rw [hL5]; exact vp_in_nI (n := 4) (by decide) (by decide)
  have hi0 := hi1
  refine z_aload_n dL_law_148 rfl rfl ?_
  refine z_aload_n dL_law_149 rfl rfl ?_
  refine z_iload_n dL_law_150 rfl rfl ?_
  refine z_iconst (v := 1) dL_law_151 (by decide) ?_
  refine z_iadd dL_law_152 ?_
  refine z_scd (by first | exact hi0 | exact hi1 | exact hi2 | exact hi3 | exact hi4) dL_law_153 ?_
  refine z_callV (As := [_]) eX10_make sX10_make lL_23 rfl dL_law_154 (by rfl) (fx_make 1 (Nat.le_refl _) _) (by omega) rfl (Nat.le_of_ble_eq_true rfl) (fun r cs1 hp => ?_)
  obtain ⟨rfl, rfl⟩ := hp
  have hM := Mf_0 G
  refine z_st (st' := [.int _]) rfl ?_
  refine z_aload_n dL_law_157 rfl rfl ?_
  refine z_aload_n dL_law_158 rfl rfl ?_
  refine z_iload_n dL_law_159 rfl rfl ?_
  refine z_iconst (v := 1) dL_law_160 (by decide) ?_
  refine z_iadd dL_law_161 ?_
  refine z_scd (by first | exact hi0 | exact hi1 | exact hi2 | exact hi3 | exact hi4) dL_law_162 ?_
  refine z_callV (As := [_]) eX11_make sX11_make lL_27 rfl dL_law_163 hM.o (mx_make 1 (Nat.le_refl _) hM _) (by omega) rfl (Nat.le_of_ble_eq_true rfl) (fun r cs1 hp => ?_)
  obtain rfl := hp
  refine z_st (st' := [.int _, .int _]) rfl ?_
  refine z_icmp_eq (tgt := 576) dL_law_166 (by decide) (fun h1 => ?_) (fun h1 => ?_)
  · refine z_iinc dL_law_576 rfl rfl (by decide) ?_
    refine z_goto (tgt := 18) dL_law_579 (by decide) ?_
    refine z_iload_n dL_law_18 rfl rfl ?_
    refine z_aload_n dL_law_19 rfl rfl ?_
    refine z_scl dL_law_20 ?_
    refine z_iconst (v := 5) dL_law_21 (by decide) ?_
    refine z_isub dL_law_22 ?_
    refine z_icmp_gt (tgt := 582) dL_law_23 (by decide) (fun q => ?_) (fun q => absurd (by rw [hL5]; decide) q)
    refine z_iconst (v := 1) dL_law_582 (by decide) ?_
    exact z_ireturn dL_law_583 rfl (by decide) rfl
  · first | exact absurd rfl h1 | exact absurd rfl h2 | exact absurd rfl h3 | exact absurd rfl h4 | exact absurd rfl h5 | exact absurd rfl h6 | exact absurd rfl h7
set_option maxRecDepth 100000 in
set_option maxHeartbeats 4000000 in
theorem law_set {G : xG} {d : Nat} (hd : 10 ≤ d) (hL5 : G.2.2.2.2.2.2.1 = 5) : Z (RL, cL_law, 4, some .boolean, false) G d (fun r _ => r = some (.int 1)) 171 [(0, .ref G.2.2.2.2.2.1), (1, .ref (G.1 + 0)), (2, .ref (G.1 + 54)), (3, .int 0)] [] (w0 G) := by
  have hi1 : vp_in ((0 : Int32) + 1) G.2.2.2.2.2.2.1 := by rw [hL5]; exact vp_in_nI (n := 1) (by decide) (by decide)
  have hi2 : vp_in ((0 : Int32) + 2) G.2.2.2.2.2.2.1 := by rw [hL5]; exact vp_in_nI (n := 2) (by decide) (by decide)
  have hi3 : vp_in ((0 : Int32) + 3) G.2.2.2.2.2.2.1 := by rw [hL5]; exact vp_in_nI (n := 3) (by decide) (by decide)
  have hi4 : vp_in ((0 : Int32) + 4) G.2.2.2.2.2.2.1 := by rw [hL5]; exact vp_in_nI (n := 4) (by decide) (by decide)
  have hi0 := hi1
  refine z_aload_n dL_law_171 rfl rfl ?_
  refine z_aload_n dL_law_172 rfl rfl ?_
  refine z_iload_n dL_law_173 rfl rfl ?_
  refine z_iconst (v := 1) dL_law_174 (by decide) ?_
  refine z_iadd dL_law_175 ?_
  refine z_scd (by first | exact hi0 | exact hi1 | exact hi2 | exact hi3 | exact hi4) dL_law_176 ?_
  refine z_aload_n dL_law_177 rfl rfl ?_
  refine z_iload_n dL_law_178 rfl rfl ?_
  refine z_iconst (v := 2) dL_law_179 (by decide) ?_
  refine z_iadd dL_law_180 ?_
  refine z_scd (by first | exact hi0 | exact hi1 | exact hi2 | exact hi3 | exact hi4) dL_law_181 ?_
  refine z_aload_n dL_law_182 rfl rfl ?_
  refine z_iload_n dL_law_183 rfl rfl ?_
  refine z_iconst (v := 3) dL_law_184 (by decide) ?_
  refine z_iadd dL_law_185 ?_
  refine z_scd (by first | exact hi0 | exact hi1 | exact hi2 | exact hi3 | exact hi4) dL_law_186 ?_
  refine z_callV (As := [_, _, _]) eX10_set sX10_set lL_28 rfl dL_law_187 (by rfl) (fx_set 2 (Nat.le_refl _) _ _ _) (by omega) rfl (Nat.le_of_ble_eq_true rfl) (fun r cs1 hp => ?_)
  obtain ⟨rfl, rfl⟩ := hp
  have hM := Mf_0 G
  refine z_st (st' := [.int _]) rfl ?_
  refine z_aload_n dL_law_190 rfl rfl ?_
  refine z_aload_n dL_law_191 rfl rfl ?_
  refine z_iload_n dL_law_192 rfl rfl ?_
  refine z_iconst (v := 1) dL_law_193 (by decide) ?_
  refine z_iadd dL_law_194 ?_
  refine z_scd (by first | exact hi0 | exact hi1 | exact hi2 | exact hi3 | exact hi4) dL_law_195 ?_
  refine z_aload_n dL_law_196 rfl rfl ?_
  refine z_iload_n dL_law_197 rfl rfl ?_
  refine z_iconst (v := 2) dL_law_198 (by decide) ?_
  refine z_iadd dL_law_199 ?_
  refine z_scd (by first | exact hi0 | exact hi1 | exact hi2 | exact hi3 | exact hi4) dL_law_200 ?_
  refine z_aload_n dL_law_201 rfl rfl ?_
  refine z_iload_n dL_law_202 rfl rfl ?_
  refine z_iconst (v := 3) dL_law_203 (by decide) ?_
  refine z_iadd dL_law_204 ?_
  refine z_scd (by first | exact hi0 | exact hi1 | exact hi2 | exact hi3 | exact hi4) dL_law_205 ?_
  refine z_callV (As := [_, _, _]) eX11_set sX11_set lL_32 rfl dL_law_206 hM.o (mx_set 2 (Nat.le_refl _) hM _ _ _) (by omega) rfl (Nat.le_of_ble_eq_true rfl) (fun r cs1 hp => ?_)
  obtain rfl := hp
  refine z_st (st' := [.int _, .int _]) rfl ?_
  refine z_icmp_eq (tgt := 576) dL_law_209 (by decide) (fun h1 => ?_) (fun h1 => ?_)
  · refine z_iinc dL_law_576 rfl rfl (by decide) ?_
    refine z_goto (tgt := 18) dL_law_579 (by decide) ?_
    refine z_iload_n dL_law_18 rfl rfl ?_
    refine z_aload_n dL_law_19 rfl rfl ?_
    refine z_scl dL_law_20 ?_
    refine z_iconst (v := 5) dL_law_21 (by decide) ?_
    refine z_isub dL_law_22 ?_
    refine z_icmp_gt (tgt := 582) dL_law_23 (by decide) (fun q => ?_) (fun q => absurd (by rw [hL5]; decide) q)
    refine z_iconst (v := 1) dL_law_582 (by decide) ?_
    exact z_ireturn dL_law_583 rfl (by decide) rfl
  · first | exact absurd rfl h1 | exact absurd rfl h2 | exact absurd rfl h3 | exact absurd rfl h4 | exact absurd rfl h5 | exact absurd rfl h6 | exact absurd rfl h7
set_option maxRecDepth 100000 in
set_option maxHeartbeats 4000000 in
theorem law_text {G : xG} {d : Nat} (hd : 10 ≤ d) (hL5 : G.2.2.2.2.2.2.1 = 5) : Z (RL, cL_law, 4, some .boolean, false) G d (fun r _ => r = some (.int 1)) 214 [(0, .ref G.2.2.2.2.2.1), (1, .ref (G.1 + 0)), (2, .ref (G.1 + 54)), (3, .int 0)] [] (w0 G) := by
  have hi1 : vp_in ((0 : Int32) + 1) G.2.2.2.2.2.2.1 := by rw [hL5]; exact vp_in_nI (n := 1) (by decide) (by decide)
  have hi2 : vp_in ((0 : Int32) + 2) G.2.2.2.2.2.2.1 := by rw [hL5]; exact vp_in_nI (n := 2) (by decide) (by decide)
  have hi3 : vp_in ((0 : Int32) + 3) G.2.2.2.2.2.2.1 := by rw [hL5]; exact vp_in_nI (n := 3) (by decide) (by decide)
  have hi4 : vp_in ((0 : Int32) + 4) G.2.2.2.2.2.2.1 := by rw [hL5]; exact vp_in_nI (n := 4) (by decide) (by decide)
  have hi0 := hi1
  refine z_aload_n dL_law_214 rfl rfl ?_
  refine z_aload_n dL_law_215 rfl rfl ?_
  refine z_iload_n dL_law_216 rfl rfl ?_
  refine z_iconst (v := 1) dL_law_217 (by decide) ?_
  refine z_iadd dL_law_218 ?_
  refine z_scd (by first | exact hi0 | exact hi1 | exact hi2 | exact hi3 | exact hi4) dL_law_219 ?_
  refine z_aload_n dL_law_220 rfl rfl ?_
  refine z_iload_n dL_law_221 rfl rfl ?_
  refine z_iconst (v := 2) dL_law_222 (by decide) ?_
  refine z_iadd dL_law_223 ?_
  refine z_scd (by first | exact hi0 | exact hi1 | exact hi2 | exact hi3 | exact hi4) dL_law_224 ?_
  refine z_callV (As := [_, _]) eX10_text sX10_text lL_33 rfl dL_law_225 (by rfl) (fx_text 2 (Nat.le_refl _) _ _) (by omega) rfl (Nat.le_of_ble_eq_true rfl) (fun r cs1 hp => ?_)
  obtain ⟨rfl, rfl⟩ := hp
  have hM := Mf_0 G
  refine z_st (st' := [.int _]) rfl ?_
  refine z_aload_n dL_law_228 rfl rfl ?_
  refine z_aload_n dL_law_229 rfl rfl ?_
  refine z_iload_n dL_law_230 rfl rfl ?_
  refine z_iconst (v := 1) dL_law_231 (by decide) ?_
  refine z_iadd dL_law_232 ?_
  refine z_scd (by first | exact hi0 | exact hi1 | exact hi2 | exact hi3 | exact hi4) dL_law_233 ?_
  refine z_aload_n dL_law_234 rfl rfl ?_
  refine z_iload_n dL_law_235 rfl rfl ?_
  refine z_iconst (v := 2) dL_law_236 (by decide) ?_
  refine z_iadd dL_law_237 ?_
  refine z_scd (by first | exact hi0 | exact hi1 | exact hi2 | exact hi3 | exact hi4) dL_law_238 ?_
  refine z_callV (As := [_, _]) eX11_text sX11_text lL_37 rfl dL_law_239 hM.o (mx_text 2 (Nat.le_refl _) hM _ _) (by omega) rfl (Nat.le_of_ble_eq_true rfl) (fun r cs1 hp => ?_)
  obtain rfl := hp
  refine z_st (st' := [.int _, .int _]) rfl ?_
  refine z_icmp_eq (tgt := 576) dL_law_242 (by decide) (fun h1 => ?_) (fun h1 => ?_)
  · refine z_iinc dL_law_576 rfl rfl (by decide) ?_
    refine z_goto (tgt := 18) dL_law_579 (by decide) ?_
    refine z_iload_n dL_law_18 rfl rfl ?_
    refine z_aload_n dL_law_19 rfl rfl ?_
    refine z_scl dL_law_20 ?_
    refine z_iconst (v := 5) dL_law_21 (by decide) ?_
    refine z_isub dL_law_22 ?_
    refine z_icmp_gt (tgt := 582) dL_law_23 (by decide) (fun q => ?_) (fun q => absurd (by rw [hL5]; decide) q)
    refine z_iconst (v := 1) dL_law_582 (by decide) ?_
    exact z_ireturn dL_law_583 rfl (by decide) rfl
  · first | exact absurd rfl h1 | exact absurd rfl h2 | exact absurd rfl h3 | exact absurd rfl h4 | exact absurd rfl h5 | exact absurd rfl h6 | exact absurd rfl h7
set_option maxRecDepth 100000 in
set_option maxHeartbeats 4000000 in
theorem law_add {G : xG} {d : Nat} (hd : 10 ≤ d) (hL5 : G.2.2.2.2.2.2.1 = 5) : Z (RL, cL_law, 4, some .boolean, false) G d (fun r _ => r = some (.int 1)) 247 [(0, .ref G.2.2.2.2.2.1), (1, .ref (G.1 + 0)), (2, .ref (G.1 + 54)), (3, .int 0)] [] (w0 G) := by
  have hi1 : vp_in ((0 : Int32) + 1) G.2.2.2.2.2.2.1 := by rw [hL5]; exact vp_in_nI (n := 1) (by decide) (by decide)
  have hi2 : vp_in ((0 : Int32) + 2) G.2.2.2.2.2.2.1 := by rw [hL5]; exact vp_in_nI (n := 2) (by decide) (by decide)
  have hi3 : vp_in ((0 : Int32) + 3) G.2.2.2.2.2.2.1 := by rw [hL5]; exact vp_in_nI (n := 3) (by decide) (by decide)
  have hi4 : vp_in ((0 : Int32) + 4) G.2.2.2.2.2.2.1 := by rw [hL5]; exact vp_in_nI (n := 4) (by decide) (by decide)
  have hi0 := hi1
  refine z_aload_n dL_law_247 rfl rfl ?_
  refine z_aload_n dL_law_248 rfl rfl ?_
  refine z_iload_n dL_law_249 rfl rfl ?_
  refine z_iconst (v := 1) dL_law_250 (by decide) ?_
  refine z_iadd dL_law_251 ?_
  refine z_scd (by first | exact hi0 | exact hi1 | exact hi2 | exact hi3 | exact hi4) dL_law_252 ?_
  refine z_aload_n dL_law_253 rfl rfl ?_
  refine z_iload_n dL_law_254 rfl rfl ?_
  refine z_iconst (v := 2) dL_law_255 (by decide) ?_
  refine z_iadd dL_law_256 ?_
  refine z_scd (by first | exact hi0 | exact hi1 | exact hi2 | exact hi3 | exact hi4) dL_law_257 ?_
  refine z_aload_n dL_law_258 rfl rfl ?_
  refine z_iload_n dL_law_259 rfl rfl ?_
  refine z_iconst (v := 3) dL_law_260 (by decide) ?_
  refine z_iadd dL_law_261 ?_
  refine z_scd (by first | exact hi0 | exact hi1 | exact hi2 | exact hi3 | exact hi4) dL_law_262 ?_
  refine z_callV (As := [_, _, _]) eX10_add sX10_add lL_38 rfl dL_law_263 (by rfl) (fx_add 2 (Nat.le_refl _) _ _ _) (by omega) rfl (Nat.le_of_ble_eq_true rfl) (fun r cs1 hp => ?_)
  obtain ⟨rfl, rfl⟩ := hp
  have hM := Mf_0 G
  refine z_st (st' := [.int _]) rfl ?_
  refine z_aload_n dL_law_266 rfl rfl ?_
  refine z_aload_n dL_law_267 rfl rfl ?_
  refine z_iload_n dL_law_268 rfl rfl ?_
  refine z_iconst (v := 1) dL_law_269 (by decide) ?_
  refine z_iadd dL_law_270 ?_
  refine z_scd (by first | exact hi0 | exact hi1 | exact hi2 | exact hi3 | exact hi4) dL_law_271 ?_
  refine z_aload_n dL_law_272 rfl rfl ?_
  refine z_iload_n dL_law_273 rfl rfl ?_
  refine z_iconst (v := 2) dL_law_274 (by decide) ?_
  refine z_iadd dL_law_275 ?_
  refine z_scd (by first | exact hi0 | exact hi1 | exact hi2 | exact hi3 | exact hi4) dL_law_276 ?_
  refine z_aload_n dL_law_277 rfl rfl ?_
  refine z_iload_n dL_law_278 rfl rfl ?_
  refine z_iconst (v := 3) dL_law_279 (by decide) ?_
  refine z_iadd dL_law_280 ?_
  refine z_scd (by first | exact hi0 | exact hi1 | exact hi2 | exact hi3 | exact hi4) dL_law_281 ?_
  refine z_callV (As := [_, _, _]) eX11_add sX11_add lL_42 rfl dL_law_282 hM.o (mx_add 2 (Nat.le_refl _) hM _ _ _) (by omega) rfl (Nat.le_of_ble_eq_true rfl) (fun r cs1 hp => ?_)
  obtain rfl := hp
  refine z_st (st' := [.int _, .int _]) rfl ?_
  refine z_icmp_eq (tgt := 576) dL_law_285 (by decide) (fun h1 => ?_) (fun h1 => ?_)
  · refine z_iinc dL_law_576 rfl rfl (by decide) ?_
    refine z_goto (tgt := 18) dL_law_579 (by decide) ?_
    refine z_iload_n dL_law_18 rfl rfl ?_
    refine z_aload_n dL_law_19 rfl rfl ?_
    refine z_scl dL_law_20 ?_
    refine z_iconst (v := 5) dL_law_21 (by decide) ?_
    refine z_isub dL_law_22 ?_
    refine z_icmp_gt (tgt := 582) dL_law_23 (by decide) (fun q => ?_) (fun q => absurd (by rw [hL5]; decide) q)
    refine z_iconst (v := 1) dL_law_582 (by decide) ?_
    exact z_ireturn dL_law_583 rfl (by decide) rfl
  · first | exact absurd rfl h1 | exact absurd rfl h2 | exact absurd rfl h3 | exact absurd rfl h4 | exact absurd rfl h5 | exact absurd rfl h6 | exact absurd rfl h7
set_option maxRecDepth 100000 in
set_option maxHeartbeats 4000000 in
theorem law_limit {G : xG} {d : Nat} (hd : 10 ≤ d) (hL5 : G.2.2.2.2.2.2.1 = 5) : Z (RL, cL_law, 4, some .boolean, false) G d (fun r _ => r = some (.int 1)) 290 [(0, .ref G.2.2.2.2.2.1), (1, .ref (G.1 + 0)), (2, .ref (G.1 + 54)), (3, .int 0)] [] (w0 G) := by
  have hi1 : vp_in ((0 : Int32) + 1) G.2.2.2.2.2.2.1 := by rw [hL5]; exact vp_in_nI (n := 1) (by decide) (by decide)
  have hi2 : vp_in ((0 : Int32) + 2) G.2.2.2.2.2.2.1 := by rw [hL5]; exact vp_in_nI (n := 2) (by decide) (by decide)
  have hi3 : vp_in ((0 : Int32) + 3) G.2.2.2.2.2.2.1 := by rw [hL5]; exact vp_in_nI (n := 3) (by decide) (by decide)
  have hi4 : vp_in ((0 : Int32) + 4) G.2.2.2.2.2.2.1 := by rw [hL5]; exact vp_in_nI (n := 4) (by decide) (by decide)
  have hi0 := hi1
  refine z_aload_n dL_law_290 rfl rfl ?_
  refine z_aload_n dL_law_291 rfl rfl ?_
  refine z_iload_n dL_law_292 rfl rfl ?_
  refine z_iconst (v := 1) dL_law_293 (by decide) ?_
  refine z_iadd dL_law_294 ?_
  refine z_scd (by first | exact hi0 | exact hi1 | exact hi2 | exact hi3 | exact hi4) dL_law_295 ?_
  refine z_callV (As := [_]) eX10_limit sX10_limit lL_43 rfl dL_law_296 (by rfl) (fx_limit 0 _) (by omega) rfl (Nat.le_of_ble_eq_true rfl) (fun r cs1 hp => ?_)
  obtain ⟨rfl, hM⟩ := hp
  refine z_st (st' := [.int _]) rfl ?_
  refine z_aload_n dL_law_299 rfl rfl ?_
  refine z_aload_n dL_law_300 rfl rfl ?_
  refine z_iload_n dL_law_301 rfl rfl ?_
  refine z_iconst (v := 1) dL_law_302 (by decide) ?_
  refine z_iadd dL_law_303 ?_
  refine z_scd (by first | exact hi0 | exact hi1 | exact hi2 | exact hi3 | exact hi4) dL_law_304 ?_
  refine z_callV (As := [_]) eX11_limit sX11_limit lL_46 rfl dL_law_305 hM.o (mx_limit 1 (Nat.le_refl _) hM _) (by omega) rfl (Nat.le_of_ble_eq_true rfl) (fun r cs1 hp => ?_)
  obtain rfl := hp
  refine z_st (st' := [.int _, .int _]) rfl ?_
  refine z_icmp_eq (tgt := 576) dL_law_308 (by decide) (fun h1 => ?_) (fun h1 => ?_)
  · refine z_iinc dL_law_576 rfl rfl (by decide) ?_
    refine z_goto (tgt := 18) dL_law_579 (by decide) ?_
    refine z_iload_n dL_law_18 rfl rfl ?_
    refine z_aload_n dL_law_19 rfl rfl ?_
    refine z_scl dL_law_20 ?_
    refine z_iconst (v := 5) dL_law_21 (by decide) ?_
    refine z_isub dL_law_22 ?_
    refine z_icmp_gt (tgt := 582) dL_law_23 (by decide) (fun q => ?_) (fun q => absurd (by rw [hL5]; decide) q)
    refine z_iconst (v := 1) dL_law_582 (by decide) ?_
    exact z_ireturn dL_law_583 rfl (by decide) rfl
  · first | exact absurd rfl h1 | exact absurd rfl h2 | exact absurd rfl h3 | exact absurd rfl h4 | exact absurd rfl h5 | exact absurd rfl h6 | exact absurd rfl h7
set_option maxRecDepth 100000 in
set_option maxHeartbeats 4000000 in
theorem law_write {G : xG} {d : Nat} (hd : 10 ≤ d) (hL5 : G.2.2.2.2.2.2.1 = 5) : Z (RL, cL_law, 4, some .boolean, false) G d (fun r _ => r = some (.int 1)) 313 [(0, .ref G.2.2.2.2.2.1), (1, .ref (G.1 + 0)), (2, .ref (G.1 + 54)), (3, .int 0)] [] (w0 G) := by
  have hi1 : vp_in ((0 : Int32) + 1) G.2.2.2.2.2.2.1 := by rw [hL5]; exact vp_in_nI (n := 1) (by decide) (by decide)
  have hi2 : vp_in ((0 : Int32) + 2) G.2.2.2.2.2.2.1 := by rw [hL5]; exact vp_in_nI (n := 2) (by decide) (by decide)
  have hi3 : vp_in ((0 : Int32) + 3) G.2.2.2.2.2.2.1 := by rw [hL5]; exact vp_in_nI (n := 3) (by decide) (by decide)
  have hi4 : vp_in ((0 : Int32) + 4) G.2.2.2.2.2.2.1 := by rw [hL5]; exact vp_in_nI (n := 4) (by decide) (by decide)
  have hi0 := hi1
  refine z_aload_n dL_law_313 rfl rfl ?_
  refine z_aload_n dL_law_314 rfl rfl ?_
  refine z_iload_n dL_law_315 rfl rfl ?_
  refine z_iconst (v := 1) dL_law_316 (by decide) ?_
  refine z_iadd dL_law_317 ?_
  refine z_scd (by first | exact hi0 | exact hi1 | exact hi2 | exact hi3 | exact hi4) dL_law_318 ?_
  refine z_aload_n dL_law_319 rfl rfl ?_
  refine z_iload_n dL_law_320 rfl rfl ?_
  refine z_iconst (v := 2) dL_law_321 (by decide) ?_
  refine z_iadd dL_law_322 ?_
  refine z_scd (by first | exact hi0 | exact hi1 | exact hi2 | exact hi3 | exact hi4) dL_law_323 ?_
  refine z_callV (As := [_, _]) eX10_write sX10_write lL_47 rfl dL_law_324 (by rfl) (fx_write 1 (Nat.le_refl _) _ _) (by omega) rfl (Nat.le_of_ble_eq_true rfl) (fun r cs1 hp => ?_)
  obtain ⟨rfl, rfl⟩ := hp
  have hM := Mf_0 G
  refine z_st (st' := [.int _]) rfl ?_
  refine z_aload_n dL_law_327 rfl rfl ?_
  refine z_aload_n dL_law_328 rfl rfl ?_
  refine z_iload_n dL_law_329 rfl rfl ?_
  refine z_iconst (v := 1) dL_law_330 (by decide) ?_
  refine z_iadd dL_law_331 ?_
  refine z_scd (by first | exact hi0 | exact hi1 | exact hi2 | exact hi3 | exact hi4) dL_law_332 ?_
  refine z_aload_n dL_law_333 rfl rfl ?_
  refine z_iload_n dL_law_334 rfl rfl ?_
  refine z_iconst (v := 2) dL_law_335 (by decide) ?_
  refine z_iadd dL_law_336 ?_
  refine z_scd (by first | exact hi0 | exact hi1 | exact hi2 | exact hi3 | exact hi4) dL_law_337 ?_
  refine z_callV (As := [_, _]) eX11_write sX11_write lL_51 rfl dL_law_338 hM.o (mx_write 1 (Nat.le_refl _) hM _ _) (by omega) rfl (Nat.le_of_ble_eq_true rfl) (fun r cs1 hp => ?_)
  obtain rfl := hp
  refine z_st (st' := [.int _, .int _]) rfl ?_
  refine z_icmp_eq (tgt := 576) dL_law_341 (by decide) (fun h1 => ?_) (fun h1 => ?_)
  · refine z_iinc dL_law_576 rfl rfl (by decide) ?_
    refine z_goto (tgt := 18) dL_law_579 (by decide) ?_
    refine z_iload_n dL_law_18 rfl rfl ?_
    refine z_aload_n dL_law_19 rfl rfl ?_
    refine z_scl dL_law_20 ?_
    refine z_iconst (v := 5) dL_law_21 (by decide) ?_
    refine z_isub dL_law_22 ?_
    refine z_icmp_gt (tgt := 582) dL_law_23 (by decide) (fun q => ?_) (fun q => absurd (by rw [hL5]; decide) q)
    refine z_iconst (v := 1) dL_law_582 (by decide) ?_
    exact z_ireturn dL_law_583 rfl (by decide) rfl
  · first | exact absurd rfl h1 | exact absurd rfl h2 | exact absurd rfl h3 | exact absurd rfl h4 | exact absurd rfl h5 | exact absurd rfl h6 | exact absurd rfl h7
set_option maxRecDepth 100000 in
set_option maxHeartbeats 4000000 in
theorem law_sign {G : xG} {d : Nat} (hd : 10 ≤ d) (hL5 : G.2.2.2.2.2.2.1 = 5) : Z (RL, cL_law, 4, some .boolean, false) G d (fun r _ => r = some (.int 1)) 346 [(0, .ref G.2.2.2.2.2.1), (1, .ref (G.1 + 0)), (2, .ref (G.1 + 54)), (3, .int 0)] [] (w0 G) := by
  have hi1 : vp_in ((0 : Int32) + 1) G.2.2.2.2.2.2.1 := by rw [hL5]; exact vp_in_nI (n := 1) (by decide) (by decide)
  have hi2 : vp_in ((0 : Int32) + 2) G.2.2.2.2.2.2.1 := by rw [hL5]; exact vp_in_nI (n := 2) (by decide) (by decide)
  have hi3 : vp_in ((0 : Int32) + 3) G.2.2.2.2.2.2.1 := by rw [hL5]; exact vp_in_nI (n := 3) (by decide) (by decide)
  have hi4 : vp_in ((0 : Int32) + 4) G.2.2.2.2.2.2.1 := by rw [hL5]; exact vp_in_nI (n := 4) (by decide) (by decide)
  have hi0 := hi1
  refine z_aload_n dL_law_346 rfl rfl ?_
  refine z_aload_n dL_law_347 rfl rfl ?_
  refine z_iload_n dL_law_348 rfl rfl ?_
  refine z_iconst (v := 1) dL_law_349 (by decide) ?_
  refine z_iadd dL_law_350 ?_
  refine z_scd (by first | exact hi0 | exact hi1 | exact hi2 | exact hi3 | exact hi4) dL_law_351 ?_
  refine z_callV (As := [_]) eX10_sign sX10_sign lL_52 rfl dL_law_352 (by rfl) (fx_sign 1 (Nat.le_refl _) _) (by omega) rfl (Nat.le_of_ble_eq_true rfl) (fun r cs1 hp => ?_)
  obtain ⟨rfl, rfl⟩ := hp
  have hM := Mf_0 G
  refine z_st (st' := [.int _]) rfl ?_
  refine z_aload_n dL_law_355 rfl rfl ?_
  refine z_aload_n dL_law_356 rfl rfl ?_
  refine z_iload_n dL_law_357 rfl rfl ?_
  refine z_iconst (v := 1) dL_law_358 (by decide) ?_
  refine z_iadd dL_law_359 ?_
  refine z_scd (by first | exact hi0 | exact hi1 | exact hi2 | exact hi3 | exact hi4) dL_law_360 ?_
  refine z_callV (As := [_]) eX11_sign sX11_sign lL_55 rfl dL_law_361 hM.o (mx_sign 1 (Nat.le_refl _) hM _) (by omega) rfl (Nat.le_of_ble_eq_true rfl) (fun r cs1 hp => ?_)
  obtain rfl := hp
  refine z_st (st' := [.int _, .int _]) rfl ?_
  refine z_icmp_eq (tgt := 576) dL_law_364 (by decide) (fun h1 => ?_) (fun h1 => ?_)
  · refine z_iinc dL_law_576 rfl rfl (by decide) ?_
    refine z_goto (tgt := 18) dL_law_579 (by decide) ?_
    refine z_iload_n dL_law_18 rfl rfl ?_
    refine z_aload_n dL_law_19 rfl rfl ?_
    refine z_scl dL_law_20 ?_
    refine z_iconst (v := 5) dL_law_21 (by decide) ?_
    refine z_isub dL_law_22 ?_
    refine z_icmp_gt (tgt := 582) dL_law_23 (by decide) (fun q => ?_) (fun q => absurd (by rw [hL5]; decide) q)
    refine z_iconst (v := 1) dL_law_582 (by decide) ?_
    exact z_ireturn dL_law_583 rfl (by decide) rfl
  · first | exact absurd rfl h1 | exact absurd rfl h2 | exact absurd rfl h3 | exact absurd rfl h4 | exact absurd rfl h5 | exact absurd rfl h6 | exact absurd rfl h7
set_option maxRecDepth 100000 in
set_option maxHeartbeats 4000000 in
theorem law_take {G : xG} {d : Nat} (hd : 10 ≤ d) (hL5 : G.2.2.2.2.2.2.1 = 5) : Z (RL, cL_law, 4, some .boolean, false) G d (fun r _ => r = some (.int 1)) 369 [(0, .ref G.2.2.2.2.2.1), (1, .ref (G.1 + 0)), (2, .ref (G.1 + 54)), (3, .int 0)] [] (w0 G) := by
  have hi1 : vp_in ((0 : Int32) + 1) G.2.2.2.2.2.2.1 := by rw [hL5]; exact vp_in_nI (n := 1) (by decide) (by decide)
  have hi2 : vp_in ((0 : Int32) + 2) G.2.2.2.2.2.2.1 := by rw [hL5]; exact vp_in_nI (n := 2) (by decide) (by decide)
  have hi3 : vp_in ((0 : Int32) + 3) G.2.2.2.2.2.2.1 := by rw [hL5]; exact vp_in_nI (n := 3) (by decide) (by decide)
  have hi4 : vp_in ((0 : Int32) + 4) G.2.2.2.2.2.2.1 := by rw [hL5]; exact vp_in_nI (n := 4) (by decide) (by decide)
  have hi0 := hi1
  refine z_aload_n dL_law_369 rfl rfl ?_
  refine z_callV (As := []) eX10_take sX10_take lL_56 rfl dL_law_370 (by rfl) (fx_take 2 (Nat.le_refl _)) (by omega) rfl (Nat.le_of_ble_eq_true rfl) (fun r cs1 hp => ?_)
  obtain ⟨rfl, hM⟩ := hp
  refine z_st (st' := [.int _]) rfl ?_
  refine z_aload_n dL_law_373 rfl rfl ?_
  refine z_callV (As := []) eX11_take sX11_take lL_59 rfl dL_law_374 hM.o (mx_take 0 hM) (by omega) rfl (Nat.le_of_ble_eq_true rfl) (fun r cs1 hp => ?_)
  obtain rfl := hp
  refine z_st (st' := [.int _, .int _]) rfl ?_
  refine z_icmp_eq (tgt := 576) dL_law_377 (by decide) (fun h1 => ?_) (fun h1 => ?_)
  · refine z_iinc dL_law_576 rfl rfl (by decide) ?_
    refine z_goto (tgt := 18) dL_law_579 (by decide) ?_
    refine z_iload_n dL_law_18 rfl rfl ?_
    refine z_aload_n dL_law_19 rfl rfl ?_
    refine z_scl dL_law_20 ?_
    refine z_iconst (v := 5) dL_law_21 (by decide) ?_
    refine z_isub dL_law_22 ?_
    refine z_icmp_gt (tgt := 582) dL_law_23 (by decide) (fun q => ?_) (fun q => absurd (by rw [hL5]; decide) q)
    refine z_iconst (v := 1) dL_law_582 (by decide) ?_
    exact z_ireturn dL_law_583 rfl (by decide) rfl
  · first | exact absurd rfl h1 | exact absurd rfl h2 | exact absurd rfl h3 | exact absurd rfl h4 | exact absurd rfl h5 | exact absurd rfl h6 | exact absurd rfl h7
set_option maxRecDepth 100000 in
set_option maxHeartbeats 4000000 in
theorem law_forbid {G : xG} {d : Nat} (hd : 10 ≤ d) (hL5 : G.2.2.2.2.2.2.1 = 5) : Z (RL, cL_law, 4, some .boolean, false) G d (fun r _ => r = some (.int 1)) 382 [(0, .ref G.2.2.2.2.2.1), (1, .ref (G.1 + 0)), (2, .ref (G.1 + 54)), (3, .int 0)] [] (w0 G) := by
  have hi1 : vp_in ((0 : Int32) + 1) G.2.2.2.2.2.2.1 := by rw [hL5]; exact vp_in_nI (n := 1) (by decide) (by decide)
  have hi2 : vp_in ((0 : Int32) + 2) G.2.2.2.2.2.2.1 := by rw [hL5]; exact vp_in_nI (n := 2) (by decide) (by decide)
  have hi3 : vp_in ((0 : Int32) + 3) G.2.2.2.2.2.2.1 := by rw [hL5]; exact vp_in_nI (n := 3) (by decide) (by decide)
  have hi4 : vp_in ((0 : Int32) + 4) G.2.2.2.2.2.2.1 := by rw [hL5]; exact vp_in_nI (n := 4) (by decide) (by decide)
  have hi0 := hi1
  refine z_aload_n dL_law_382 rfl rfl ?_
  refine z_aload_n dL_law_383 rfl rfl ?_
  refine z_iload_n dL_law_384 rfl rfl ?_
  refine z_iconst (v := 1) dL_law_385 (by decide) ?_
  refine z_iadd dL_law_386 ?_
  refine z_scd (by first | exact hi0 | exact hi1 | exact hi2 | exact hi3 | exact hi4) dL_law_387 ?_
  refine z_aload_n dL_law_388 rfl rfl ?_
  refine z_iload_n dL_law_389 rfl rfl ?_
  refine z_iconst (v := 2) dL_law_390 (by decide) ?_
  refine z_iadd dL_law_391 ?_
  refine z_scd (by first | exact hi0 | exact hi1 | exact hi2 | exact hi3 | exact hi4) dL_law_392 ?_
  refine z_if_eq (tgt := 400) dL_law_393 (by decide) (fun h1 => ?_) (fun h1 => ?_)
  · refine z_iconst (v := 0) dL_law_400 (by decide) ?_
    refine z_callV (As := [_, _]) eX10_forbid sX10_forbid lL_60 rfl dL_law_401 (by rfl) (fx_forbid 2 (Nat.le_refl _) _ _) (by omega) rfl (Nat.le_of_ble_eq_true rfl) (fun r cs1 hp => ?_)
    obtain ⟨rfl, rfl⟩ := hp
    have hM := Mf_0 G
    refine z_st (st' := [.int _]) rfl ?_
    refine z_aload_n dL_law_404 rfl rfl ?_
    refine z_aload_n dL_law_405 rfl rfl ?_
    refine z_iload_n dL_law_406 rfl rfl ?_
    refine z_iconst (v := 1) dL_law_407 (by decide) ?_
    refine z_iadd dL_law_408 ?_
    refine z_scd (by first | exact hi0 | exact hi1 | exact hi2 | exact hi3 | exact hi4) dL_law_409 ?_
    refine z_aload_n dL_law_410 rfl rfl ?_
    refine z_iload_n dL_law_411 rfl rfl ?_
    refine z_iconst (v := 2) dL_law_412 (by decide) ?_
    refine z_iadd dL_law_413 ?_
    refine z_scd (by first | exact hi0 | exact hi1 | exact hi2 | exact hi3 | exact hi4) dL_law_414 ?_
    refine z_if_eq (tgt := 422) dL_law_415 (by decide) (fun h2 => ?_) (fun h2 => ?_)
    · refine z_iconst (v := 0) dL_law_422 (by decide) ?_
      refine z_callV (As := [_, _]) eX11_forbid sX11_forbid lL_64 rfl dL_law_423 hM.o (mx_forbid 1 (Nat.le_refl _) hM _ _) (by omega) rfl (Nat.le_of_ble_eq_true rfl) (fun r cs1 hp => ?_)
      obtain rfl := hp
      refine z_st (st' := [.int _, .int _]) rfl ?_
      refine z_icmp_eq (tgt := 576) dL_law_426 (by decide) (fun h3 => ?_) (fun h3 => ?_)
      · refine z_iinc dL_law_576 rfl rfl (by decide) ?_
        refine z_goto (tgt := 18) dL_law_579 (by decide) ?_
        refine z_iload_n dL_law_18 rfl rfl ?_
        refine z_aload_n dL_law_19 rfl rfl ?_
        refine z_scl dL_law_20 ?_
        refine z_iconst (v := 5) dL_law_21 (by decide) ?_
        refine z_isub dL_law_22 ?_
        refine z_icmp_gt (tgt := 582) dL_law_23 (by decide) (fun q => ?_) (fun q => absurd (by rw [hL5]; decide) q)
        refine z_iconst (v := 1) dL_law_582 (by decide) ?_
        exact z_ireturn dL_law_583 rfl (by decide) rfl
      · first | exact absurd rfl h1 | exact absurd rfl h2 | exact absurd rfl h3 | exact absurd rfl h4 | exact absurd rfl h5 | exact absurd rfl h6 | exact absurd rfl h7
    · refine z_iconst (v := 1) dL_law_418 (by decide) ?_
      refine z_goto (tgt := 423) dL_law_419 (by decide) ?_
      refine z_callV (As := [_, _]) eX11_forbid sX11_forbid lL_64 rfl dL_law_423 hM.o (mx_forbid 1 (Nat.le_refl _) hM _ _) (by omega) rfl (Nat.le_of_ble_eq_true rfl) (fun r cs1 hp => ?_)
      obtain rfl := hp
      refine z_st (st' := [.int _, .int _]) rfl ?_
      refine z_icmp_eq (tgt := 576) dL_law_426 (by decide) (fun h4 => ?_) (fun h4 => ?_)
      · refine z_iinc dL_law_576 rfl rfl (by decide) ?_
        refine z_goto (tgt := 18) dL_law_579 (by decide) ?_
        refine z_iload_n dL_law_18 rfl rfl ?_
        refine z_aload_n dL_law_19 rfl rfl ?_
        refine z_scl dL_law_20 ?_
        refine z_iconst (v := 5) dL_law_21 (by decide) ?_
        refine z_isub dL_law_22 ?_
        refine z_icmp_gt (tgt := 582) dL_law_23 (by decide) (fun q => ?_) (fun q => absurd (by rw [hL5]; decide) q)
        refine z_iconst (v := 1) dL_law_582 (by decide) ?_
        exact z_ireturn dL_law_583 rfl (by decide) rfl
      · first | exact absurd rfl h1 | exact absurd rfl h2 | exact absurd rfl h3 | exact absurd rfl h4 | exact absurd rfl h5 | exact absurd rfl h6 | exact absurd rfl h7
  · refine z_iconst (v := 1) dL_law_396 (by decide) ?_
    refine z_goto (tgt := 401) dL_law_397 (by decide) ?_
    refine z_callV (As := [_, _]) eX10_forbid sX10_forbid lL_60 rfl dL_law_401 (by rfl) (fx_forbid 2 (Nat.le_refl _) _ _) (by omega) rfl (Nat.le_of_ble_eq_true rfl) (fun r cs1 hp => ?_)
    obtain ⟨rfl, rfl⟩ := hp
    have hM := Mf_0 G
    refine z_st (st' := [.int _]) rfl ?_
    refine z_aload_n dL_law_404 rfl rfl ?_
    refine z_aload_n dL_law_405 rfl rfl ?_
    refine z_iload_n dL_law_406 rfl rfl ?_
    refine z_iconst (v := 1) dL_law_407 (by decide) ?_
    refine z_iadd dL_law_408 ?_
    refine z_scd (by first | exact hi0 | exact hi1 | exact hi2 | exact hi3 | exact hi4) dL_law_409 ?_
    refine z_aload_n dL_law_410 rfl rfl ?_
    refine z_iload_n dL_law_411 rfl rfl ?_
    refine z_iconst (v := 2) dL_law_412 (by decide) ?_
    refine z_iadd dL_law_413 ?_
    refine z_scd (by first | exact hi0 | exact hi1 | exact hi2 | exact hi3 | exact hi4) dL_law_414 ?_
    refine z_if_eq (tgt := 422) dL_law_415 (by decide) (fun h5 => ?_) (fun h5 => ?_)
    · refine z_iconst (v := 0) dL_law_422 (by decide) ?_
      refine z_callV (As := [_, _]) eX11_forbid sX11_forbid lL_64 rfl dL_law_423 hM.o (mx_forbid 1 (Nat.le_refl _) hM _ _) (by omega) rfl (Nat.le_of_ble_eq_true rfl) (fun r cs1 hp => ?_)
      obtain rfl := hp
      refine z_st (st' := [.int _, .int _]) rfl ?_
      refine z_icmp_eq (tgt := 576) dL_law_426 (by decide) (fun h6 => ?_) (fun h6 => ?_)
      · refine z_iinc dL_law_576 rfl rfl (by decide) ?_
        refine z_goto (tgt := 18) dL_law_579 (by decide) ?_
        refine z_iload_n dL_law_18 rfl rfl ?_
        refine z_aload_n dL_law_19 rfl rfl ?_
        refine z_scl dL_law_20 ?_
        refine z_iconst (v := 5) dL_law_21 (by decide) ?_
        refine z_isub dL_law_22 ?_
        refine z_icmp_gt (tgt := 582) dL_law_23 (by decide) (fun q => ?_) (fun q => absurd (by rw [hL5]; decide) q)
        refine z_iconst (v := 1) dL_law_582 (by decide) ?_
        exact z_ireturn dL_law_583 rfl (by decide) rfl
      · first | exact absurd rfl h1 | exact absurd rfl h2 | exact absurd rfl h3 | exact absurd rfl h4 | exact absurd rfl h5 | exact absurd rfl h6 | exact absurd rfl h7
    · refine z_iconst (v := 1) dL_law_418 (by decide) ?_
      refine z_goto (tgt := 423) dL_law_419 (by decide) ?_
      refine z_callV (As := [_, _]) eX11_forbid sX11_forbid lL_64 rfl dL_law_423 hM.o (mx_forbid 1 (Nat.le_refl _) hM _ _) (by omega) rfl (Nat.le_of_ble_eq_true rfl) (fun r cs1 hp => ?_)
      obtain rfl := hp
      refine z_st (st' := [.int _, .int _]) rfl ?_
      refine z_icmp_eq (tgt := 576) dL_law_426 (by decide) (fun h7 => ?_) (fun h7 => ?_)
      · refine z_iinc dL_law_576 rfl rfl (by decide) ?_
        refine z_goto (tgt := 18) dL_law_579 (by decide) ?_
        refine z_iload_n dL_law_18 rfl rfl ?_
        refine z_aload_n dL_law_19 rfl rfl ?_
        refine z_scl dL_law_20 ?_
        refine z_iconst (v := 5) dL_law_21 (by decide) ?_
        refine z_isub dL_law_22 ?_
        refine z_icmp_gt (tgt := 582) dL_law_23 (by decide) (fun q => ?_) (fun q => absurd (by rw [hL5]; decide) q)
        refine z_iconst (v := 1) dL_law_582 (by decide) ?_
        exact z_ireturn dL_law_583 rfl (by decide) rfl
      · first | exact absurd rfl h1 | exact absurd rfl h2 | exact absurd rfl h3 | exact absurd rfl h4 | exact absurd rfl h5 | exact absurd rfl h6 | exact absurd rfl h7
set_option maxRecDepth 100000 in
set_option maxHeartbeats 4000000 in
theorem law_read {G : xG} {d : Nat} (hd : 10 ≤ d) (hL5 : G.2.2.2.2.2.2.1 = 5) : Z (RL, cL_law, 4, some .boolean, false) G d (fun r _ => r = some (.int 1)) 431 [(0, .ref G.2.2.2.2.2.1), (1, .ref (G.1 + 0)), (2, .ref (G.1 + 54)), (3, .int 0)] [] (w0 G) := by
  have hi1 : vp_in ((0 : Int32) + 1) G.2.2.2.2.2.2.1 := by rw [hL5]; exact vp_in_nI (n := 1) (by decide) (by decide)
  have hi2 : vp_in ((0 : Int32) + 2) G.2.2.2.2.2.2.1 := by rw [hL5]; exact vp_in_nI (n := 2) (by decide) (by decide)
  have hi3 : vp_in ((0 : Int32) + 3) G.2.2.2.2.2.2.1 := by rw [hL5]; exact vp_in_nI (n := 3) (by decide) (by decide)
  have hi4 : vp_in ((0 : Int32) + 4) G.2.2.2.2.2.2.1 := by rw [hL5]; exact vp_in_nI (n := 4) (by decide) (by decide)
  have hi0 := hi1
  refine z_aload_n dL_law_431 rfl rfl ?_
  refine z_callV (As := []) eX10_read sX10_read lL_65 rfl dL_law_432 (by rfl) (fx_read 1 (Nat.le_refl _)) (by omega) rfl (Nat.le_of_ble_eq_true rfl) (fun r cs1 hp => ?_)
  obtain ⟨rfl, rfl⟩ := hp
  have hM := Mf_0 G
  refine z_st (st' := [.int _]) rfl ?_
  refine z_aload_n dL_law_435 rfl rfl ?_
  refine z_callV (As := []) eX11_read sX11_read lL_68 rfl dL_law_436 hM.o (mx_read 0 hM) (by omega) rfl (Nat.le_of_ble_eq_true rfl) (fun r cs1 hp => ?_)
  obtain rfl := hp
  refine z_st (st' := [.int _, .int _]) rfl ?_
  refine z_icmp_eq (tgt := 576) dL_law_439 (by decide) (fun h1 => ?_) (fun h1 => ?_)
  · refine z_iinc dL_law_576 rfl rfl (by decide) ?_
    refine z_goto (tgt := 18) dL_law_579 (by decide) ?_
    refine z_iload_n dL_law_18 rfl rfl ?_
    refine z_aload_n dL_law_19 rfl rfl ?_
    refine z_scl dL_law_20 ?_
    refine z_iconst (v := 5) dL_law_21 (by decide) ?_
    refine z_isub dL_law_22 ?_
    refine z_icmp_gt (tgt := 582) dL_law_23 (by decide) (fun q => ?_) (fun q => absurd (by rw [hL5]; decide) q)
    refine z_iconst (v := 1) dL_law_582 (by decide) ?_
    exact z_ireturn dL_law_583 rfl (by decide) rfl
  · first | exact absurd rfl h1 | exact absurd rfl h2 | exact absurd rfl h3 | exact absurd rfl h4 | exact absurd rfl h5 | exact absurd rfl h6 | exact absurd rfl h7
set_option maxRecDepth 100000 in
set_option maxHeartbeats 4000000 in
theorem law_same {G : xG} {d : Nat} (hd : 10 ≤ d) (hL5 : G.2.2.2.2.2.2.1 = 5) : Z (RL, cL_law, 4, some .boolean, false) G d (fun r _ => r = some (.int 1)) 444 [(0, .ref G.2.2.2.2.2.1), (1, .ref (G.1 + 0)), (2, .ref (G.1 + 54)), (3, .int 0)] [] (w0 G) := by
  have hi1 : vp_in ((0 : Int32) + 1) G.2.2.2.2.2.2.1 := by rw [hL5]; exact vp_in_nI (n := 1) (by decide) (by decide)
  have hi2 : vp_in ((0 : Int32) + 2) G.2.2.2.2.2.2.1 := by rw [hL5]; exact vp_in_nI (n := 2) (by decide) (by decide)
  have hi3 : vp_in ((0 : Int32) + 3) G.2.2.2.2.2.2.1 := by rw [hL5]; exact vp_in_nI (n := 3) (by decide) (by decide)
  have hi4 : vp_in ((0 : Int32) + 4) G.2.2.2.2.2.2.1 := by rw [hL5]; exact vp_in_nI (n := 4) (by decide) (by decide)
  have hi0 := hi1
  refine z_aload_n dL_law_444 rfl rfl ?_
  refine z_aload_n dL_law_445 rfl rfl ?_
  refine z_iload_n dL_law_446 rfl rfl ?_
  refine z_iconst (v := 1) dL_law_447 (by decide) ?_
  refine z_iadd dL_law_448 ?_
  refine z_scd (by first | exact hi0 | exact hi1 | exact hi2 | exact hi3 | exact hi4) dL_law_449 ?_
  refine z_callV (As := [_]) eX10_same sX10_same lL_69 rfl dL_law_450 (by rfl) (fx_same 1 (Nat.le_refl _) _) (by omega) rfl (Nat.le_of_ble_eq_true rfl) (fun r cs1 hp => ?_)
  obtain ⟨rfl, rfl⟩ := hp
  have hM := Mf_0 G
  refine z_st (st' := [.int _]) rfl ?_
  refine z_aload_n dL_law_453 rfl rfl ?_
  refine z_aload_n dL_law_454 rfl rfl ?_
  refine z_iload_n dL_law_455 rfl rfl ?_
  refine z_iconst (v := 1) dL_law_456 (by decide) ?_
  refine z_iadd dL_law_457 ?_
  refine z_scd (by first | exact hi0 | exact hi1 | exact hi2 | exact hi3 | exact hi4) dL_law_458 ?_
  refine z_callV (As := [_]) eX11_same sX11_same lL_72 rfl dL_law_459 hM.o (mx_same 0 hM _) (by omega) rfl (Nat.le_of_ble_eq_true rfl) (fun r cs1 hp => ?_)
  obtain rfl := hp
  refine z_st (st' := [.int _, .int _]) rfl ?_
  refine z_icmp_eq (tgt := 576) dL_law_462 (by decide) (fun h1 => ?_) (fun h1 => ?_)
  · refine z_iinc dL_law_576 rfl rfl (by decide) ?_
    refine z_goto (tgt := 18) dL_law_579 (by decide) ?_
    refine z_iload_n dL_law_18 rfl rfl ?_
    refine z_aload_n dL_law_19 rfl rfl ?_
    refine z_scl dL_law_20 ?_
    refine z_iconst (v := 5) dL_law_21 (by decide) ?_
    refine z_isub dL_law_22 ?_
    refine z_icmp_gt (tgt := 582) dL_law_23 (by decide) (fun q => ?_) (fun q => absurd (by rw [hL5]; decide) q)
    refine z_iconst (v := 1) dL_law_582 (by decide) ?_
    exact z_ireturn dL_law_583 rfl (by decide) rfl
  · first | exact absurd rfl h1 | exact absurd rfl h2 | exact absurd rfl h3 | exact absurd rfl h4 | exact absurd rfl h5 | exact absurd rfl h6 | exact absurd rfl h7
set_option maxRecDepth 100000 in
set_option maxHeartbeats 4000000 in
theorem law_kind {G : xG} {d : Nat} (hd : 10 ≤ d) (hL5 : G.2.2.2.2.2.2.1 = 5) : Z (RL, cL_law, 4, some .boolean, false) G d (fun r _ => r = some (.int 1)) 467 [(0, .ref G.2.2.2.2.2.1), (1, .ref (G.1 + 0)), (2, .ref (G.1 + 54)), (3, .int 0)] [] (w0 G) := by
  have hi1 : vp_in ((0 : Int32) + 1) G.2.2.2.2.2.2.1 := by rw [hL5]; exact vp_in_nI (n := 1) (by decide) (by decide)
  have hi2 : vp_in ((0 : Int32) + 2) G.2.2.2.2.2.2.1 := by rw [hL5]; exact vp_in_nI (n := 2) (by decide) (by decide)
  have hi3 : vp_in ((0 : Int32) + 3) G.2.2.2.2.2.2.1 := by rw [hL5]; exact vp_in_nI (n := 3) (by decide) (by decide)
  have hi4 : vp_in ((0 : Int32) + 4) G.2.2.2.2.2.2.1 := by rw [hL5]; exact vp_in_nI (n := 4) (by decide) (by decide)
  have hi0 := hi1
  refine z_aload_n dL_law_467 rfl rfl ?_
  refine z_aload_n dL_law_468 rfl rfl ?_
  refine z_iload_n dL_law_469 rfl rfl ?_
  refine z_iconst (v := 1) dL_law_470 (by decide) ?_
  refine z_iadd dL_law_471 ?_
  refine z_scd (by first | exact hi0 | exact hi1 | exact hi2 | exact hi3 | exact hi4) dL_law_472 ?_
  refine z_aload_n dL_law_473 rfl rfl ?_
  refine z_iload_n dL_law_474 rfl rfl ?_
  refine z_iconst (v := 2) dL_law_475 (by decide) ?_
  refine z_iadd dL_law_476 ?_
  refine z_scd (by first | exact hi0 | exact hi1 | exact hi2 | exact hi3 | exact hi4) dL_law_477 ?_
  refine z_callV (As := [_, _]) eX10_kind sX10_kind lL_73 rfl dL_law_478 (by rfl) (fx_kind 1 (Nat.le_refl _) _ _) (by omega) rfl (Nat.le_of_ble_eq_true rfl) (fun r cs1 hp => ?_)
  obtain ⟨rfl, rfl⟩ := hp
  have hM := Mf_0 G
  refine z_st (st' := [.int _]) rfl ?_
  refine z_aload_n dL_law_481 rfl rfl ?_
  refine z_aload_n dL_law_482 rfl rfl ?_
  refine z_iload_n dL_law_483 rfl rfl ?_
  refine z_iconst (v := 1) dL_law_484 (by decide) ?_
  refine z_iadd dL_law_485 ?_
  refine z_scd (by first | exact hi0 | exact hi1 | exact hi2 | exact hi3 | exact hi4) dL_law_486 ?_
  refine z_aload_n dL_law_487 rfl rfl ?_
  refine z_iload_n dL_law_488 rfl rfl ?_
  refine z_iconst (v := 2) dL_law_489 (by decide) ?_
  refine z_iadd dL_law_490 ?_
  refine z_scd (by first | exact hi0 | exact hi1 | exact hi2 | exact hi3 | exact hi4) dL_law_491 ?_
  refine z_callV (As := [_, _]) eX11_kind sX11_kind lL_76 rfl dL_law_492 hM.o (mx_kind 1 (Nat.le_refl _) hM _ _) (by omega) rfl (Nat.le_of_ble_eq_true rfl) (fun r cs1 hp => ?_)
  obtain rfl := hp
  refine z_st (st' := [.int _, .int _]) rfl ?_
  refine z_icmp_eq (tgt := 576) dL_law_495 (by decide) (fun h1 => ?_) (fun h1 => ?_)
  · refine z_iinc dL_law_576 rfl rfl (by decide) ?_
    refine z_goto (tgt := 18) dL_law_579 (by decide) ?_
    refine z_iload_n dL_law_18 rfl rfl ?_
    refine z_aload_n dL_law_19 rfl rfl ?_
    refine z_scl dL_law_20 ?_
    refine z_iconst (v := 5) dL_law_21 (by decide) ?_
    refine z_isub dL_law_22 ?_
    refine z_icmp_gt (tgt := 582) dL_law_23 (by decide) (fun q => ?_) (fun q => absurd (by rw [hL5]; decide) q)
    refine z_iconst (v := 1) dL_law_582 (by decide) ?_
    exact z_ireturn dL_law_583 rfl (by decide) rfl
  · first | exact absurd rfl h1 | exact absurd rfl h2 | exact absurd rfl h3 | exact absurd rfl h4 | exact absurd rfl h5 | exact absurd rfl h6 | exact absurd rfl h7
set_option maxRecDepth 100000 in
set_option maxHeartbeats 4000000 in
theorem law_value {G : xG} {d : Nat} (hd : 10 ≤ d) (hL5 : G.2.2.2.2.2.2.1 = 5) : Z (RL, cL_law, 4, some .boolean, false) G d (fun r _ => r = some (.int 1)) 500 [(0, .ref G.2.2.2.2.2.1), (1, .ref (G.1 + 0)), (2, .ref (G.1 + 54)), (3, .int 0)] [] (w0 G) := by
  have hi1 : vp_in ((0 : Int32) + 1) G.2.2.2.2.2.2.1 := by rw [hL5]; exact vp_in_nI (n := 1) (by decide) (by decide)
  have hi2 : vp_in ((0 : Int32) + 2) G.2.2.2.2.2.2.1 := by rw [hL5]; exact vp_in_nI (n := 2) (by decide) (by decide)
  have hi3 : vp_in ((0 : Int32) + 3) G.2.2.2.2.2.2.1 := by rw [hL5]; exact vp_in_nI (n := 3) (by decide) (by decide)
  have hi4 : vp_in ((0 : Int32) + 4) G.2.2.2.2.2.2.1 := by rw [hL5]; exact vp_in_nI (n := 4) (by decide) (by decide)
  have hi0 := hi1
  refine z_aload_n dL_law_500 rfl rfl ?_
  refine z_aload_n dL_law_501 rfl rfl ?_
  refine z_iload_n dL_law_502 rfl rfl ?_
  refine z_iconst (v := 1) dL_law_503 (by decide) ?_
  refine z_iadd dL_law_504 ?_
  refine z_scd (by first | exact hi0 | exact hi1 | exact hi2 | exact hi3 | exact hi4) dL_law_505 ?_
  refine z_aload_n dL_law_506 rfl rfl ?_
  refine z_iload_n dL_law_507 rfl rfl ?_
  refine z_iconst (v := 2) dL_law_508 (by decide) ?_
  refine z_iadd dL_law_509 ?_
  refine z_scd (by first | exact hi0 | exact hi1 | exact hi2 | exact hi3 | exact hi4) dL_law_510 ?_
  refine z_aload_n dL_law_511 rfl rfl ?_
  refine z_iload_n dL_law_512 rfl rfl ?_
  refine z_iconst (v := 3) dL_law_513 (by decide) ?_
  refine z_iadd dL_law_514 ?_
  refine z_scd (by first | exact hi0 | exact hi1 | exact hi2 | exact hi3 | exact hi4) dL_law_515 ?_
  refine z_aload_n dL_law_516 rfl rfl ?_
  refine z_iload_n dL_law_517 rfl rfl ?_
  refine z_iconst (v := 4) dL_law_518 (by decide) ?_
  refine z_iadd dL_law_519 ?_
  refine z_scd (by first | exact hi0 | exact hi1 | exact hi2 | exact hi3 | exact hi4) dL_law_520 ?_
  refine z_callV (As := [_, _, _, _]) eX10_value sX10_value lL_77 rfl dL_law_521 (by rfl) (fx_value 2 (Nat.le_refl _) _ _ _ _) (by omega) rfl (Nat.le_of_ble_eq_true rfl) (fun r cs1 hp => ?_)
  obtain ⟨rfl, rfl⟩ := hp
  have hM := Mf_0 G
  refine z_st (st' := [.int _]) rfl ?_
  refine z_aload_n dL_law_524 rfl rfl ?_
  refine z_aload_n dL_law_525 rfl rfl ?_
  refine z_iload_n dL_law_526 rfl rfl ?_
  refine z_iconst (v := 1) dL_law_527 (by decide) ?_
  refine z_iadd dL_law_528 ?_
  refine z_scd (by first | exact hi0 | exact hi1 | exact hi2 | exact hi3 | exact hi4) dL_law_529 ?_
  refine z_aload_n dL_law_530 rfl rfl ?_
  refine z_iload_n dL_law_531 rfl rfl ?_
  refine z_iconst (v := 2) dL_law_532 (by decide) ?_
  refine z_iadd dL_law_533 ?_
  refine z_scd (by first | exact hi0 | exact hi1 | exact hi2 | exact hi3 | exact hi4) dL_law_534 ?_
  refine z_aload_n dL_law_535 rfl rfl ?_
  refine z_iload_n dL_law_536 rfl rfl ?_
  refine z_iconst (v := 3) dL_law_537 (by decide) ?_
  refine z_iadd dL_law_538 ?_
  refine z_scd (by first | exact hi0 | exact hi1 | exact hi2 | exact hi3 | exact hi4) dL_law_539 ?_
  refine z_aload_n dL_law_540 rfl rfl ?_
  refine z_iload_n dL_law_541 rfl rfl ?_
  refine z_iconst (v := 4) dL_law_542 (by decide) ?_
  refine z_iadd dL_law_543 ?_
  refine z_scd (by first | exact hi0 | exact hi1 | exact hi2 | exact hi3 | exact hi4) dL_law_544 ?_
  refine z_callV (As := [_, _, _, _]) eX11_value sX11_value lL_81 rfl dL_law_545 hM.o (mx_value 2 (Nat.le_refl _) hM _ _ _ _) (by omega) rfl (Nat.le_of_ble_eq_true rfl) (fun r cs1 hp => ?_)
  obtain rfl := hp
  refine z_st (st' := [.int _, .int _]) rfl ?_
  refine z_icmp_eq (tgt := 576) dL_law_548 (by decide) (fun h1 => ?_) (fun h1 => ?_)
  · refine z_iinc dL_law_576 rfl rfl (by decide) ?_
    refine z_goto (tgt := 18) dL_law_579 (by decide) ?_
    refine z_iload_n dL_law_18 rfl rfl ?_
    refine z_aload_n dL_law_19 rfl rfl ?_
    refine z_scl dL_law_20 ?_
    refine z_iconst (v := 5) dL_law_21 (by decide) ?_
    refine z_isub dL_law_22 ?_
    refine z_icmp_gt (tgt := 582) dL_law_23 (by decide) (fun q => ?_) (fun q => absurd (by rw [hL5]; decide) q)
    refine z_iconst (v := 1) dL_law_582 (by decide) ?_
    exact z_ireturn dL_law_583 rfl (by decide) rfl
  · first | exact absurd rfl h1 | exact absurd rfl h2 | exact absurd rfl h3 | exact absurd rfl h4 | exact absurd rfl h5 | exact absurd rfl h6 | exact absurd rfl h7
set_option maxRecDepth 100000 in
set_option maxHeartbeats 4000000 in
theorem law_count {G : xG} {d : Nat} (hd : 10 ≤ d) (hL5 : G.2.2.2.2.2.2.1 = 5) : Z (RL, cL_law, 4, some .boolean, false) G d (fun r _ => r = some (.int 1)) 553 [(0, .ref G.2.2.2.2.2.1), (1, .ref (G.1 + 0)), (2, .ref (G.1 + 54)), (3, .int 0)] [] (w0 G) := by
  have hi1 : vp_in ((0 : Int32) + 1) G.2.2.2.2.2.2.1 := by rw [hL5]; exact vp_in_nI (n := 1) (by decide) (by decide)
  have hi2 : vp_in ((0 : Int32) + 2) G.2.2.2.2.2.2.1 := by rw [hL5]; exact vp_in_nI (n := 2) (by decide) (by decide)
  have hi3 : vp_in ((0 : Int32) + 3) G.2.2.2.2.2.2.1 := by rw [hL5]; exact vp_in_nI (n := 3) (by decide) (by decide)
  have hi4 : vp_in ((0 : Int32) + 4) G.2.2.2.2.2.2.1 := by rw [hL5]; exact vp_in_nI (n := 4) (by decide) (by decide)
  have hi0 := hi1
  refine z_aload_n dL_law_553 rfl rfl ?_
  refine z_aload_n dL_law_554 rfl rfl ?_
  refine z_iload_n dL_law_555 rfl rfl ?_
  refine z_iconst (v := 1) dL_law_556 (by decide) ?_
  refine z_iadd dL_law_557 ?_
  refine z_scd (by first | exact hi0 | exact hi1 | exact hi2 | exact hi3 | exact hi4) dL_law_558 ?_
  refine z_callV (As := [_]) eX10_count sX10_count lL_82 rfl dL_law_559 (by rfl) (fx_count 1 (Nat.le_refl _) _) (by omega) rfl (Nat.le_of_ble_eq_true rfl) (fun r cs1 hp => ?_)
  obtain ⟨rfl, rfl⟩ := hp
  have hM := Mf_0 G
  refine z_st (st' := [.int _]) rfl ?_
  refine z_aload_n dL_law_562 rfl rfl ?_
  refine z_aload_n dL_law_563 rfl rfl ?_
  refine z_iload_n dL_law_564 rfl rfl ?_
  refine z_iconst (v := 1) dL_law_565 (by decide) ?_
  refine z_iadd dL_law_566 ?_
  refine z_scd (by first | exact hi0 | exact hi1 | exact hi2 | exact hi3 | exact hi4) dL_law_567 ?_
  refine z_callV (As := [_]) eX11_count sX11_count lL_85 rfl dL_law_568 hM.o (mx_count 0 hM _) (by omega) rfl (Nat.le_of_ble_eq_true rfl) (fun r cs1 hp => ?_)
  obtain rfl := hp
  refine z_st (st' := [.int _, .int _]) rfl ?_
  refine z_icmp_eq (tgt := 576) dL_law_571 (by decide) (fun h1 => ?_) (fun h1 => ?_)
  · refine z_iinc dL_law_576 rfl rfl (by decide) ?_
    refine z_goto (tgt := 18) dL_law_579 (by decide) ?_
    refine z_iload_n dL_law_18 rfl rfl ?_
    refine z_aload_n dL_law_19 rfl rfl ?_
    refine z_scl dL_law_20 ?_
    refine z_iconst (v := 5) dL_law_21 (by decide) ?_
    refine z_isub dL_law_22 ?_
    refine z_icmp_gt (tgt := 582) dL_law_23 (by decide) (fun q => ?_) (fun q => absurd (by rw [hL5]; decide) q)
    refine z_iconst (v := 1) dL_law_582 (by decide) ?_
    exact z_ireturn dL_law_583 rfl (by decide) rfl
  · first | exact absurd rfl h1 | exact absurd rfl h2 | exact absurd rfl h3 | exact absurd rfl h4 | exact absurd rfl h5 | exact absurd rfl h6 | exact absurd rfl h7
theorem ct_eq (G : xG) : (wX G ++ wM G) = w0 G := rfl
set_option maxRecDepth 100000 in
set_option maxHeartbeats 8000000 in
theorem law_once {G : xG} {d : Nat} (hd : 10 ≤ d) (hL : G.2.2.2.2.2.2.1 ≤ 5) : Z (RL, cL_law, 4, some .boolean, false) G d (fun r _ => r = some (.int 1)) 18 [(0, .ref G.2.2.2.2.2.1), (1, .ref (G.1 + 0)), (2, .ref (G.1 + 54)), (3, .int 0)] [] (w0 G) := by
  refine z_iload_n dL_law_18 rfl rfl ?_
  refine z_aload_n dL_law_19 rfl rfl ?_
  refine z_scl dL_law_20 ?_
  refine z_iconst (v := 5) dL_law_21 (by decide) ?_
  refine z_isub dL_law_22 ?_
  refine z_icmp_gt (tgt := 582) dL_law_23 (by decide) (fun q => ?_) (fun q => ?_)
  · refine z_iconst (v := 1) dL_law_582 (by decide) ?_
    exact z_ireturn dL_law_583 rfl (by decide) rfl
  · have hL5 : G.2.2.2.2.2.2.1 = 5 := by
      rcases Nat.lt_or_ge G.2.2.2.2.2.2.1 5 with h | h
      · refine absurd ?_ q
        have : ∀ n, n < 5 → nI n - 5 < 0 := by decide
        exact this _ h
      · omega
    have hi0 : vp_in (0 : Int32) G.2.2.2.2.2.2.1 := by rw [hL5]; exact vp_in_nI (n := 0) (by decide) (by decide)
    refine z_aload_n dL_law_26 rfl rfl ?_
    refine z_iload_n dL_law_27 rfl rfl ?_
    refine z_scd hi0 dL_law_28 ?_
    refine z_bipush (v := 15) dL_law_29 (by decide) ?_
    refine z_iand dL_law_31 ?_
    obtain ⟨j, hj, ej⟩ := pk_andE (G.2.2.2.2.2.2.2 (0 : Int32).toNatClampNeg) (m := 15) 4 (by decide)
    refine z_st (st' := [.int (nI j)]) (by rw [ej]) ?_
    have hj : j < 16 := hj
    rcases (show j = 0 ∨ j = 1 ∨ j = 2 ∨ j = 3 ∨ j = 4 ∨ j = 5 ∨ j = 6 ∨ j = 7 ∨ j = 8 ∨ j = 9 ∨ j = 10 ∨ j = 11 ∨ j = 12 ∨ j = 13 ∨ j = 14 ∨ j = 15 by omega) with rfl | rfl | rfl | rfl | rfl | rfl | rfl | rfl | rfl | rfl | rfl | rfl | rfl | rfl | rfl | rfl
    · exact z_tableIn (tgt := 112) dL_law_32 (by decide) (by decide) rfl (by decide) (law_unit hd hL5)
    · exact z_tableIn (tgt := 135) dL_law_32 (by decide) (by decide) rfl (by decide) (law_classes hd hL5)
    · exact z_tableIn (tgt := 148) dL_law_32 (by decide) (by decide) rfl (by decide) (law_make hd hL5)
    · exact z_tableIn (tgt := 171) dL_law_32 (by decide) (by decide) rfl (by decide) (law_set hd hL5)
    · exact z_tableIn (tgt := 214) dL_law_32 (by decide) (by decide) rfl (by decide) (law_text hd hL5)
    · exact z_tableIn (tgt := 247) dL_law_32 (by decide) (by decide) rfl (by decide) (law_add hd hL5)
    · exact z_tableIn (tgt := 290) dL_law_32 (by decide) (by decide) rfl (by decide) (law_limit hd hL5)
    · exact z_tableIn (tgt := 313) dL_law_32 (by decide) (by decide) rfl (by decide) (law_write hd hL5)
    · exact z_tableIn (tgt := 346) dL_law_32 (by decide) (by decide) rfl (by decide) (law_sign hd hL5)
    · exact z_tableIn (tgt := 369) dL_law_32 (by decide) (by decide) rfl (by decide) (law_take hd hL5)
    · exact z_tableIn (tgt := 382) dL_law_32 (by decide) (by decide) rfl (by decide) (law_forbid hd hL5)
    · exact z_tableIn (tgt := 431) dL_law_32 (by decide) (by decide) rfl (by decide) (law_read hd hL5)
    · exact z_tableIn (tgt := 444) dL_law_32 (by decide) (by decide) rfl (by decide) (law_same hd hL5)
    · exact z_tableIn (tgt := 467) dL_law_32 (by decide) (by decide) rfl (by decide) (law_kind hd hL5)
    · exact z_tableIn (tgt := 500) dL_law_32 (by decide) (by decide) rfl (by decide) (law_value hd hL5)
    · exact z_tableIn (tgt := 553) dL_law_32 (by decide) (by decide) rfl (by decide) (law_count hd hL5)
set_option maxRecDepth 100000 in
set_option maxHeartbeats 8000000 in
/-- the law's body, from its entry, on a script of at most five ints -/
theorem law_1 {G : xG} {d : Nat} (hd : 10 ≤ d) (hL : G.2.2.2.2.2.2.1 ≤ 5) : Z (RL, cL_law, 4, some .boolean, false) G d (fun r _ => r = some (.int 1)) 0 [(0, .ref G.2.2.2.2.2.1)] [] [] := by
  refine z_new (fs := [.null, .null, .null, .null, .null, .null, .null, .null, .null, .int 0]) kX10 nL_7 aX10 bX10 dL_law_0 (by decide +kernel) ⟨by decide, by decide⟩ ?_
  refine z_st (st' := [.ref (G.1 + 0)]) rfl ?_
  refine z_dup dL_law_3 rfl ?_
  have hc1 : Cp 3 ([] : List va_E) := by unfold Cp; exact ⟨by decide, by decide⟩
  have hX1 := c_X10_init (G := G) 3 (Nat.le_refl 3) hc1 (a := 0) rfl
  refine z_callI (As := []) eX10_init sX10_init lL_9 dL_law_4 hX1 (by omega) rfl (Nat.le_of_ble_eq_true rfl) (fun r cs1 hp => ?_)
  obtain ⟨rfl, rfl⟩ := hp
  refine z_cs (cs' := wX G) rfl ?_
  refine z_st (st' := [.ref (G.1 + 0)]) rfl ?_
  refine z_astore_n dL_law_7 rfl (by decide) ?_
  have hz : xZ (wX G) ≤ 100000 := by
    have := w0_Z G
    unfold w0 at this
    rw [xZ_app] at this
    omega
  have hcp : Cp 1 (wX G) := by unfold Cp; rw [wX_len]; omega
  refine z_new (fs := (.int 0 :: .null :: .int 0 :: .null :: .null :: .null :: .null :: .null :: .null :: .null :: .null :: .null :: .null :: .null :: .null :: .null :: .null :: .null :: .int 0 :: .int 0 :: .int 0 :: .null :: .int 0 :: .int 0 :: .int 0 :: .int 0 :: .null :: .null :: .null :: .null :: .int 0 :: .null :: .int 0 :: .null :: .null :: .null :: .null :: .null :: .null :: .int 0 :: .null :: .int 0 :: .null :: .int 0 :: .null :: .null :: .null :: .null :: .null :: .null :: .null :: .int 0 :: .null :: .null :: .null :: .null :: .int 0 :: .null :: .null :: .int 0 :: .int 0 :: .null :: .null :: .null :: .null :: .null :: .null :: .int 0 :: .null :: .null :: .null :: .int 0 :: [])) kX11 nL_10 aX11 bX11 dL_law_8 (by decide +kernel) (by rw [wX_len]; omega) ?_
  refine z_st (st' := [.ref (G.1 + 54)]) rfl ?_
  refine z_dup dL_law_11 rfl ?_
  have hX2 := c_X11_init (G := G) 1 (Nat.le_refl 1) hcp (wX_len G)
  refine z_callI (As := []) eX11_init sX11_init lL_12 dL_law_12 hX2 (by omega) rfl (Nat.le_of_ble_eq_true rfl) (fun r cs1 hp => ?_)
  obtain ⟨rfl, rfl⟩ := hp
  refine z_cs (cs' := w0 G) rfl ?_
  refine z_st (st' := [.ref (G.1 + 54)]) rfl ?_
  refine z_astore_n dL_law_15 rfl (by decide) ?_
  refine z_iconst (v := 0) dL_law_16 (by decide) ?_
  refine z_istore_n dL_law_17 rfl (by decide) ?_
  exact law_once hd hL
