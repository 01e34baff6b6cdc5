/-! THE LAW'S LOOP -/
def LZ (G : xG) (d k pc : Nat) (st : List Value) (cs : List va_E) : Prop := Z (RL, cL_law, 4, some .boolean, false) G d (fun r _ => r = some (.int 1)) pc [(0, .ref G.2.2.2.2.2.1), (1, .ref (G.1 + 0)), (2, .ref (G.1 + 54)), (3, .int (Int32.ofInt (5 * (k : Int))))] st cs
theorem kze {own : String} {cc : ByteArray} {nL : Nat} {ret : Option FieldType} {ini : Bool} {G : xG} {d : Nat} {Post : xP} {pc : Nat} {L : List (Nat × Value)} {rest : List Value} {cs : List va_E} {w : Int32} (kk : ∀ z : Int, z = w.toInt → rng z → Z (own, cc, nL, ret, ini) G d Post pc L (.int (Int32.ofInt z) :: rest) cs) : Z (own, cc, nL, ret, ini) G d Post pc L (.int w :: rest) cs := by
  have := kk w.toInt rfl (rng_of w)
  rwa [Int32.ofInt_toInt] at this
theorem sc_in {G : xG} {k j : Nat} (hk : 5 * k + 5 ≤ G.2.2.2.2.2.2.1) (hL : G.2.2.2.2.2.2.1 ≤ 2560) (hj : j < 5) : vp_in (Int32.ofInt (5 * (k : Int) + (j : Int))) G.2.2.2.2.2.2.1 := oI_in (by omega) (by omega) (by omega)
set_option maxRecDepth 100000 in
set_option maxHeartbeats 4000000 in
theorem law_unit {G : xG} {d k : Nat} {cs : List va_E} (hd : 90 ≤ d) (hL : G.2.2.2.2.2.2.1 ≤ 2560) (hk : 5 * k + 5 ≤ G.2.2.2.2.2.2.1) (hLI : LR G k cs) (hG : ∀ cs, LR G (k + 1) cs → LZ G d k 576 [] cs) : LZ G d k 112 [] cs := by
  unfold LZ at hG ⊢
  refine z_aload_n dL_law_112 rfl rfl ?_
  refine z_aload_n dL_law_113 rfl rfl ?_
  refine z_iload_n dL_law_114 rfl rfl ?_
  refine z_iconst (v := Int32.ofInt 1) dL_law_115 rfl ?_
  refine i_iadd dL_law_116 ?_
  refine z_scd (sc_in (j := 1) hk hL (by decide)) dL_law_117 ?_
  refine kze (fun x1 qx1 gx1 => ?_)
  have hX0 := cl_unit hLI (by omega) gx1
  have h0 : ∃ fs, cs[0]? = some (.inr (10, fs)) := by
    obtain ⟨v, S, Sm, hW, hV, -⟩ := hLI
    have := hW.at (a := 0) rfl
    rw [hV.1] at this
    exact ⟨_, this⟩
  refine z_callV (As := [_]) eX10_unit sX10_unit lL_13 rfl dL_law_118 h0.choose_spec hX0 (Nat.le_trans (by decide) hd) rfl (Nat.le_of_ble_eq_true rfl) (fun r cs1 hp => ?_)
  obtain ⟨y2, v, S, Sm, rfl, hLM, hw⟩ := hp
  obtain ⟨z3, ez3, gz3, -⟩ := nrm y2
  rw [ez3]
  refine z_st (st' := [.int (Int32.ofInt z3)]) rfl ?_
  refine z_pop dL_law_121 rfl ?_
  refine z_aload_n dL_law_122 rfl rfl ?_
  refine z_aload_n dL_law_123 rfl rfl ?_
  refine z_iload_n dL_law_124 rfl rfl ?_
  refine z_iconst (v := Int32.ofInt 1) dL_law_125 rfl ?_
  refine i_iadd dL_law_126 ?_
  refine z_scd (sc_in (j := 1) hk hL (by decide)) dL_law_127 ?_
  refine kze (fun x4 qx4 gx4 => ?_)
  rw [show x4 = x1 from qx4.trans qx1.symm]
  clear qx4 gx4
  have hM := hLM.2.2.2
  have hX0 := lX11_unit 1 (Nat.le_refl _) (Jc_stb _) shM_is hM.toJ gx1 hw
  refine z_callV (As := [_]) eX11_unit sX11_unit lL_17 rfl dL_law_128 (hM.1 _ _ shM_is.1) hX0 (Nat.le_trans (by decide) hd) rfl (Nat.le_of_ble_eq_true rfl) (fun r cs2 hp => ?_)
  obtain ⟨r5, Sm', rfl, ⟨hr, hR'⟩, hM'⟩ := hp
  rw [hr, ez3]
  have hLI : LR G (k + 1) cs2 := LR_m hLM hM' hR'
  refine z_st (st' := [.int (Int32.ofInt z3)]) rfl ?_
  refine z_pop dL_law_131 rfl ?_
  refine z_goto (tgt := 576) dL_law_132 (by decide) ?_
  exact hG _ hLI
set_option maxRecDepth 100000 in
set_option maxHeartbeats 4000000 in
theorem law_classes {G : xG} {d k : Nat} {cs : List va_E} (hd : 90 ≤ d) (hL : G.2.2.2.2.2.2.1 ≤ 2560) (hk : 5 * k + 5 ≤ G.2.2.2.2.2.2.1) (hLI : LR G k cs) (hG : ∀ cs, LR G (k + 1) cs → LZ G d k 576 [] cs) : LZ G d k 135 [] cs := by
  unfold LZ at hG ⊢
  refine z_aload_n dL_law_135 rfl rfl ?_
  have hX0 := cl_classes hLI (by omega) 
  have h0 : ∃ fs, cs[0]? = some (.inr (10, fs)) := by
    obtain ⟨v, S, Sm, hW, hV, -⟩ := hLI
    have := hW.at (a := 0) rfl
    rw [hV.1] at this
    exact ⟨_, this⟩
  refine z_callV (As := []) eX10_classes sX10_classes lL_18 rfl dL_law_136 h0.choose_spec hX0 (Nat.le_trans (by decide) hd) rfl (Nat.le_of_ble_eq_true rfl) (fun r cs1 hp => ?_)
  obtain ⟨y1, v, S, Sm, rfl, hLM, hw⟩ := hp
  obtain ⟨z2, ez2, gz2, -⟩ := nrm y1
  rw [ez2]
  refine z_st (st' := [.int (Int32.ofInt z2)]) rfl ?_
  refine z_pop dL_law_139 rfl ?_
  refine z_aload_n dL_law_140 rfl rfl ?_
  have hM := hLM.2.2.2
  have hX0 := lX11_classes 5 (Nat.le_refl _) (Jc_stb _) shM_is hM.toJ  hw
  refine z_callV (As := []) eX11_classes sX11_classes lL_22 rfl dL_law_141 (hM.1 _ _ shM_is.1) hX0 (Nat.le_trans (by decide) hd) rfl (Nat.le_of_ble_eq_true rfl) (fun r cs2 hp => ?_)
  obtain ⟨r3, Sm', rfl, ⟨hr, hR'⟩, hM'⟩ := hp
  rw [hr, ez2]
  have hLI : LR G (k + 1) cs2 := LR_m hLM hM' hR'
  refine z_st (st' := [.int (Int32.ofInt z2)]) rfl ?_
  refine z_pop dL_law_144 rfl ?_
  refine z_goto (tgt := 576) dL_law_145 (by decide) ?_
  exact hG _ hLI
set_option maxRecDepth 100000 in
set_option maxHeartbeats 4000000 in
theorem law_make {G : xG} {d k : Nat} {cs : List va_E} (hd : 90 ≤ d) (hL : G.2.2.2.2.2.2.1 ≤ 2560) (hk : 5 * k + 5 ≤ G.2.2.2.2.2.2.1) (hLI : LR G k cs) (hG : ∀ cs, LR G (k + 1) cs → LZ G d k 576 [] cs) : LZ G d k 148 [] cs := by
  unfold LZ at hG ⊢
  refine z_aload_n dL_law_148 rfl rfl ?_
  refine z_aload_n dL_law_149 rfl rfl ?_
  refine z_iload_n dL_law_150 rfl rfl ?_
  refine z_iconst (v := Int32.ofInt 1) dL_law_151 rfl ?_
  refine i_iadd dL_law_152 ?_
  refine z_scd (sc_in (j := 1) hk hL (by decide)) dL_law_153 ?_
  refine kze (fun x1 qx1 gx1 => ?_)
  have hX0 := cl_make hLI (by omega) gx1
  have h0 : ∃ fs, cs[0]? = some (.inr (10, fs)) := by
    obtain ⟨v, S, Sm, hW, hV, -⟩ := hLI
    have := hW.at (a := 0) rfl
    rw [hV.1] at this
    exact ⟨_, this⟩
  refine z_callV (As := [_]) eX10_make sX10_make lL_23 rfl dL_law_154 h0.choose_spec hX0 (Nat.le_trans (by decide) hd) rfl (Nat.le_of_ble_eq_true rfl) (fun r cs1 hp => ?_)
  obtain ⟨y2, v, S, Sm, rfl, hLM, hw⟩ := hp
  obtain ⟨z3, ez3, gz3, -⟩ := nrm y2
  rw [ez3]
  refine z_st (st' := [.int (Int32.ofInt z3)]) rfl ?_
  refine z_pop dL_law_157 rfl ?_
  refine z_aload_n dL_law_158 rfl rfl ?_
  refine z_aload_n dL_law_159 rfl rfl ?_
  refine z_iload_n dL_law_160 rfl rfl ?_
  refine z_iconst (v := Int32.ofInt 1) dL_law_161 rfl ?_
  refine i_iadd dL_law_162 ?_
  refine z_scd (sc_in (j := 1) hk hL (by decide)) dL_law_163 ?_
  refine kze (fun x4 qx4 gx4 => ?_)
  rw [show x4 = x1 from qx4.trans qx1.symm]
  clear qx4 gx4
  have hM := hLM.2.2.2
  have hX0 := lX11_make 1 (Nat.le_refl _) (Jc_stb _) shM_is hM.toJ gx1 hw
  refine z_callV (As := [_]) eX11_make sX11_make lL_27 rfl dL_law_164 (hM.1 _ _ shM_is.1) hX0 (Nat.le_trans (by decide) hd) rfl (Nat.le_of_ble_eq_true rfl) (fun r cs2 hp => ?_)
  obtain ⟨r5, Sm', rfl, ⟨hr, hR'⟩, hM'⟩ := hp
  rw [hr, ez3]
  have hLI : LR G (k + 1) cs2 := LR_m hLM hM' hR'
  refine z_st (st' := [.int (Int32.ofInt z3)]) rfl ?_
  refine z_pop dL_law_167 rfl ?_
  refine z_goto (tgt := 576) dL_law_168 (by decide) ?_
  exact hG _ hLI
set_option maxRecDepth 100000 in
set_option maxHeartbeats 4000000 in
theorem law_set {G : xG} {d k : Nat} {cs : List va_E} (hd : 90 ≤ d) (hL : G.2.2.2.2.2.2.1 ≤ 2560) (hk : 5 * k + 5 ≤ G.2.2.2.2.2.2.1) (hLI : LR G k cs) (hG : ∀ cs, LR G (k + 1) cs → LZ G d k 576 [] cs) : LZ G d k 171 [] cs := by
  unfold LZ at hG ⊢
  refine z_aload_n dL_law_171 rfl rfl ?_
  refine z_aload_n dL_law_172 rfl rfl ?_
  refine z_iload_n dL_law_173 rfl rfl ?_
  refine z_iconst (v := Int32.ofInt 1) dL_law_174 rfl ?_
  refine i_iadd dL_law_175 ?_
  refine z_scd (sc_in (j := 1) hk hL (by decide)) dL_law_176 ?_
  refine kze (fun x1 qx1 gx1 => ?_)
  refine z_aload_n dL_law_177 rfl rfl ?_
  refine z_iload_n dL_law_178 rfl rfl ?_
  refine z_iconst (v := Int32.ofInt 2) dL_law_179 rfl ?_
  refine i_iadd dL_law_180 ?_
  refine z_scd (sc_in (j := 2) hk hL (by decide)) dL_law_181 ?_
  refine kze (fun x2 qx2 gx2 => ?_)
  refine z_aload_n dL_law_182 rfl rfl ?_
  refine z_iload_n dL_law_183 rfl rfl ?_
  refine z_iconst (v := Int32.ofInt 3) dL_law_184 rfl ?_
  refine i_iadd dL_law_185 ?_
  refine z_scd (sc_in (j := 3) hk hL (by decide)) dL_law_186 ?_
  refine kze (fun x3 qx3 gx3 => ?_)
  have hX0 := cl_set hLI (by omega) gx1 gx2 gx3
  have h0 : ∃ fs, cs[0]? = some (.inr (10, fs)) := by
    obtain ⟨v, S, Sm, hW, hV, -⟩ := hLI
    have := hW.at (a := 0) rfl
    rw [hV.1] at this
    exact ⟨_, this⟩
  refine z_callV (As := [_, _, _]) eX10_set sX10_set lL_28 rfl dL_law_187 h0.choose_spec hX0 (Nat.le_trans (by decide) hd) rfl (Nat.le_of_ble_eq_true rfl) (fun r cs1 hp => ?_)
  obtain ⟨y4, v, S, Sm, rfl, hLM, hw⟩ := hp
  obtain ⟨z5, ez5, gz5, -⟩ := nrm y4
  rw [ez5]
  refine z_st (st' := [.int (Int32.ofInt z5)]) rfl ?_
  refine z_pop dL_law_190 rfl ?_
  refine z_aload_n dL_law_191 rfl rfl ?_
  refine z_aload_n dL_law_192 rfl rfl ?_
  refine z_iload_n dL_law_193 rfl rfl ?_
  refine z_iconst (v := Int32.ofInt 1) dL_law_194 rfl ?_
  refine i_iadd dL_law_195 ?_
  refine z_scd (sc_in (j := 1) hk hL (by decide)) dL_law_196 ?_
  refine kze (fun x6 qx6 gx6 => ?_)
  rw [show x6 = x1 from qx6.trans qx1.symm]
  clear qx6 gx6
  refine z_aload_n dL_law_197 rfl rfl ?_
  refine z_iload_n dL_law_198 rfl rfl ?_
  refine z_iconst (v := Int32.ofInt 2) dL_law_199 rfl ?_
  refine i_iadd dL_law_200 ?_
  refine z_scd (sc_in (j := 2) hk hL (by decide)) dL_law_201 ?_
  refine kze (fun x7 qx7 gx7 => ?_)
  rw [show x7 = x2 from qx7.trans qx2.symm]
  clear qx7 gx7
  refine z_aload_n dL_law_202 rfl rfl ?_
  refine z_iload_n dL_law_203 rfl rfl ?_
  refine z_iconst (v := Int32.ofInt 3) dL_law_204 rfl ?_
  refine i_iadd dL_law_205 ?_
  refine z_scd (sc_in (j := 3) hk hL (by decide)) dL_law_206 ?_
  refine kze (fun x8 qx8 gx8 => ?_)
  rw [show x8 = x3 from qx8.trans qx3.symm]
  clear qx8 gx8
  have hM := hLM.2.2.2
  have hX0 := lX11_set 2 (Nat.le_refl _) (Jc_stb _) shM_is hM.toJ gx1 gx2 gx3 hw
  refine z_callV (As := [_, _, _]) eX11_set sX11_set lL_32 rfl dL_law_207 (hM.1 _ _ shM_is.1) hX0 (Nat.le_trans (by decide) hd) rfl (Nat.le_of_ble_eq_true rfl) (fun r cs2 hp => ?_)
  obtain ⟨r9, Sm', rfl, ⟨hr, hR'⟩, hM'⟩ := hp
  rw [hr, ez5]
  have hLI : LR G (k + 1) cs2 := LR_m hLM hM' hR'
  refine z_st (st' := [.int (Int32.ofInt z5)]) rfl ?_
  refine z_pop dL_law_210 rfl ?_
  refine z_goto (tgt := 576) dL_law_211 (by decide) ?_
  exact hG _ hLI
set_option maxRecDepth 100000 in
set_option maxHeartbeats 4000000 in
theorem law_text {G : xG} {d k : Nat} {cs : List va_E} (hd : 90 ≤ d) (hL : G.2.2.2.2.2.2.1 ≤ 2560) (hk : 5 * k + 5 ≤ G.2.2.2.2.2.2.1) (hLI : LR G k cs) (hG : ∀ cs, LR G (k + 1) cs → LZ G d k 576 [] cs) : LZ G d k 214 [] cs := by
  unfold LZ at hG ⊢
  refine z_aload_n dL_law_214 rfl rfl ?_
  refine z_aload_n dL_law_215 rfl rfl ?_
  refine z_iload_n dL_law_216 rfl rfl ?_
  refine z_iconst (v := Int32.ofInt 1) dL_law_217 rfl ?_
  refine i_iadd dL_law_218 ?_
  refine z_scd (sc_in (j := 1) hk hL (by decide)) dL_law_219 ?_
  refine kze (fun x1 qx1 gx1 => ?_)
  refine z_aload_n dL_law_220 rfl rfl ?_
  refine z_iload_n dL_law_221 rfl rfl ?_
  refine z_iconst (v := Int32.ofInt 2) dL_law_222 rfl ?_
  refine i_iadd dL_law_223 ?_
  refine z_scd (sc_in (j := 2) hk hL (by decide)) dL_law_224 ?_
  refine kze (fun x2 qx2 gx2 => ?_)
  have hX0 := cl_text hLI (by omega) gx1 gx2
  have h0 : ∃ fs, cs[0]? = some (.inr (10, fs)) := by
    obtain ⟨v, S, Sm, hW, hV, -⟩ := hLI
    have := hW.at (a := 0) rfl
    rw [hV.1] at this
    exact ⟨_, this⟩
  refine z_callV (As := [_, _]) eX10_text sX10_text lL_33 rfl dL_law_225 h0.choose_spec hX0 (Nat.le_trans (by decide) hd) rfl (Nat.le_of_ble_eq_true rfl) (fun r cs1 hp => ?_)
  obtain ⟨y3, v, S, Sm, rfl, hLM, hw⟩ := hp
  obtain ⟨z4, ez4, gz4, -⟩ := nrm y3
  rw [ez4]
  refine z_st (st' := [.int (Int32.ofInt z4)]) rfl ?_
  refine z_pop dL_law_228 rfl ?_
  refine z_aload_n dL_law_229 rfl rfl ?_
  refine z_aload_n dL_law_230 rfl rfl ?_
  refine z_iload_n dL_law_231 rfl rfl ?_
  refine z_iconst (v := Int32.ofInt 1) dL_law_232 rfl ?_
  refine i_iadd dL_law_233 ?_
  refine z_scd (sc_in (j := 1) hk hL (by decide)) dL_law_234 ?_
  refine kze (fun x5 qx5 gx5 => ?_)
  rw [show x5 = x1 from qx5.trans qx1.symm]
  clear qx5 gx5
  refine z_aload_n dL_law_235 rfl rfl ?_
  refine z_iload_n dL_law_236 rfl rfl ?_
  refine z_iconst (v := Int32.ofInt 2) dL_law_237 rfl ?_
  refine i_iadd dL_law_238 ?_
  refine z_scd (sc_in (j := 2) hk hL (by decide)) dL_law_239 ?_
  refine kze (fun x6 qx6 gx6 => ?_)
  rw [show x6 = x2 from qx6.trans qx2.symm]
  clear qx6 gx6
  have hM := hLM.2.2.2
  have hX0 := lX11_text 2 (Nat.le_refl _) (Jc_stb _) shM_is hM.toJ gx1 gx2 hw
  refine z_callV (As := [_, _]) eX11_text sX11_text lL_37 rfl dL_law_240 (hM.1 _ _ shM_is.1) hX0 (Nat.le_trans (by decide) hd) rfl (Nat.le_of_ble_eq_true rfl) (fun r cs2 hp => ?_)
  obtain ⟨r7, Sm', rfl, ⟨hr, hR'⟩, hM'⟩ := hp
  rw [hr, ez4]
  have hLI : LR G (k + 1) cs2 := LR_m hLM hM' hR'
  refine z_st (st' := [.int (Int32.ofInt z4)]) rfl ?_
  refine z_pop dL_law_243 rfl ?_
  refine z_goto (tgt := 576) dL_law_244 (by decide) ?_
  exact hG _ hLI
set_option maxRecDepth 100000 in
set_option maxHeartbeats 4000000 in
theorem law_add {G : xG} {d k : Nat} {cs : List va_E} (hd : 90 ≤ d) (hL : G.2.2.2.2.2.2.1 ≤ 2560) (hk : 5 * k + 5 ≤ G.2.2.2.2.2.2.1) (hLI : LR G k cs) (hG : ∀ cs, LR G (k + 1) cs → LZ G d k 576 [] cs) : LZ G d k 247 [] cs := by
  unfold LZ at hG ⊢
  refine z_aload_n dL_law_247 rfl rfl ?_
  refine z_aload_n dL_law_248 rfl rfl ?_
  refine z_iload_n dL_law_249 rfl rfl ?_
  refine z_iconst (v := Int32.ofInt 1) dL_law_250 rfl ?_
  refine i_iadd dL_law_251 ?_
  refine z_scd (sc_in (j := 1) hk hL (by decide)) dL_law_252 ?_
  refine kze (fun x1 qx1 gx1 => ?_)
  refine z_aload_n dL_law_253 rfl rfl ?_
  refine z_iload_n dL_law_254 rfl rfl ?_
  refine z_iconst (v := Int32.ofInt 2) dL_law_255 rfl ?_
  refine i_iadd dL_law_256 ?_
  refine z_scd (sc_in (j := 2) hk hL (by decide)) dL_law_257 ?_
  refine kze (fun x2 qx2 gx2 => ?_)
  refine z_aload_n dL_law_258 rfl rfl ?_
  refine z_iload_n dL_law_259 rfl rfl ?_
  refine z_iconst (v := Int32.ofInt 3) dL_law_260 rfl ?_
  refine i_iadd dL_law_261 ?_
  refine z_scd (sc_in (j := 3) hk hL (by decide)) dL_law_262 ?_
  refine kze (fun x3 qx3 gx3 => ?_)
  have hX0 := cl_add hLI (by omega) gx1 gx2 gx3
  have h0 : ∃ fs, cs[0]? = some (.inr (10, fs)) := by
    obtain ⟨v, S, Sm, hW, hV, -⟩ := hLI
    have := hW.at (a := 0) rfl
    rw [hV.1] at this
    exact ⟨_, this⟩
  refine z_callV (As := [_, _, _]) eX10_add sX10_add lL_38 rfl dL_law_263 h0.choose_spec hX0 (Nat.le_trans (by decide) hd) rfl (Nat.le_of_ble_eq_true rfl) (fun r cs1 hp => ?_)
  obtain ⟨y4, v, S, Sm, rfl, hLM, hw⟩ := hp
  obtain ⟨z5, ez5, gz5, -⟩ := nrm y4
  rw [ez5]
  refine z_st (st' := [.int (Int32.ofInt z5)]) rfl ?_
  refine z_pop dL_law_266 rfl ?_
  refine z_aload_n dL_law_267 rfl rfl ?_
  refine z_aload_n dL_law_268 rfl rfl ?_
  refine z_iload_n dL_law_269 rfl rfl ?_
  refine z_iconst (v := Int32.ofInt 1) dL_law_270 rfl ?_
  refine i_iadd dL_law_271 ?_
  refine z_scd (sc_in (j := 1) hk hL (by decide)) dL_law_272 ?_
  refine kze (fun x6 qx6 gx6 => ?_)
  rw [show x6 = x1 from qx6.trans qx1.symm]
  clear qx6 gx6
  refine z_aload_n dL_law_273 rfl rfl ?_
  refine z_iload_n dL_law_274 rfl rfl ?_
  refine z_iconst (v := Int32.ofInt 2) dL_law_275 rfl ?_
  refine i_iadd dL_law_276 ?_
  refine z_scd (sc_in (j := 2) hk hL (by decide)) dL_law_277 ?_
  refine kze (fun x7 qx7 gx7 => ?_)
  rw [show x7 = x2 from qx7.trans qx2.symm]
  clear qx7 gx7
  refine z_aload_n dL_law_278 rfl rfl ?_
  refine z_iload_n dL_law_279 rfl rfl ?_
  refine z_iconst (v := Int32.ofInt 3) dL_law_280 rfl ?_
  refine i_iadd dL_law_281 ?_
  refine z_scd (sc_in (j := 3) hk hL (by decide)) dL_law_282 ?_
  refine kze (fun x8 qx8 gx8 => ?_)
  rw [show x8 = x3 from qx8.trans qx3.symm]
  clear qx8 gx8
  have hM := hLM.2.2.2
  have hX0 := lX11_add 2 (Nat.le_refl _) (Jc_stb _) shM_is hM.toJ gx1 gx2 gx3 hw
  refine z_callV (As := [_, _, _]) eX11_add sX11_add lL_42 rfl dL_law_283 (hM.1 _ _ shM_is.1) hX0 (Nat.le_trans (by decide) hd) rfl (Nat.le_of_ble_eq_true rfl) (fun r cs2 hp => ?_)
  obtain ⟨r9, Sm', rfl, ⟨hr, hR'⟩, hM'⟩ := hp
  rw [hr, ez5]
  have hLI : LR G (k + 1) cs2 := LR_m hLM hM' hR'
  refine z_st (st' := [.int (Int32.ofInt z5)]) rfl ?_
  refine z_pop dL_law_286 rfl ?_
  refine z_goto (tgt := 576) dL_law_287 (by decide) ?_
  exact hG _ hLI
set_option maxRecDepth 100000 in
set_option maxHeartbeats 4000000 in
theorem law_limit {G : xG} {d k : Nat} {cs : List va_E} (hd : 90 ≤ d) (hL : G.2.2.2.2.2.2.1 ≤ 2560) (hk : 5 * k + 5 ≤ G.2.2.2.2.2.2.1) (hLI : LR G k cs) (hG : ∀ cs, LR G (k + 1) cs → LZ G d k 576 [] cs) : LZ G d k 290 [] cs := by
  unfold LZ at hG ⊢
  refine z_aload_n dL_law_290 rfl rfl ?_
  refine z_aload_n dL_law_291 rfl rfl ?_
  refine z_iload_n dL_law_292 rfl rfl ?_
  refine z_iconst (v := Int32.ofInt 1) dL_law_293 rfl ?_
  refine i_iadd dL_law_294 ?_
  refine z_scd (sc_in (j := 1) hk hL (by decide)) dL_law_295 ?_
  refine kze (fun x1 qx1 gx1 => ?_)
  have hX0 := cl_limit hLI (by omega) gx1
  have h0 : ∃ fs, cs[0]? = some (.inr (10, fs)) := by
    obtain ⟨v, S, Sm, hW, hV, -⟩ := hLI
    have := hW.at (a := 0) rfl
    rw [hV.1] at this
    exact ⟨_, this⟩
  refine z_callV (As := [_]) eX10_limit sX10_limit lL_43 rfl dL_law_296 h0.choose_spec hX0 (Nat.le_trans (by decide) hd) rfl (Nat.le_of_ble_eq_true rfl) (fun r cs1 hp => ?_)
  obtain ⟨y2, v, S, Sm, rfl, hLM, hw⟩ := hp
  obtain ⟨z3, ez3, gz3, -⟩ := nrm y2
  rw [ez3]
  refine z_st (st' := [.int (Int32.ofInt z3)]) rfl ?_
  refine z_pop dL_law_299 rfl ?_
  refine z_aload_n dL_law_300 rfl rfl ?_
  refine z_aload_n dL_law_301 rfl rfl ?_
  refine z_iload_n dL_law_302 rfl rfl ?_
  refine z_iconst (v := Int32.ofInt 1) dL_law_303 rfl ?_
  refine i_iadd dL_law_304 ?_
  refine z_scd (sc_in (j := 1) hk hL (by decide)) dL_law_305 ?_
  refine kze (fun x4 qx4 gx4 => ?_)
  rw [show x4 = x1 from qx4.trans qx1.symm]
  clear qx4 gx4
  have hM := hLM.2.2.2
  have hX0 := lX11_limit 1 (Nat.le_refl _) (Jc_stb _) shM_is hM.toJ gx1 hw
  refine z_callV (As := [_]) eX11_limit sX11_limit lL_46 rfl dL_law_306 (hM.1 _ _ shM_is.1) hX0 (Nat.le_trans (by decide) hd) rfl (Nat.le_of_ble_eq_true rfl) (fun r cs2 hp => ?_)
  obtain ⟨r5, Sm', rfl, ⟨hr, hR'⟩, hM'⟩ := hp
  rw [hr, ez3]
  have hLI : LR G (k + 1) cs2 := LR_m hLM hM' hR'
  refine z_st (st' := [.int (Int32.ofInt z3)]) rfl ?_
  refine z_pop dL_law_309 rfl ?_
  refine z_goto (tgt := 576) dL_law_310 (by decide) ?_
  exact hG _ hLI
set_option maxRecDepth 100000 in
set_option maxHeartbeats 4000000 in
theorem law_write {G : xG} {d k : Nat} {cs : List va_E} (hd : 90 ≤ d) (hL : G.2.2.2.2.2.2.1 ≤ 2560) (hk : 5 * k + 5 ≤ G.2.2.2.2.2.2.1) (hLI : LR G k cs) (hG : ∀ cs, LR G (k + 1) cs → LZ G d k 576 [] cs) : LZ G d k 313 [] cs := by
  unfold LZ at hG ⊢
  refine z_aload_n dL_law_313 rfl rfl ?_
  refine z_aload_n dL_law_314 rfl rfl ?_
  refine z_iload_n dL_law_315 rfl rfl ?_
  refine z_iconst (v := Int32.ofInt 1) dL_law_316 rfl ?_
  refine i_iadd dL_law_317 ?_
  refine z_scd (sc_in (j := 1) hk hL (by decide)) dL_law_318 ?_
  refine kze (fun x1 qx1 gx1 => ?_)
  refine z_aload_n dL_law_319 rfl rfl ?_
  refine z_iload_n dL_law_320 rfl rfl ?_
  refine z_iconst (v := Int32.ofInt 2) dL_law_321 rfl ?_
  refine i_iadd dL_law_322 ?_
  refine z_scd (sc_in (j := 2) hk hL (by decide)) dL_law_323 ?_
  refine kze (fun x2 qx2 gx2 => ?_)
  have hX0 := cl_write hLI (by omega) gx1 gx2
  have h0 : ∃ fs, cs[0]? = some (.inr (10, fs)) := by
    obtain ⟨v, S, Sm, hW, hV, -⟩ := hLI
    have := hW.at (a := 0) rfl
    rw [hV.1] at this
    exact ⟨_, this⟩
  refine z_callV (As := [_, _]) eX10_write sX10_write lL_47 rfl dL_law_324 h0.choose_spec hX0 (Nat.le_trans (by decide) hd) rfl (Nat.le_of_ble_eq_true rfl) (fun r cs1 hp => ?_)
  obtain ⟨y3, v, S, Sm, rfl, hLM, hw⟩ := hp
  obtain ⟨z4, ez4, gz4, -⟩ := nrm y3
  rw [ez4]
  refine z_st (st' := [.int (Int32.ofInt z4)]) rfl ?_
  refine z_pop dL_law_327 rfl ?_
  refine z_aload_n dL_law_328 rfl rfl ?_
  refine z_aload_n dL_law_329 rfl rfl ?_
  refine z_iload_n dL_law_330 rfl rfl ?_
  refine z_iconst (v := Int32.ofInt 1) dL_law_331 rfl ?_
  refine i_iadd dL_law_332 ?_
  refine z_scd (sc_in (j := 1) hk hL (by decide)) dL_law_333 ?_
  refine kze (fun x5 qx5 gx5 => ?_)
  rw [show x5 = x1 from qx5.trans qx1.symm]
  clear qx5 gx5
  refine z_aload_n dL_law_334 rfl rfl ?_
  refine z_iload_n dL_law_335 rfl rfl ?_
  refine z_iconst (v := Int32.ofInt 2) dL_law_336 rfl ?_
  refine i_iadd dL_law_337 ?_
  refine z_scd (sc_in (j := 2) hk hL (by decide)) dL_law_338 ?_
  refine kze (fun x6 qx6 gx6 => ?_)
  rw [show x6 = x2 from qx6.trans qx2.symm]
  clear qx6 gx6
  have hM := hLM.2.2.2
  have hX0 := lX11_write 9 (Nat.le_refl _) (Jc_stb _) shM_is hM.toJ gx1 gx2 hw
  refine z_callV (As := [_, _]) eX11_write sX11_write lL_51 rfl dL_law_339 (hM.1 _ _ shM_is.1) hX0 (Nat.le_trans (by decide) hd) rfl (Nat.le_of_ble_eq_true rfl) (fun r cs2 hp => ?_)
  obtain ⟨r7, Sm', rfl, ⟨hr, hR'⟩, hM'⟩ := hp
  rw [hr, ez4]
  have hLI : LR G (k + 1) cs2 := LR_m hLM hM' hR'
  refine z_st (st' := [.int (Int32.ofInt z4)]) rfl ?_
  refine z_pop dL_law_342 rfl ?_
  refine z_goto (tgt := 576) dL_law_343 (by decide) ?_
  exact hG _ hLI
set_option maxRecDepth 100000 in
set_option maxHeartbeats 4000000 in
theorem law_sign {G : xG} {d k : Nat} {cs : List va_E} (hd : 90 ≤ d) (hL : G.2.2.2.2.2.2.1 ≤ 2560) (hk : 5 * k + 5 ≤ G.2.2.2.2.2.2.1) (hLI : LR G k cs) (hG : ∀ cs, LR G (k + 1) cs → LZ G d k 576 [] cs) : LZ G d k 346 [] cs := by
  unfold LZ at hG ⊢
  refine z_aload_n dL_law_346 rfl rfl ?_
  refine z_aload_n dL_law_347 rfl rfl ?_
  refine z_iload_n dL_law_348 rfl rfl ?_
  refine z_iconst (v := Int32.ofInt 1) dL_law_349 rfl ?_
  refine i_iadd dL_law_350 ?_
  refine z_scd (sc_in (j := 1) hk hL (by decide)) dL_law_351 ?_
  refine kze (fun x1 qx1 gx1 => ?_)
  have hX0 := cl_sign hLI (by omega) gx1
  have h0 : ∃ fs, cs[0]? = some (.inr (10, fs)) := by
    obtain ⟨v, S, Sm, hW, hV, -⟩ := hLI
    have := hW.at (a := 0) rfl
    rw [hV.1] at this
    exact ⟨_, this⟩
  refine z_callV (As := [_]) eX10_sign sX10_sign lL_52 rfl dL_law_352 h0.choose_spec hX0 (Nat.le_trans (by decide) hd) rfl (Nat.le_of_ble_eq_true rfl) (fun r cs1 hp => ?_)
  obtain ⟨y2, v, S, Sm, rfl, hLM, hw⟩ := hp
  obtain ⟨z3, ez3, gz3, -⟩ := nrm y2
  rw [ez3]
  refine z_st (st' := [.int (Int32.ofInt z3)]) rfl ?_
  refine z_pop dL_law_355 rfl ?_
  refine z_aload_n dL_law_356 rfl rfl ?_
  refine z_aload_n dL_law_357 rfl rfl ?_
  refine z_iload_n dL_law_358 rfl rfl ?_
  refine z_iconst (v := Int32.ofInt 1) dL_law_359 rfl ?_
  refine i_iadd dL_law_360 ?_
  refine z_scd (sc_in (j := 1) hk hL (by decide)) dL_law_361 ?_
  refine kze (fun x4 qx4 gx4 => ?_)
  rw [show x4 = x1 from qx4.trans qx1.symm]
  clear qx4 gx4
  have hM := hLM.2.2.2
  have hX0 := lX11_sign 1 (Nat.le_refl _) (Jc_stb _) shM_is hM.toJ gx1 hw
  refine z_callV (As := [_]) eX11_sign sX11_sign lL_55 rfl dL_law_362 (hM.1 _ _ shM_is.1) hX0 (Nat.le_trans (by decide) hd) rfl (Nat.le_of_ble_eq_true rfl) (fun r cs2 hp => ?_)
  obtain ⟨r5, Sm', rfl, ⟨hr, hR'⟩, hM'⟩ := hp
  rw [hr, ez3]
  have hLI : LR G (k + 1) cs2 := LR_m hLM hM' hR'
  refine z_st (st' := [.int (Int32.ofInt z3)]) rfl ?_
  refine z_pop dL_law_365 rfl ?_
  refine z_goto (tgt := 576) dL_law_366 (by decide) ?_
  exact hG _ hLI
set_option maxRecDepth 100000 in
set_option maxHeartbeats 4000000 in
theorem law_take {G : xG} {d k : Nat} {cs : List va_E} (hd : 90 ≤ d) (hL : G.2.2.2.2.2.2.1 ≤ 2560) (hk : 5 * k + 5 ≤ G.2.2.2.2.2.2.1) (hLI : LR G k cs) (hG : ∀ cs, LR G (k + 1) cs → LZ G d k 576 [] cs) : LZ G d k 369 [] cs := by
  unfold LZ at hG ⊢
  refine z_aload_n dL_law_369 rfl rfl ?_
  have hX0 := cl_take hLI (by omega) 
  have h0 : ∃ fs, cs[0]? = some (.inr (10, fs)) := by
    obtain ⟨v, S, Sm, hW, hV, -⟩ := hLI
    have := hW.at (a := 0) rfl
    rw [hV.1] at this
    exact ⟨_, this⟩
  refine z_callV (As := []) eX10_take sX10_take lL_56 rfl dL_law_370 h0.choose_spec hX0 (Nat.le_trans (by decide) hd) rfl (Nat.le_of_ble_eq_true rfl) (fun r cs1 hp => ?_)
  obtain ⟨y1, v, S, Sm, rfl, hLM, hw⟩ := hp
  obtain ⟨z2, ez2, gz2, -⟩ := nrm y1
  rw [ez2]
  refine z_st (st' := [.int (Int32.ofInt z2)]) rfl ?_
  refine z_pop dL_law_373 rfl ?_
  refine z_aload_n dL_law_374 rfl rfl ?_
  have hM := hLM.2.2.2
  have hX0 := lX11_take 0 (Nat.le_refl _) (Jc_stb _) shM_is hM.toJ  hw
  refine z_callV (As := []) eX11_take sX11_take lL_59 rfl dL_law_375 (hM.1 _ _ shM_is.1) hX0 (Nat.le_trans (by decide) hd) rfl (Nat.le_of_ble_eq_true rfl) (fun r cs2 hp => ?_)
  obtain ⟨r3, Sm', rfl, ⟨hr, hR'⟩, hM'⟩ := hp
  rw [hr, ez2]
  have hLI : LR G (k + 1) cs2 := LR_m hLM hM' hR'
  refine z_st (st' := [.int (Int32.ofInt z2)]) rfl ?_
  refine z_pop dL_law_378 rfl ?_
  refine z_goto (tgt := 576) dL_law_379 (by decide) ?_
  exact hG _ hLI
set_option maxRecDepth 100000 in
set_option maxHeartbeats 4000000 in
theorem law_forbid {G : xG} {d k : Nat} {cs : List va_E} (hd : 90 ≤ d) (hL : G.2.2.2.2.2.2.1 ≤ 2560) (hk : 5 * k + 5 ≤ G.2.2.2.2.2.2.1) (hLI : LR G k cs) (hG : ∀ cs, LR G (k + 1) cs → LZ G d k 576 [] cs) : LZ G d k 382 [] cs := by
  unfold LZ at hG ⊢
  refine z_aload_n dL_law_382 rfl rfl ?_
  refine z_aload_n dL_law_383 rfl rfl ?_
  refine z_iload_n dL_law_384 rfl rfl ?_
  refine z_iconst (v := Int32.ofInt 1) dL_law_385 rfl ?_
  refine i_iadd dL_law_386 ?_
  refine z_scd (sc_in (j := 1) hk hL (by decide)) dL_law_387 ?_
  refine kze (fun x1 qx1 gx1 => ?_)
  refine z_aload_n dL_law_388 rfl rfl ?_
  refine z_iload_n dL_law_389 rfl rfl ?_
  refine z_iconst (v := Int32.ofInt 2) dL_law_390 rfl ?_
  refine i_iadd dL_law_391 ?_
  refine z_scd (sc_in (j := 2) hk hL (by decide)) dL_law_392 ?_
  refine kze (fun x2 qx2 gx2 => ?_)
  refine i_if_eq (tgt := 400) dL_law_393 (by decide) gx2 (fun h3 => ?_) (fun h3 => ?_)
  · refine z_iconst (v := Int32.ofInt 0) dL_law_400 rfl ?_
    have hX0 := cl_forbid hLI (by omega) gx1 (show rng 0 from ⟨by decide, by decide⟩) ⟨by decide, by decide⟩
    have h0 : ∃ fs, cs[0]? = some (.inr (10, fs)) := by
      obtain ⟨v, S, Sm, hW, hV, -⟩ := hLI
      have := hW.at (a := 0) rfl
      rw [hV.1] at this
      exact ⟨_, this⟩
    refine z_callV (As := [_, _]) eX10_forbid sX10_forbid lL_60 rfl dL_law_401 h0.choose_spec hX0 (Nat.le_trans (by decide) hd) rfl (Nat.le_of_ble_eq_true rfl) (fun r cs1 hp => ?_)
    obtain ⟨y4, v, S, Sm, rfl, hLM, hw⟩ := hp
    obtain ⟨z5, ez5, gz5, -⟩ := nrm y4
    rw [ez5]
    refine z_st (st' := [.int (Int32.ofInt z5)]) rfl ?_
    refine z_pop dL_law_404 rfl ?_
    refine z_aload_n dL_law_405 rfl rfl ?_
    refine z_aload_n dL_law_406 rfl rfl ?_
    refine z_iload_n dL_law_407 rfl rfl ?_
    refine z_iconst (v := Int32.ofInt 1) dL_law_408 rfl ?_
    refine i_iadd dL_law_409 ?_
    refine z_scd (sc_in (j := 1) hk hL (by decide)) dL_law_410 ?_
    refine kze (fun x6 qx6 gx6 => ?_)
    rw [show x6 = x1 from qx6.trans qx1.symm]
    clear qx6 gx6
    refine z_aload_n dL_law_411 rfl rfl ?_
    refine z_iload_n dL_law_412 rfl rfl ?_
    refine z_iconst (v := Int32.ofInt 2) dL_law_413 rfl ?_
    refine i_iadd dL_law_414 ?_
    refine z_scd (sc_in (j := 2) hk hL (by decide)) dL_law_415 ?_
    refine kze (fun x7 qx7 gx7 => ?_)
    rw [show x7 = x2 from qx7.trans qx2.symm]
    clear qx7 gx7
    refine i_if_eq (tgt := 423) dL_law_416 (by decide) gx2 (fun h8 => ?_) (fun h8 => ?_)
    · refine z_iconst (v := Int32.ofInt 0) dL_law_423 rfl ?_
      have hM := hLM.2.2.2
      have hX0 := lX11_forbid 1 (Nat.le_refl _) (Jc_stb _) shM_is hM.toJ gx1 (show rng 0 from ⟨by decide, by decide⟩) hw
      refine z_callV (As := [_, _]) eX11_forbid sX11_forbid lL_64 rfl dL_law_424 (hM.1 _ _ shM_is.1) hX0 (Nat.le_trans (by decide) hd) rfl (Nat.le_of_ble_eq_true rfl) (fun r cs2 hp => ?_)
      obtain ⟨r9, Sm', rfl, ⟨hr, hR'⟩, hM'⟩ := hp
      rw [hr, ez5]
      have hLI : LR G (k + 1) cs2 := LR_m hLM hM' hR'
      refine z_st (st' := [.int (Int32.ofInt z5)]) rfl ?_
      refine z_pop dL_law_427 rfl ?_
      refine z_goto (tgt := 576) dL_law_428 (by decide) ?_
      exact hG _ hLI
    · exact absurd h3 h8
  · refine z_iconst (v := Int32.ofInt 1) dL_law_396 rfl ?_
    refine z_goto (tgt := 401) dL_law_397 (by decide) ?_
    have hX0 := cl_forbid hLI (by omega) gx1 (show rng 1 from ⟨by decide, by decide⟩) ⟨by decide, by decide⟩
    have h0 : ∃ fs, cs[0]? = some (.inr (10, fs)) := by
      obtain ⟨v, S, Sm, hW, hV, -⟩ := hLI
      have := hW.at (a := 0) rfl
      rw [hV.1] at this
      exact ⟨_, this⟩
    refine z_callV (As := [_, _]) eX10_forbid sX10_forbid lL_60 rfl dL_law_401 h0.choose_spec hX0 (Nat.le_trans (by decide) hd) rfl (Nat.le_of_ble_eq_true rfl) (fun r cs1 hp => ?_)
    obtain ⟨y10, v, S, Sm, rfl, hLM, hw⟩ := hp
    obtain ⟨z11, ez11, gz11, -⟩ := nrm y10
    rw [ez11]
    refine z_st (st' := [.int (Int32.ofInt z11)]) rfl ?_
    refine z_pop dL_law_404 rfl ?_
    refine z_aload_n dL_law_405 rfl rfl ?_
    refine z_aload_n dL_law_406 rfl rfl ?_
    refine z_iload_n dL_law_407 rfl rfl ?_
    refine z_iconst (v := Int32.ofInt 1) dL_law_408 rfl ?_
    refine i_iadd dL_law_409 ?_
    refine z_scd (sc_in (j := 1) hk hL (by decide)) dL_law_410 ?_
    refine kze (fun x12 qx12 gx12 => ?_)
    rw [show x12 = x1 from qx12.trans qx1.symm]
    clear qx12 gx12
    refine z_aload_n dL_law_411 rfl rfl ?_
    refine z_iload_n dL_law_412 rfl rfl ?_
    refine z_iconst (v := Int32.ofInt 2) dL_law_413 rfl ?_
    refine i_iadd dL_law_414 ?_
    refine z_scd (sc_in (j := 2) hk hL (by decide)) dL_law_415 ?_
    refine kze (fun x13 qx13 gx13 => ?_)
    rw [show x13 = x2 from qx13.trans qx2.symm]
    clear qx13 gx13
    refine i_if_eq (tgt := 423) dL_law_416 (by decide) gx2 (fun h14 => ?_) (fun h14 => ?_)
    · exact absurd h14 h3
    · refine z_iconst (v := Int32.ofInt 1) dL_law_419 rfl ?_
      refine z_goto (tgt := 424) dL_law_420 (by decide) ?_
      have hM := hLM.2.2.2
      have hX0 := lX11_forbid 1 (Nat.le_refl _) (Jc_stb _) shM_is hM.toJ gx1 (show rng 1 from ⟨by decide, by decide⟩) hw
      refine z_callV (As := [_, _]) eX11_forbid sX11_forbid lL_64 rfl dL_law_424 (hM.1 _ _ shM_is.1) hX0 (Nat.le_trans (by decide) hd) rfl (Nat.le_of_ble_eq_true rfl) (fun r cs2 hp => ?_)
      obtain ⟨r15, Sm', rfl, ⟨hr, hR'⟩, hM'⟩ := hp
      rw [hr, ez11]
      have hLI : LR G (k + 1) cs2 := LR_m hLM hM' hR'
      refine z_st (st' := [.int (Int32.ofInt z11)]) rfl ?_
      refine z_pop dL_law_427 rfl ?_
      refine z_goto (tgt := 576) dL_law_428 (by decide) ?_
      exact hG _ hLI
set_option maxRecDepth 100000 in
set_option maxHeartbeats 4000000 in
theorem law_read {G : xG} {d k : Nat} {cs : List va_E} (hd : 90 ≤ d) (hL : G.2.2.2.2.2.2.1 ≤ 2560) (hk : 5 * k + 5 ≤ G.2.2.2.2.2.2.1) (hLI : LR G k cs) (hG : ∀ cs, LR G (k + 1) cs → LZ G d k 576 [] cs) : LZ G d k 431 [] cs := by
  unfold LZ at hG ⊢
  refine z_aload_n dL_law_431 rfl rfl ?_
  have hX0 := cl_read hLI (by omega) 
  have h0 : ∃ fs, cs[0]? = some (.inr (10, fs)) := by
    obtain ⟨v, S, Sm, hW, hV, -⟩ := hLI
    have := hW.at (a := 0) rfl
    rw [hV.1] at this
    exact ⟨_, this⟩
  refine z_callV (As := []) eX10_read sX10_read lL_65 rfl dL_law_432 h0.choose_spec hX0 (Nat.le_trans (by decide) hd) rfl (Nat.le_of_ble_eq_true rfl) (fun r cs1 hp => ?_)
  obtain ⟨y1, v, S, Sm, rfl, hLM, hw⟩ := hp
  obtain ⟨z2, ez2, gz2, -⟩ := nrm y1
  rw [ez2]
  refine z_st (st' := [.int (Int32.ofInt z2)]) rfl ?_
  refine z_pop dL_law_435 rfl ?_
  refine z_aload_n dL_law_436 rfl rfl ?_
  have hM := hLM.2.2.2
  have hX0 := lX11_read 8 (Nat.le_refl _) (Jc_stb _) shM_is hM.toJ  hw
  refine z_callV (As := []) eX11_read sX11_read lL_68 rfl dL_law_437 (hM.1 _ _ shM_is.1) hX0 (Nat.le_trans (by decide) hd) rfl (Nat.le_of_ble_eq_true rfl) (fun r cs2 hp => ?_)
  obtain ⟨r3, Sm', rfl, hR', hM'⟩ := hp
  obtain ⟨z2m, ez2m, gz2m, -⟩ := nrm r3
  rw [ez2m]
  have hLI : LR G (k + 1) cs2 := LR_m hLM hM' hR'
  refine z_st (st' := [.int (Int32.ofInt z2m)]) rfl ?_
  refine z_pop dL_law_440 rfl ?_
  refine z_goto (tgt := 576) dL_law_441 (by decide) ?_
  exact hG _ hLI
set_option maxRecDepth 100000 in
set_option maxHeartbeats 4000000 in
theorem law_same {G : xG} {d k : Nat} {cs : List va_E} (hd : 90 ≤ d) (hL : G.2.2.2.2.2.2.1 ≤ 2560) (hk : 5 * k + 5 ≤ G.2.2.2.2.2.2.1) (hLI : LR G k cs) (hG : ∀ cs, LR G (k + 1) cs → LZ G d k 576 [] cs) : LZ G d k 444 [] cs := by
  unfold LZ at hG ⊢
  refine z_aload_n dL_law_444 rfl rfl ?_
  refine z_aload_n dL_law_445 rfl rfl ?_
  refine z_iload_n dL_law_446 rfl rfl ?_
  refine z_iconst (v := Int32.ofInt 1) dL_law_447 rfl ?_
  refine i_iadd dL_law_448 ?_
  refine z_scd (sc_in (j := 1) hk hL (by decide)) dL_law_449 ?_
  refine kze (fun x1 qx1 gx1 => ?_)
  have hX0 := cl_same hLI (by omega) gx1
  have h0 : ∃ fs, cs[0]? = some (.inr (10, fs)) := by
    obtain ⟨v, S, Sm, hW, hV, -⟩ := hLI
    have := hW.at (a := 0) rfl
    rw [hV.1] at this
    exact ⟨_, this⟩
  refine z_callV (As := [_]) eX10_same sX10_same lL_69 rfl dL_law_450 h0.choose_spec hX0 (Nat.le_trans (by decide) hd) rfl (Nat.le_of_ble_eq_true rfl) (fun r cs1 hp => ?_)
  obtain ⟨y2, v, S, Sm, rfl, hLM, hw⟩ := hp
  obtain ⟨z3, ez3, gz3, -⟩ := nrm y2
  rw [ez3]
  refine z_st (st' := [.int (Int32.ofInt z3)]) rfl ?_
  refine z_pop dL_law_453 rfl ?_
  refine z_aload_n dL_law_454 rfl rfl ?_
  refine z_aload_n dL_law_455 rfl rfl ?_
  refine z_iload_n dL_law_456 rfl rfl ?_
  refine z_iconst (v := Int32.ofInt 1) dL_law_457 rfl ?_
  refine i_iadd dL_law_458 ?_
  refine z_scd (sc_in (j := 1) hk hL (by decide)) dL_law_459 ?_
  refine kze (fun x4 qx4 gx4 => ?_)
  rw [show x4 = x1 from qx4.trans qx1.symm]
  clear qx4 gx4
  have hM := hLM.2.2.2
  have hX0 := lX11_same 2 (Nat.le_refl _) (Jc_stb _) shM_is hM.toJ gx1 hw
  refine z_callV (As := [_]) eX11_same sX11_same lL_72 rfl dL_law_460 (hM.1 _ _ shM_is.1) hX0 (Nat.le_trans (by decide) hd) rfl (Nat.le_of_ble_eq_true rfl) (fun r cs2 hp => ?_)
  obtain ⟨r5, Sm', rfl, ⟨hr, hR'⟩, hM'⟩ := hp
  rw [hr, ez3]
  have hLI : LR G (k + 1) cs2 := LR_m hLM hM' hR'
  refine z_st (st' := [.int (Int32.ofInt z3)]) rfl ?_
  refine z_pop dL_law_463 rfl ?_
  refine z_goto (tgt := 576) dL_law_464 (by decide) ?_
  exact hG _ hLI
set_option maxRecDepth 100000 in
set_option maxHeartbeats 4000000 in
theorem law_kind {G : xG} {d k : Nat} {cs : List va_E} (hd : 90 ≤ d) (hL : G.2.2.2.2.2.2.1 ≤ 2560) (hk : 5 * k + 5 ≤ G.2.2.2.2.2.2.1) (hLI : LR G k cs) (hG : ∀ cs, LR G (k + 1) cs → LZ G d k 576 [] cs) : LZ G d k 467 [] cs := by
  unfold LZ at hG ⊢
  refine z_aload_n dL_law_467 rfl rfl ?_
  refine z_aload_n dL_law_468 rfl rfl ?_
  refine z_iload_n dL_law_469 rfl rfl ?_
  refine z_iconst (v := Int32.ofInt 1) dL_law_470 rfl ?_
  refine i_iadd dL_law_471 ?_
  refine z_scd (sc_in (j := 1) hk hL (by decide)) dL_law_472 ?_
  refine kze (fun x1 qx1 gx1 => ?_)
  refine z_aload_n dL_law_473 rfl rfl ?_
  refine z_iload_n dL_law_474 rfl rfl ?_
  refine z_iconst (v := Int32.ofInt 2) dL_law_475 rfl ?_
  refine i_iadd dL_law_476 ?_
  refine z_scd (sc_in (j := 2) hk hL (by decide)) dL_law_477 ?_
  refine kze (fun x2 qx2 gx2 => ?_)
  have hX0 := cl_kind hLI (by omega) gx1 gx2
  have h0 : ∃ fs, cs[0]? = some (.inr (10, fs)) := by
    obtain ⟨v, S, Sm, hW, hV, -⟩ := hLI
    have := hW.at (a := 0) rfl
    rw [hV.1] at this
    exact ⟨_, this⟩
  refine z_callV (As := [_, _]) eX10_kind sX10_kind lL_73 rfl dL_law_478 h0.choose_spec hX0 (Nat.le_trans (by decide) hd) rfl (Nat.le_of_ble_eq_true rfl) (fun r cs1 hp => ?_)
  obtain ⟨y3, v, S, Sm, rfl, hLM, hw⟩ := hp
  obtain ⟨z4, ez4, gz4, -⟩ := nrm y3
  rw [ez4]
  refine z_st (st' := [.int (Int32.ofInt z4)]) rfl ?_
  refine z_pop dL_law_481 rfl ?_
  refine z_aload_n dL_law_482 rfl rfl ?_
  refine z_aload_n dL_law_483 rfl rfl ?_
  refine z_iload_n dL_law_484 rfl rfl ?_
  refine z_iconst (v := Int32.ofInt 1) dL_law_485 rfl ?_
  refine i_iadd dL_law_486 ?_
  refine z_scd (sc_in (j := 1) hk hL (by decide)) dL_law_487 ?_
  refine kze (fun x5 qx5 gx5 => ?_)
  rw [show x5 = x1 from qx5.trans qx1.symm]
  clear qx5 gx5
  refine z_aload_n dL_law_488 rfl rfl ?_
  refine z_iload_n dL_law_489 rfl rfl ?_
  refine z_iconst (v := Int32.ofInt 2) dL_law_490 rfl ?_
  refine i_iadd dL_law_491 ?_
  refine z_scd (sc_in (j := 2) hk hL (by decide)) dL_law_492 ?_
  refine kze (fun x6 qx6 gx6 => ?_)
  rw [show x6 = x2 from qx6.trans qx2.symm]
  clear qx6 gx6
  have hM := hLM.2.2.2
  have hX0 := lX11_kind 1 (Nat.le_refl _) (Jc_stb _) shM_is hM.toJ gx1 gx2 hw
  refine z_callV (As := [_, _]) eX11_kind sX11_kind lL_76 rfl dL_law_493 (hM.1 _ _ shM_is.1) hX0 (Nat.le_trans (by decide) hd) rfl (Nat.le_of_ble_eq_true rfl) (fun r cs2 hp => ?_)
  obtain ⟨r7, Sm', rfl, ⟨hr, hR'⟩, hM'⟩ := hp
  rw [hr, ez4]
  have hLI : LR G (k + 1) cs2 := LR_m hLM hM' hR'
  refine z_st (st' := [.int (Int32.ofInt z4)]) rfl ?_
  refine z_pop dL_law_496 rfl ?_
  refine z_goto (tgt := 576) dL_law_497 (by decide) ?_
  exact hG _ hLI
set_option maxRecDepth 100000 in
set_option maxHeartbeats 4000000 in
theorem law_value {G : xG} {d k : Nat} {cs : List va_E} (hd : 90 ≤ d) (hL : G.2.2.2.2.2.2.1 ≤ 2560) (hk : 5 * k + 5 ≤ G.2.2.2.2.2.2.1) (hLI : LR G k cs) (hG : ∀ cs, LR G (k + 1) cs → LZ G d k 576 [] cs) : LZ G d k 500 [] cs := by
  unfold LZ at hG ⊢
  refine z_aload_n dL_law_500 rfl rfl ?_
  refine z_aload_n dL_law_501 rfl rfl ?_
  refine z_iload_n dL_law_502 rfl rfl ?_
  refine z_iconst (v := Int32.ofInt 1) dL_law_503 rfl ?_
  refine i_iadd dL_law_504 ?_
  refine z_scd (sc_in (j := 1) hk hL (by decide)) dL_law_505 ?_
  refine kze (fun x1 qx1 gx1 => ?_)
  refine z_aload_n dL_law_506 rfl rfl ?_
  refine z_iload_n dL_law_507 rfl rfl ?_
  refine z_iconst (v := Int32.ofInt 2) dL_law_508 rfl ?_
  refine i_iadd dL_law_509 ?_
  refine z_scd (sc_in (j := 2) hk hL (by decide)) dL_law_510 ?_
  refine kze (fun x2 qx2 gx2 => ?_)
  refine z_aload_n dL_law_511 rfl rfl ?_
  refine z_iload_n dL_law_512 rfl rfl ?_
  refine z_iconst (v := Int32.ofInt 3) dL_law_513 rfl ?_
  refine i_iadd dL_law_514 ?_
  refine z_scd (sc_in (j := 3) hk hL (by decide)) dL_law_515 ?_
  refine kze (fun x3 qx3 gx3 => ?_)
  refine z_aload_n dL_law_516 rfl rfl ?_
  refine z_iload_n dL_law_517 rfl rfl ?_
  refine z_iconst (v := Int32.ofInt 4) dL_law_518 rfl ?_
  refine i_iadd dL_law_519 ?_
  refine z_scd (sc_in (j := 4) hk hL (by decide)) dL_law_520 ?_
  refine kze (fun x4 qx4 gx4 => ?_)
  have hX0 := cl_value hLI (by omega) gx1 gx2 gx3 gx4
  have h0 : ∃ fs, cs[0]? = some (.inr (10, fs)) := by
    obtain ⟨v, S, Sm, hW, hV, -⟩ := hLI
    have := hW.at (a := 0) rfl
    rw [hV.1] at this
    exact ⟨_, this⟩
  refine z_callV (As := [_, _, _, _]) eX10_value sX10_value lL_77 rfl dL_law_521 h0.choose_spec hX0 (Nat.le_trans (by decide) hd) rfl (Nat.le_of_ble_eq_true rfl) (fun r cs1 hp => ?_)
  obtain ⟨y5, v, S, Sm, rfl, hLM, hw⟩ := hp
  obtain ⟨z6, ez6, gz6, -⟩ := nrm y5
  rw [ez6]
  refine z_st (st' := [.int (Int32.ofInt z6)]) rfl ?_
  refine z_pop dL_law_524 rfl ?_
  refine z_aload_n dL_law_525 rfl rfl ?_
  refine z_aload_n dL_law_526 rfl rfl ?_
  refine z_iload_n dL_law_527 rfl rfl ?_
  refine z_iconst (v := Int32.ofInt 1) dL_law_528 rfl ?_
  refine i_iadd dL_law_529 ?_
  refine z_scd (sc_in (j := 1) hk hL (by decide)) dL_law_530 ?_
  refine kze (fun x7 qx7 gx7 => ?_)
  rw [show x7 = x1 from qx7.trans qx1.symm]
  clear qx7 gx7
  refine z_aload_n dL_law_531 rfl rfl ?_
  refine z_iload_n dL_law_532 rfl rfl ?_
  refine z_iconst (v := Int32.ofInt 2) dL_law_533 rfl ?_
  refine i_iadd dL_law_534 ?_
  refine z_scd (sc_in (j := 2) hk hL (by decide)) dL_law_535 ?_
  refine kze (fun x8 qx8 gx8 => ?_)
  rw [show x8 = x2 from qx8.trans qx2.symm]
  clear qx8 gx8
  refine z_aload_n dL_law_536 rfl rfl ?_
  refine z_iload_n dL_law_537 rfl rfl ?_
  refine z_iconst (v := Int32.ofInt 3) dL_law_538 rfl ?_
  refine i_iadd dL_law_539 ?_
  refine z_scd (sc_in (j := 3) hk hL (by decide)) dL_law_540 ?_
  refine kze (fun x9 qx9 gx9 => ?_)
  rw [show x9 = x3 from qx9.trans qx3.symm]
  clear qx9 gx9
  refine z_aload_n dL_law_541 rfl rfl ?_
  refine z_iload_n dL_law_542 rfl rfl ?_
  refine z_iconst (v := Int32.ofInt 4) dL_law_543 rfl ?_
  refine i_iadd dL_law_544 ?_
  refine z_scd (sc_in (j := 4) hk hL (by decide)) dL_law_545 ?_
  refine kze (fun x10 qx10 gx10 => ?_)
  rw [show x10 = x4 from qx10.trans qx4.symm]
  clear qx10 gx10
  have hM := hLM.2.2.2
  have hX0 := lX11_value 2 (Nat.le_refl _) (Jc_stb _) shM_is hM.toJ gx1 gx2 gx3 gx4 hw
  refine z_callV (As := [_, _, _, _]) eX11_value sX11_value lL_81 rfl dL_law_546 (hM.1 _ _ shM_is.1) hX0 (Nat.le_trans (by decide) hd) rfl (Nat.le_of_ble_eq_true rfl) (fun r cs2 hp => ?_)
  obtain ⟨r11, Sm', rfl, ⟨hr, hR'⟩, hM'⟩ := hp
  rw [hr, ez6]
  have hLI : LR G (k + 1) cs2 := LR_m hLM hM' hR'
  refine z_st (st' := [.int (Int32.ofInt z6)]) rfl ?_
  refine z_pop dL_law_549 rfl ?_
  refine z_goto (tgt := 576) dL_law_550 (by decide) ?_
  exact hG _ hLI
set_option maxRecDepth 100000 in
set_option maxHeartbeats 4000000 in
theorem law_count {G : xG} {d k : Nat} {cs : List va_E} (hd : 90 ≤ d) (hL : G.2.2.2.2.2.2.1 ≤ 2560) (hk : 5 * k + 5 ≤ G.2.2.2.2.2.2.1) (hLI : LR G k cs) (hG : ∀ cs, LR G (k + 1) cs → LZ G d k 576 [] cs) : LZ G d k 553 [] cs := by
  unfold LZ at hG ⊢
  refine z_aload_n dL_law_553 rfl rfl ?_
  refine z_aload_n dL_law_554 rfl rfl ?_
  refine z_iload_n dL_law_555 rfl rfl ?_
  refine z_iconst (v := Int32.ofInt 1) dL_law_556 rfl ?_
  refine i_iadd dL_law_557 ?_
  refine z_scd (sc_in (j := 1) hk hL (by decide)) dL_law_558 ?_
  refine kze (fun x1 qx1 gx1 => ?_)
  have hX0 := cl_count hLI (by omega) gx1
  have h0 : ∃ fs, cs[0]? = some (.inr (10, fs)) := by
    obtain ⟨v, S, Sm, hW, hV, -⟩ := hLI
    have := hW.at (a := 0) rfl
    rw [hV.1] at this
    exact ⟨_, this⟩
  refine z_callV (As := [_]) eX10_count sX10_count lL_82 rfl dL_law_559 h0.choose_spec hX0 (Nat.le_trans (by decide) hd) rfl (Nat.le_of_ble_eq_true rfl) (fun r cs1 hp => ?_)
  obtain ⟨y2, v, S, Sm, rfl, hLM, hw⟩ := hp
  obtain ⟨z3, ez3, gz3, -⟩ := nrm y2
  rw [ez3]
  refine z_st (st' := [.int (Int32.ofInt z3)]) rfl ?_
  refine z_aload_n dL_law_562 rfl rfl ?_
  refine z_aload_n dL_law_563 rfl rfl ?_
  refine z_iload_n dL_law_564 rfl rfl ?_
  refine z_iconst (v := Int32.ofInt 1) dL_law_565 rfl ?_
  refine i_iadd dL_law_566 ?_
  refine z_scd (sc_in (j := 1) hk hL (by decide)) dL_law_567 ?_
  refine kze (fun x4 qx4 gx4 => ?_)
  rw [show x4 = x1 from qx4.trans qx1.symm]
  clear qx4 gx4
  have hM := hLM.2.2.2
  have hX0 := lX11_count 0 (Nat.le_refl _) (Jc_stb _) shM_is hM.toJ gx1 hw
  refine z_callV (As := [_]) eX11_count sX11_count lL_85 rfl dL_law_568 (hM.1 _ _ shM_is.1) hX0 (Nat.le_trans (by decide) hd) rfl (Nat.le_of_ble_eq_true rfl) (fun r cs2 hp => ?_)
  obtain ⟨r5, Sm', rfl, ⟨hr, hR'⟩, hM'⟩ := hp
  rw [hr, ez3]
  have hLI : LR G (k + 1) cs2 := LR_m hLM hM' hR'
  refine z_st (st' := [.int (Int32.ofInt z3), .int (Int32.ofInt z3)]) rfl ?_
  refine i_icmp_eq (tgt := 576) dL_law_571 (by decide) gz3 gz3 (fun h6 => ?_) (fun h6 => ?_)
  · exact hG _ hLI
  · exact absurd rfl h6

