/-! THE LAW'S LOOP -/
def LZ (G : xG) (d k pc : Nat) (st : List Value) (cs : List va_E) : Prop := Z (RL, cL_law, 4, some .boolean, false) G d (fun r _ => r = some (.int 1)) pc [(0, .ref G.2.2.2.2.2.1), (1, .ref (G.1 + 0)), (2, .ref (G.1 + 54)), (3, .int (Int32.ofInt (5 * (k : Int))))] st cs
theorem kze {own : String} {cc : ByteArray} {nL : Nat} {ret : Option FieldType} {ini : Bool} {G : xG} {d : Nat} {Post : xP} {pc : Nat} {L : List (Nat × Value)} {rest : List Value} {cs : List va_E} {w : Int32} (kk : ∀ z : Int, z = w.toInt → rng z → Z (own, cc, nL, ret, ini) G d Post pc L (.int (Int32.ofInt z) :: rest) cs) : Z (own, cc, nL, ret, ini) G d Post pc L (.int w :: rest) cs := by
  have := kk w.toInt rfl (rng_of w)
  rwa [Int32.ofInt_toInt] at this
theorem sc_in {G : xG} {k j : Nat} (hk : 5 * k + 5 ≤ G.2.2.2.2.2.2.1) (hL : G.2.2.2.2.2.2.1 ≤ 2560) (hj : j < 5) : vp_in (Int32.ofInt (5 * (k : Int) + (j : Int))) G.2.2.2.2.2.2.1 := oI_in (by omega) (by omega) (by omega)
set_option maxRecDepth 100000 in
set_option maxHeartbeats 4000000 in
theorem law_unit {G : xG} {d k : Nat} {cs : List va_E} (hd : 90 ≤ d) (hL : G.2.2.2.2.2.2.1 ≤ 2560) (hk : 5 * k + 5 ≤ G.2.2.2.2.2.2.1) (hLI : LI G k cs) (hG : ∀ cs, LI G (k + 1) cs → LZ G d k 576 [] cs) : LZ G d k 112 [] cs := by
  unfold LZ at hG ⊢
  refine z_aload_n dL_law_112 rfl rfl ?_
  refine z_aload_n dL_law_113 rfl rfl ?_
  refine z_iload_n dL_law_114 rfl rfl ?_
  refine z_iconst (v := Int32.ofInt 1) dL_law_115 rfl ?_
  refine i_iadd dL_law_116 ?_
  refine z_scd (sc_in (j := 1) hk hL (by decide)) dL_law_117 ?_
  refine kze (fun x1 qx1 gx1 => ?_)
  obtain ⟨τ, S, p, hW, hM, hI, h0, hp19, hn, hl⟩ := hLI
  have hX0 := kX10_unit 2 (Nat.le_refl _) hW h0 gx1
  refine z_callV (As := [_]) eX10_unit sX10_unit lL_13 rfl dL_law_118 (hW.ob h0 (by decide)).choose_spec hX0 (Nat.le_trans (by decide) hd) rfl (Nat.le_of_ble_eq_true rfl) (fun r cs1 hp => ?_)
  obtain ⟨τ1, r2, rfl, gr2, hW1, hF1, _⟩ := hp
  have hLI : LI G (k + 1) cs1 := LI_r (LI_w hW1 hF1 hM hI h0 hp19 hn hl) (by omega)
  clear hX0 hW hM hI h0 hp19 hn hl
  refine z_st (st' := [.int (Int32.ofInt r2)]) rfl ?_
  refine z_pop dL_law_121 rfl ?_
  refine z_aload_n dL_law_122 rfl rfl ?_
  refine z_aload_n dL_law_123 rfl rfl ?_
  refine z_iload_n dL_law_124 rfl rfl ?_
  refine z_iconst (v := Int32.ofInt 1) dL_law_125 rfl ?_
  refine i_iadd dL_law_126 ?_
  refine z_scd (sc_in (j := 1) hk hL (by decide)) dL_law_127 ?_
  refine kze (fun x3 qx3 gx3 => ?_)
  obtain ⟨τ, S, p, hW, hM, hI, h0, hp19, hn, hl⟩ := hLI
  have hX0 := lX11_unit 1 (Nat.le_refl _) (Jc_stb _) shM_is hM.toJ gx3 (mU_unit hM.toJ hI)
  refine z_callV (As := [_]) eX11_unit sX11_unit lL_17 rfl dL_law_128 (hM.1 _ _ shM_is.1) hX0 (Nat.le_trans (by decide) hd) rfl (Nat.le_of_ble_eq_true rfl) (fun r cs2 hp => ?_)
  obtain ⟨r4, S', rfl, ⟨hI', h19⟩, hM'⟩ := hp
  have hLI : LI G (k + 1) cs2 := LI_m hW hM' hI' h0 (h19.trans hp19) hn hl
  refine z_st (st' := [.int (Int32.ofInt r4)]) rfl ?_
  refine z_pop dL_law_131 rfl ?_
  refine z_goto (tgt := 576) dL_law_132 (by decide) ?_
  exact hG _ hLI
set_option maxRecDepth 100000 in
set_option maxHeartbeats 4000000 in
theorem law_classes {G : xG} {d k : Nat} {cs : List va_E} (hd : 90 ≤ d) (hL : G.2.2.2.2.2.2.1 ≤ 2560) (hk : 5 * k + 5 ≤ G.2.2.2.2.2.2.1) (hLI : LI G k cs) (hG : ∀ cs, LI G (k + 1) cs → LZ G d k 576 [] cs) : LZ G d k 135 [] cs := by
  unfold LZ at hG ⊢
  refine z_aload_n dL_law_135 rfl rfl ?_
  obtain ⟨τ, S, p, hW, hM, hI, h0, hp19, hn, hl⟩ := hLI
  have hX0 := kX10_classes 12 (Nat.le_refl _) hW h0  (B0_ok (by omega))
  refine z_callV (As := []) eX10_classes sX10_classes lL_18 rfl dL_law_136 (hW.ob h0 (by decide)).choose_spec hX0 (Nat.le_trans (by decide) hd) rfl (Nat.le_of_ble_eq_true rfl) (fun r cs1 hp => ?_)
  obtain ⟨τ1, r1, rfl, gr1, hW1, hF1, _⟩ := hp
  rw [← B0_s] at hW1
  have hLI : LI G (k + 1) cs1 := LI_w hW1 hF1 hM hI h0 hp19 hn hl
  clear hX0 hW hM hI h0 hp19 hn hl
  refine z_st (st' := [.int (Int32.ofInt r1)]) rfl ?_
  refine z_pop dL_law_139 rfl ?_
  refine z_aload_n dL_law_140 rfl rfl ?_
  obtain ⟨τ, S, p, hW, hM, hI, h0, hp19, hn, hl⟩ := hLI
  have hX0 := lX11_classes 5 (Nat.le_refl _) (Jc_stb _) shM_is hM.toJ  (mU_classes hM.toJ hI)
  refine z_callV (As := []) eX11_classes sX11_classes lL_22 rfl dL_law_141 (hM.1 _ _ shM_is.1) hX0 (Nat.le_trans (by decide) hd) rfl (Nat.le_of_ble_eq_true rfl) (fun r cs2 hp => ?_)
  obtain ⟨r2, S', rfl, ⟨hI', h19⟩, hM'⟩ := hp
  have hLI : LI G (k + 1) cs2 := LI_m hW hM' hI' h0 (h19.trans hp19) hn hl
  refine z_st (st' := [.int (Int32.ofInt r2)]) rfl ?_
  refine z_pop dL_law_144 rfl ?_
  refine z_goto (tgt := 576) dL_law_145 (by decide) ?_
  exact hG _ hLI
set_option maxRecDepth 100000 in
set_option maxHeartbeats 4000000 in
theorem law_make {G : xG} {d k : Nat} {cs : List va_E} (hd : 90 ≤ d) (hL : G.2.2.2.2.2.2.1 ≤ 2560) (hk : 5 * k + 5 ≤ G.2.2.2.2.2.2.1) (hLI : LI G k cs) (hG : ∀ cs, LI G (k + 1) cs → LZ G d k 576 [] cs) : LZ G d k 148 [] cs := by
  unfold LZ at hG ⊢
  refine z_aload_n dL_law_148 rfl rfl ?_
  refine z_aload_n dL_law_149 rfl rfl ?_
  refine z_iload_n dL_law_150 rfl rfl ?_
  refine z_iconst (v := Int32.ofInt 1) dL_law_151 rfl ?_
  refine i_iadd dL_law_152 ?_
  refine z_scd (sc_in (j := 1) hk hL (by decide)) dL_law_153 ?_
  refine kze (fun x1 qx1 gx1 => ?_)
  obtain ⟨τ, S, p, hW, hM, hI, h0, hp19, hn, hl⟩ := hLI
  have hX0 := kX10_make 2 (Nat.le_refl _) hW h0 gx1
  refine z_callV (As := [_]) eX10_make sX10_make lL_23 rfl dL_law_154 (hW.ob h0 (by decide)).choose_spec hX0 (Nat.le_trans (by decide) hd) rfl (Nat.le_of_ble_eq_true rfl) (fun r cs1 hp => ?_)
  obtain ⟨τ1, r2, rfl, gr2, hW1, hF1, _⟩ := hp
  have hLI : LI G (k + 1) cs1 := LI_r (LI_w hW1 hF1 hM hI h0 hp19 hn hl) (by omega)
  clear hX0 hW hM hI h0 hp19 hn hl
  refine z_st (st' := [.int (Int32.ofInt r2)]) rfl ?_
  refine z_pop dL_law_157 rfl ?_
  refine z_aload_n dL_law_158 rfl rfl ?_
  refine z_aload_n dL_law_159 rfl rfl ?_
  refine z_iload_n dL_law_160 rfl rfl ?_
  refine z_iconst (v := Int32.ofInt 1) dL_law_161 rfl ?_
  refine i_iadd dL_law_162 ?_
  refine z_scd (sc_in (j := 1) hk hL (by decide)) dL_law_163 ?_
  refine kze (fun x3 qx3 gx3 => ?_)
  obtain ⟨τ, S, p, hW, hM, hI, h0, hp19, hn, hl⟩ := hLI
  have hX0 := lX11_make 1 (Nat.le_refl _) (Jc_stb _) shM_is hM.toJ gx3 (mU_make hM.toJ hI)
  refine z_callV (As := [_]) eX11_make sX11_make lL_27 rfl dL_law_164 (hM.1 _ _ shM_is.1) hX0 (Nat.le_trans (by decide) hd) rfl (Nat.le_of_ble_eq_true rfl) (fun r cs2 hp => ?_)
  obtain ⟨r4, S', rfl, ⟨hI', h19⟩, hM'⟩ := hp
  have hLI : LI G (k + 1) cs2 := LI_m hW hM' hI' h0 (h19.trans hp19) hn hl
  refine z_st (st' := [.int (Int32.ofInt r4)]) rfl ?_
  refine z_pop dL_law_167 rfl ?_
  refine z_goto (tgt := 576) dL_law_168 (by decide) ?_
  exact hG _ hLI
set_option maxRecDepth 100000 in
set_option maxHeartbeats 4000000 in
theorem law_set {G : xG} {d k : Nat} {cs : List va_E} (hd : 90 ≤ d) (hL : G.2.2.2.2.2.2.1 ≤ 2560) (hk : 5 * k + 5 ≤ G.2.2.2.2.2.2.1) (hLI : LI G k cs) (hG : ∀ cs, LI G (k + 1) cs → LZ G d k 576 [] cs) : LZ G d k 171 [] cs := by
  unfold LZ at hG ⊢
  refine z_aload_n dL_law_171 rfl rfl ?_
  refine z_aload_n dL_law_172 rfl rfl ?_
  refine z_iload_n dL_law_173 rfl rfl ?_
  refine z_iconst (v := Int32.ofInt 1) dL_law_174 rfl ?_
  refine i_iadd dL_law_175 ?_
  refine z_scd (sc_in (j := 1) hk hL (by decide)) dL_law_176 ?_
  refine kze (fun x1 qx1 gx1 => ?_)
  refine z_aload_n dL_law_177 rfl rfl ?_
  refine z_iload_n dL_law_178 rfl rfl ?_
  refine z_iconst (v := Int32.ofInt 2) dL_law_179 rfl ?_
  refine i_iadd dL_law_180 ?_
  refine z_scd (sc_in (j := 2) hk hL (by decide)) dL_law_181 ?_
  refine kze (fun x2 qx2 gx2 => ?_)
  refine z_aload_n dL_law_182 rfl rfl ?_
  refine z_iload_n dL_law_183 rfl rfl ?_
  refine z_iconst (v := Int32.ofInt 3) dL_law_184 rfl ?_
  refine i_iadd dL_law_185 ?_
  refine z_scd (sc_in (j := 3) hk hL (by decide)) dL_law_186 ?_
  refine kze (fun x3 qx3 gx3 => ?_)
  obtain ⟨τ, S, p, hW, hM, hI, h0, hp19, hn, hl⟩ := hLI
  have hX0 := kX10_set 3 (Nat.le_refl _) hW h0 gx1 gx2 gx3
  refine z_callV (As := [_, _, _]) eX10_set sX10_set lL_28 rfl dL_law_187 (hW.ob h0 (by decide)).choose_spec hX0 (Nat.le_trans (by decide) hd) rfl (Nat.le_of_ble_eq_true rfl) (fun r cs1 hp => ?_)
  obtain ⟨τ1, r4, rfl, gr4, hW1, hF1, _⟩ := hp
  have hLI : LI G (k + 1) cs1 := LI_r (LI_w hW1 hF1 hM hI h0 hp19 hn hl) (by omega)
  clear hX0 hW hM hI h0 hp19 hn hl
  refine z_st (st' := [.int (Int32.ofInt r4)]) rfl ?_
  refine z_pop dL_law_190 rfl ?_
  refine z_aload_n dL_law_191 rfl rfl ?_
  refine z_aload_n dL_law_192 rfl rfl ?_
  refine z_iload_n dL_law_193 rfl rfl ?_
  refine z_iconst (v := Int32.ofInt 1) dL_law_194 rfl ?_
  refine i_iadd dL_law_195 ?_
  refine z_scd (sc_in (j := 1) hk hL (by decide)) dL_law_196 ?_
  refine kze (fun x5 qx5 gx5 => ?_)
  refine z_aload_n dL_law_197 rfl rfl ?_
  refine z_iload_n dL_law_198 rfl rfl ?_
  refine z_iconst (v := Int32.ofInt 2) dL_law_199 rfl ?_
  refine i_iadd dL_law_200 ?_
  refine z_scd (sc_in (j := 2) hk hL (by decide)) dL_law_201 ?_
  refine kze (fun x6 qx6 gx6 => ?_)
  refine z_aload_n dL_law_202 rfl rfl ?_
  refine z_iload_n dL_law_203 rfl rfl ?_
  refine z_iconst (v := Int32.ofInt 3) dL_law_204 rfl ?_
  refine i_iadd dL_law_205 ?_
  refine z_scd (sc_in (j := 3) hk hL (by decide)) dL_law_206 ?_
  refine kze (fun x7 qx7 gx7 => ?_)
  obtain ⟨τ, S, p, hW, hM, hI, h0, hp19, hn, hl⟩ := hLI
  have hX0 := lX11_set 2 (Nat.le_refl _) (Jc_stb _) shM_is hM.toJ gx5 gx6 gx7 (mU_set hM.toJ hI)
  refine z_callV (As := [_, _, _]) eX11_set sX11_set lL_32 rfl dL_law_207 (hM.1 _ _ shM_is.1) hX0 (Nat.le_trans (by decide) hd) rfl (Nat.le_of_ble_eq_true rfl) (fun r cs2 hp => ?_)
  obtain ⟨r8, S', rfl, ⟨hI', h19⟩, hM'⟩ := hp
  have hLI : LI G (k + 1) cs2 := LI_m hW hM' hI' h0 (h19.trans hp19) hn hl
  refine z_st (st' := [.int (Int32.ofInt r8)]) rfl ?_
  refine z_pop dL_law_210 rfl ?_
  refine z_goto (tgt := 576) dL_law_211 (by decide) ?_
  exact hG _ hLI
set_option maxRecDepth 100000 in
set_option maxHeartbeats 4000000 in
theorem law_text {G : xG} {d k : Nat} {cs : List va_E} (hd : 90 ≤ d) (hL : G.2.2.2.2.2.2.1 ≤ 2560) (hk : 5 * k + 5 ≤ G.2.2.2.2.2.2.1) (hLI : LI G k cs) (hG : ∀ cs, LI G (k + 1) cs → LZ G d k 576 [] cs) : LZ G d k 214 [] cs := by
  unfold LZ at hG ⊢
  refine z_aload_n dL_law_214 rfl rfl ?_
  refine z_aload_n dL_law_215 rfl rfl ?_
  refine z_iload_n dL_law_216 rfl rfl ?_
  refine z_iconst (v := Int32.ofInt 1) dL_law_217 rfl ?_
  refine i_iadd dL_law_218 ?_
  refine z_scd (sc_in (j := 1) hk hL (by decide)) dL_law_219 ?_
  refine kze (fun x1 qx1 gx1 => ?_)
  refine z_aload_n dL_law_220 rfl rfl ?_
  refine z_iload_n dL_law_221 rfl rfl ?_
  refine z_iconst (v := Int32.ofInt 2) dL_law_222 rfl ?_
  refine i_iadd dL_law_223 ?_
  refine z_scd (sc_in (j := 2) hk hL (by decide)) dL_law_224 ?_
  refine kze (fun x2 qx2 gx2 => ?_)
  obtain ⟨τ, S, p, hW, hM, hI, h0, hp19, hn, hl⟩ := hLI
  have hX0 := kX10_text 3 (Nat.le_refl _) hW h0 gx1 gx2
  refine z_callV (As := [_, _]) eX10_text sX10_text lL_33 rfl dL_law_225 (hW.ob h0 (by decide)).choose_spec hX0 (Nat.le_trans (by decide) hd) rfl (Nat.le_of_ble_eq_true rfl) (fun r cs1 hp => ?_)
  obtain ⟨τ1, r3, rfl, gr3, hW1, hF1, _⟩ := hp
  have hLI : LI G (k + 1) cs1 := LI_r (LI_w hW1 hF1 hM hI h0 hp19 hn hl) (by omega)
  clear hX0 hW hM hI h0 hp19 hn hl
  refine z_st (st' := [.int (Int32.ofInt r3)]) rfl ?_
  refine z_pop dL_law_228 rfl ?_
  refine z_aload_n dL_law_229 rfl rfl ?_
  refine z_aload_n dL_law_230 rfl rfl ?_
  refine z_iload_n dL_law_231 rfl rfl ?_
  refine z_iconst (v := Int32.ofInt 1) dL_law_232 rfl ?_
  refine i_iadd dL_law_233 ?_
  refine z_scd (sc_in (j := 1) hk hL (by decide)) dL_law_234 ?_
  refine kze (fun x4 qx4 gx4 => ?_)
  refine z_aload_n dL_law_235 rfl rfl ?_
  refine z_iload_n dL_law_236 rfl rfl ?_
  refine z_iconst (v := Int32.ofInt 2) dL_law_237 rfl ?_
  refine i_iadd dL_law_238 ?_
  refine z_scd (sc_in (j := 2) hk hL (by decide)) dL_law_239 ?_
  refine kze (fun x5 qx5 gx5 => ?_)
  obtain ⟨τ, S, p, hW, hM, hI, h0, hp19, hn, hl⟩ := hLI
  have hX0 := lX11_text 2 (Nat.le_refl _) (Jc_stb _) shM_is hM.toJ gx4 gx5 (mU_text hM.toJ hI)
  refine z_callV (As := [_, _]) eX11_text sX11_text lL_37 rfl dL_law_240 (hM.1 _ _ shM_is.1) hX0 (Nat.le_trans (by decide) hd) rfl (Nat.le_of_ble_eq_true rfl) (fun r cs2 hp => ?_)
  obtain ⟨r6, S', rfl, ⟨hI', h19⟩, hM'⟩ := hp
  have hLI : LI G (k + 1) cs2 := LI_m hW hM' hI' h0 (h19.trans hp19) hn hl
  refine z_st (st' := [.int (Int32.ofInt r6)]) rfl ?_
  refine z_pop dL_law_243 rfl ?_
  refine z_goto (tgt := 576) dL_law_244 (by decide) ?_
  exact hG _ hLI
set_option maxRecDepth 100000 in
set_option maxHeartbeats 4000000 in
theorem law_add {G : xG} {d k : Nat} {cs : List va_E} (hd : 90 ≤ d) (hL : G.2.2.2.2.2.2.1 ≤ 2560) (hk : 5 * k + 5 ≤ G.2.2.2.2.2.2.1) (hLI : LI G k cs) (hG : ∀ cs, LI G (k + 1) cs → LZ G d k 576 [] cs) : LZ G d k 247 [] cs := by
  unfold LZ at hG ⊢
  refine z_aload_n dL_law_247 rfl rfl ?_
  refine z_aload_n dL_law_248 rfl rfl ?_
  refine z_iload_n dL_law_249 rfl rfl ?_
  refine z_iconst (v := Int32.ofInt 1) dL_law_250 rfl ?_
  refine i_iadd dL_law_251 ?_
  refine z_scd (sc_in (j := 1) hk hL (by decide)) dL_law_252 ?_
  refine kze (fun x1 qx1 gx1 => ?_)
  refine z_aload_n dL_law_253 rfl rfl ?_
  refine z_iload_n dL_law_254 rfl rfl ?_
  refine z_iconst (v := Int32.ofInt 2) dL_law_255 rfl ?_
  refine i_iadd dL_law_256 ?_
  refine z_scd (sc_in (j := 2) hk hL (by decide)) dL_law_257 ?_
  refine kze (fun x2 qx2 gx2 => ?_)
  refine z_aload_n dL_law_258 rfl rfl ?_
  refine z_iload_n dL_law_259 rfl rfl ?_
  refine z_iconst (v := Int32.ofInt 3) dL_law_260 rfl ?_
  refine i_iadd dL_law_261 ?_
  refine z_scd (sc_in (j := 3) hk hL (by decide)) dL_law_262 ?_
  refine kze (fun x3 qx3 gx3 => ?_)
  obtain ⟨τ, S, p, hW, hM, hI, h0, hp19, hn, hl⟩ := hLI
  have hX0 := kX10_add 3 (Nat.le_refl _) hW h0 gx1 gx2 gx3
  refine z_callV (As := [_, _, _]) eX10_add sX10_add lL_38 rfl dL_law_263 (hW.ob h0 (by decide)).choose_spec hX0 (Nat.le_trans (by decide) hd) rfl (Nat.le_of_ble_eq_true rfl) (fun r cs1 hp => ?_)
  obtain ⟨τ1, r4, rfl, gr4, hW1, hF1, _⟩ := hp
  have hLI : LI G (k + 1) cs1 := LI_r (LI_w hW1 hF1 hM hI h0 hp19 hn hl) (by omega)
  clear hX0 hW hM hI h0 hp19 hn hl
  refine z_st (st' := [.int (Int32.ofInt r4)]) rfl ?_
  refine z_pop dL_law_266 rfl ?_
  refine z_aload_n dL_law_267 rfl rfl ?_
  refine z_aload_n dL_law_268 rfl rfl ?_
  refine z_iload_n dL_law_269 rfl rfl ?_
  refine z_iconst (v := Int32.ofInt 1) dL_law_270 rfl ?_
  refine i_iadd dL_law_271 ?_
  refine z_scd (sc_in (j := 1) hk hL (by decide)) dL_law_272 ?_
  refine kze (fun x5 qx5 gx5 => ?_)
  refine z_aload_n dL_law_273 rfl rfl ?_
  refine z_iload_n dL_law_274 rfl rfl ?_
  refine z_iconst (v := Int32.ofInt 2) dL_law_275 rfl ?_
  refine i_iadd dL_law_276 ?_
  refine z_scd (sc_in (j := 2) hk hL (by decide)) dL_law_277 ?_
  refine kze (fun x6 qx6 gx6 => ?_)
  refine z_aload_n dL_law_278 rfl rfl ?_
  refine z_iload_n dL_law_279 rfl rfl ?_
  refine z_iconst (v := Int32.ofInt 3) dL_law_280 rfl ?_
  refine i_iadd dL_law_281 ?_
  refine z_scd (sc_in (j := 3) hk hL (by decide)) dL_law_282 ?_
  refine kze (fun x7 qx7 gx7 => ?_)
  obtain ⟨τ, S, p, hW, hM, hI, h0, hp19, hn, hl⟩ := hLI
  have hX0 := lX11_add 2 (Nat.le_refl _) (Jc_stb _) shM_is hM.toJ gx5 gx6 gx7 (mU_add hM.toJ hI)
  refine z_callV (As := [_, _, _]) eX11_add sX11_add lL_42 rfl dL_law_283 (hM.1 _ _ shM_is.1) hX0 (Nat.le_trans (by decide) hd) rfl (Nat.le_of_ble_eq_true rfl) (fun r cs2 hp => ?_)
  obtain ⟨r8, S', rfl, ⟨hI', h19⟩, hM'⟩ := hp
  have hLI : LI G (k + 1) cs2 := LI_m hW hM' hI' h0 (h19.trans hp19) hn hl
  refine z_st (st' := [.int (Int32.ofInt r8)]) rfl ?_
  refine z_pop dL_law_286 rfl ?_
  refine z_goto (tgt := 576) dL_law_287 (by decide) ?_
  exact hG _ hLI
set_option maxRecDepth 100000 in
set_option maxHeartbeats 4000000 in
theorem law_limit {G : xG} {d k : Nat} {cs : List va_E} (hd : 90 ≤ d) (hL : G.2.2.2.2.2.2.1 ≤ 2560) (hk : 5 * k + 5 ≤ G.2.2.2.2.2.2.1) (hLI : LI G k cs) (hG : ∀ cs, LI G (k + 1) cs → LZ G d k 576 [] cs) : LZ G d k 290 [] cs := by
  unfold LZ at hG ⊢
  refine z_aload_n dL_law_290 rfl rfl ?_
  refine z_aload_n dL_law_291 rfl rfl ?_
  refine z_iload_n dL_law_292 rfl rfl ?_
  refine z_iconst (v := Int32.ofInt 1) dL_law_293 rfl ?_
  refine i_iadd dL_law_294 ?_
  refine z_scd (sc_in (j := 1) hk hL (by decide)) dL_law_295 ?_
  refine kze (fun x1 qx1 gx1 => ?_)
  obtain ⟨τ, S, p, hW, hM, hI, h0, hp19, hn, hl⟩ := hLI
  have hX0 := kX10_limit 0 hW h0 gx1
  refine z_callV (As := [_]) eX10_limit sX10_limit lL_43 rfl dL_law_296 (hW.ob h0 (by decide)).choose_spec hX0 (Nat.le_trans (by decide) hd) rfl (Nat.le_of_ble_eq_true rfl) (fun r cs1 hp => ?_)
  obtain ⟨τ1, r2, q, rfl, gr2, hW1, h01, hlen, hfr, hlim⟩ := hp
  have hM1 : Wd G shM mT (fun _ _ => True) S cs1 := ⟨fun a x h => by rw [(hfr a (by have := shM_s h; omega)).1]; exact hM.1 a x h, hM.2.1, trivial⟩
  have hn1 : ∀ a, 54 ≤ a → a < 107 → τ1 a = none := fun a q1 q2 => by rw [(hfr a (by omega)).2]; exact hn a q1 q2
  have hl1 : 107 ≤ cs1.length := by omega
  refine z_st (st' := [.int (Int32.ofInt r2)]) rfl ?_
  refine z_aload_n dL_law_299 rfl rfl ?_
  refine z_aload_n dL_law_300 rfl rfl ?_
  refine z_iload_n dL_law_301 rfl rfl ?_
  refine z_iconst (v := Int32.ofInt 1) dL_law_302 rfl ?_
  refine i_iadd dL_law_303 ?_
  refine z_scd (sc_in (j := 1) hk hL (by decide)) dL_law_304 ?_
  refine kze (fun x3 qx3 gx3 => ?_)
  have hX0 := lX11_limit 1 (Nat.le_refl _) (Jc_stb _) shM_is hM1.toJ gx3 (mU_limit hM1.toJ hI)
  refine z_callV (As := [_]) eX11_limit sX11_limit lL_46 rfl dL_law_305 (hM1.1 _ _ shM_is.1) hX0 (Nat.le_trans (by decide) hd) rfl (Nat.le_of_ble_eq_true rfl) (fun r cs2 hp => ?_)
  obtain ⟨r4, S', rfl, ⟨hI', hlim2⟩, hM'⟩ := hp
  have heq : r2 = r4 ∧ S'.1 54 19 = (q : Int) := by omega
  have gr4 : rng r4 := by rw [← heq.1]; exact gr2
  have hLI : LI G (k + 1) cs2 := LI_r (LI_m hW1 hM' hI' h01 heq.2 hn1 hl1) (by omega)
  refine z_st (st' := [.int (Int32.ofInt r4), .int (Int32.ofInt r2)]) rfl ?_
  refine i_icmp_eq (tgt := 576) dL_law_308 (by decide) gr2 gr4 (fun h5 => ?_) (fun h5 => ?_)
  · exact hG _ hLI
  · exact absurd (by omega) h5
set_option maxRecDepth 100000 in
set_option maxHeartbeats 4000000 in
theorem law_write {G : xG} {d k : Nat} {cs : List va_E} (hd : 90 ≤ d) (hL : G.2.2.2.2.2.2.1 ≤ 2560) (hk : 5 * k + 5 ≤ G.2.2.2.2.2.2.1) (hLI : LI G k cs) (hG : ∀ cs, LI G (k + 1) cs → LZ G d k 576 [] cs) : LZ G d k 313 [] cs := by
  unfold LZ at hG ⊢
  refine z_aload_n dL_law_313 rfl rfl ?_
  refine z_aload_n dL_law_314 rfl rfl ?_
  refine z_iload_n dL_law_315 rfl rfl ?_
  refine z_iconst (v := Int32.ofInt 1) dL_law_316 rfl ?_
  refine i_iadd dL_law_317 ?_
  refine z_scd (sc_in (j := 1) hk hL (by decide)) dL_law_318 ?_
  refine kze (fun x1 qx1 gx1 => ?_)
  refine z_aload_n dL_law_319 rfl rfl ?_
  refine z_iload_n dL_law_320 rfl rfl ?_
  refine z_iconst (v := Int32.ofInt 2) dL_law_321 rfl ?_
  refine i_iadd dL_law_322 ?_
  refine z_scd (sc_in (j := 2) hk hL (by decide)) dL_law_323 ?_
  refine kze (fun x2 qx2 gx2 => ?_)
  obtain ⟨τ, S, p, hW, hM, hI, h0, hp19, hn, hl⟩ := hLI
  have hX0 := kX10_write 75 (Nat.le_refl _) hW h0 gx1 gx2 (B0_ok (by omega))
  refine z_callV (As := [_, _]) eX10_write sX10_write lL_47 rfl dL_law_324 (hW.ob h0 (by decide)).choose_spec hX0 (Nat.le_trans (by decide) hd) rfl (Nat.le_of_ble_eq_true rfl) (fun r cs1 hp => ?_)
  obtain ⟨τ1, r3, rfl, gr3, hW1, hF1, _⟩ := hp
  rw [← B0_s] at hW1
  have hLI : LI G (k + 1) cs1 := LI_w hW1 hF1 hM hI h0 hp19 hn hl
  clear hX0 hW hM hI h0 hp19 hn hl
  refine z_st (st' := [.int (Int32.ofInt r3)]) rfl ?_
  refine z_pop dL_law_327 rfl ?_
  refine z_aload_n dL_law_328 rfl rfl ?_
  refine z_aload_n dL_law_329 rfl rfl ?_
  refine z_iload_n dL_law_330 rfl rfl ?_
  refine z_iconst (v := Int32.ofInt 1) dL_law_331 rfl ?_
  refine i_iadd dL_law_332 ?_
  refine z_scd (sc_in (j := 1) hk hL (by decide)) dL_law_333 ?_
  refine kze (fun x4 qx4 gx4 => ?_)
  refine z_aload_n dL_law_334 rfl rfl ?_
  refine z_iload_n dL_law_335 rfl rfl ?_
  refine z_iconst (v := Int32.ofInt 2) dL_law_336 rfl ?_
  refine i_iadd dL_law_337 ?_
  refine z_scd (sc_in (j := 2) hk hL (by decide)) dL_law_338 ?_
  refine kze (fun x5 qx5 gx5 => ?_)
  obtain ⟨τ, S, p, hW, hM, hI, h0, hp19, hn, hl⟩ := hLI
  have hX0 := lX11_write 9 (Nat.le_refl _) (Jc_stb _) shM_is hM.toJ gx4 gx5 (mU_write hM.toJ hI)
  refine z_callV (As := [_, _]) eX11_write sX11_write lL_51 rfl dL_law_339 (hM.1 _ _ shM_is.1) hX0 (Nat.le_trans (by decide) hd) rfl (Nat.le_of_ble_eq_true rfl) (fun r cs2 hp => ?_)
  obtain ⟨r6, S', rfl, ⟨hI', h19⟩, hM'⟩ := hp
  have hLI : LI G (k + 1) cs2 := LI_m hW hM' hI' h0 (h19.trans hp19) hn hl
  refine z_st (st' := [.int (Int32.ofInt r6)]) rfl ?_
  refine z_pop dL_law_342 rfl ?_
  refine z_goto (tgt := 576) dL_law_343 (by decide) ?_
  exact hG _ hLI
set_option maxRecDepth 100000 in
set_option maxHeartbeats 4000000 in
theorem law_sign {G : xG} {d k : Nat} {cs : List va_E} (hd : 90 ≤ d) (hL : G.2.2.2.2.2.2.1 ≤ 2560) (hk : 5 * k + 5 ≤ G.2.2.2.2.2.2.1) (hLI : LI G k cs) (hG : ∀ cs, LI G (k + 1) cs → LZ G d k 576 [] cs) : LZ G d k 346 [] cs := by
  unfold LZ at hG ⊢
  refine z_aload_n dL_law_346 rfl rfl ?_
  refine z_aload_n dL_law_347 rfl rfl ?_
  refine z_iload_n dL_law_348 rfl rfl ?_
  refine z_iconst (v := Int32.ofInt 1) dL_law_349 rfl ?_
  refine i_iadd dL_law_350 ?_
  refine z_scd (sc_in (j := 1) hk hL (by decide)) dL_law_351 ?_
  refine kze (fun x1 qx1 gx1 => ?_)
  obtain ⟨τ, S, p, hW, hM, hI, h0, hp19, hn, hl⟩ := hLI
  have hX0 := kX10_sign 1 (Nat.le_refl _) hW h0 gx1
  refine z_callV (As := [_]) eX10_sign sX10_sign lL_52 rfl dL_law_352 (hW.ob h0 (by decide)).choose_spec hX0 (Nat.le_trans (by decide) hd) rfl (Nat.le_of_ble_eq_true rfl) (fun r cs1 hp => ?_)
  obtain ⟨hcs, r2, rfl, gr2, _⟩ := hp
  obtain rfl := hcs.symm
  have hLI : LI G (k + 1) cs := LI_r ⟨τ, S, p, hW, hM, hI, h0, hp19, hn, hl⟩ (by omega)
  clear hX0 hW hM hI h0 hp19 hn hl
  refine z_st (st' := [.int (Int32.ofInt r2)]) rfl ?_
  refine z_pop dL_law_355 rfl ?_
  refine z_aload_n dL_law_356 rfl rfl ?_
  refine z_aload_n dL_law_357 rfl rfl ?_
  refine z_iload_n dL_law_358 rfl rfl ?_
  refine z_iconst (v := Int32.ofInt 1) dL_law_359 rfl ?_
  refine i_iadd dL_law_360 ?_
  refine z_scd (sc_in (j := 1) hk hL (by decide)) dL_law_361 ?_
  refine kze (fun x3 qx3 gx3 => ?_)
  obtain ⟨τ, S, p, hW, hM, hI, h0, hp19, hn, hl⟩ := hLI
  have hX0 := lX11_sign 1 (Nat.le_refl _) (Jc_stb _) shM_is hM.toJ gx3 (mU_sign hM.toJ hI)
  refine z_callV (As := [_]) eX11_sign sX11_sign lL_55 rfl dL_law_362 (hM.1 _ _ shM_is.1) hX0 (Nat.le_trans (by decide) hd) rfl (Nat.le_of_ble_eq_true rfl) (fun r cs2 hp => ?_)
  obtain ⟨r4, S', rfl, ⟨hI', h19⟩, hM'⟩ := hp
  have hLI : LI G (k + 1) cs2 := LI_m hW hM' hI' h0 (h19.trans hp19) hn hl
  refine z_st (st' := [.int (Int32.ofInt r4)]) rfl ?_
  refine z_pop dL_law_365 rfl ?_
  refine z_goto (tgt := 576) dL_law_366 (by decide) ?_
  exact hG _ hLI
set_option maxRecDepth 100000 in
set_option maxHeartbeats 4000000 in
theorem law_take {G : xG} {d k : Nat} {cs : List va_E} (hd : 90 ≤ d) (hL : G.2.2.2.2.2.2.1 ≤ 2560) (hk : 5 * k + 5 ≤ G.2.2.2.2.2.2.1) (hLI : LI G k cs) (hG : ∀ cs, LI G (k + 1) cs → LZ G d k 576 [] cs) : LZ G d k 369 [] cs := by
  unfold LZ at hG ⊢
  refine z_aload_n dL_law_369 rfl rfl ?_
  obtain ⟨τ, S, p, hW, hM, hI, h0, hp19, hn, hl⟩ := hLI
  have hX0 := kX10_take 3 (Nat.le_refl _) hW h0 
  refine z_callV (As := []) eX10_take sX10_take lL_56 rfl dL_law_370 (hW.ob h0 (by decide)).choose_spec hX0 (Nat.le_trans (by decide) hd) rfl (Nat.le_of_ble_eq_true rfl) (fun r cs1 hp => ?_)
  obtain ⟨τ1, r1, rfl, gr1, hW1, hF1, _⟩ := hp
  have hLI : LI G (k + 1) cs1 := LI_r (LI_w hW1 hF1 hM hI h0 hp19 hn hl) (by omega)
  clear hX0 hW hM hI h0 hp19 hn hl
  refine z_st (st' := [.int (Int32.ofInt r1)]) rfl ?_
  refine z_pop dL_law_373 rfl ?_
  refine z_aload_n dL_law_374 rfl rfl ?_
  obtain ⟨τ, S, p, hW, hM, hI, h0, hp19, hn, hl⟩ := hLI
  have hX0 := lX11_take 0 (Nat.le_refl _) (Jc_stb _) shM_is hM.toJ  (mU_take hM.toJ hI)
  refine z_callV (As := []) eX11_take sX11_take lL_59 rfl dL_law_375 (hM.1 _ _ shM_is.1) hX0 (Nat.le_trans (by decide) hd) rfl (Nat.le_of_ble_eq_true rfl) (fun r cs2 hp => ?_)
  obtain ⟨r2, S', rfl, ⟨hI', h19⟩, hM'⟩ := hp
  have hLI : LI G (k + 1) cs2 := LI_m hW hM' hI' h0 (h19.trans hp19) hn hl
  refine z_st (st' := [.int (Int32.ofInt r2)]) rfl ?_
  refine z_pop dL_law_378 rfl ?_
  refine z_goto (tgt := 576) dL_law_379 (by decide) ?_
  exact hG _ hLI
set_option maxRecDepth 100000 in
set_option maxHeartbeats 4000000 in
theorem law_forbid {G : xG} {d k : Nat} {cs : List va_E} (hd : 90 ≤ d) (hL : G.2.2.2.2.2.2.1 ≤ 2560) (hk : 5 * k + 5 ≤ G.2.2.2.2.2.2.1) (hLI : LI G k cs) (hG : ∀ cs, LI G (k + 1) cs → LZ G d k 576 [] cs) : LZ G d k 382 [] cs := by
  unfold LZ at hG ⊢
  refine z_aload_n dL_law_382 rfl rfl ?_
  refine z_aload_n dL_law_383 rfl rfl ?_
  refine z_iload_n dL_law_384 rfl rfl ?_
  refine z_iconst (v := Int32.ofInt 1) dL_law_385 rfl ?_
  refine i_iadd dL_law_386 ?_
  refine z_scd (sc_in (j := 1) hk hL (by decide)) dL_law_387 ?_
  refine kze (fun x1 qx1 gx1 => ?_)
  refine z_aload_n dL_law_388 rfl rfl ?_
  refine z_iload_n dL_law_389 rfl rfl ?_
  refine z_iconst (v := Int32.ofInt 2) dL_law_390 rfl ?_
  refine i_iadd dL_law_391 ?_
  refine z_scd (sc_in (j := 2) hk hL (by decide)) dL_law_392 ?_
  refine kze (fun x2 qx2 gx2 => ?_)
  refine i_if_eq (tgt := 400) dL_law_393 (by decide) gx2 (fun h3 => ?_) (fun h3 => ?_)
  · refine z_iconst (v := Int32.ofInt 0) dL_law_400 rfl ?_
    obtain ⟨τ, S, p, hW, hM, hI, h0, hp19, hn, hl⟩ := hLI
    have hX0 := kX10_forbid 2 (Nat.le_refl _) hW h0 gx1 (show rng 0 from ⟨by decide, by decide⟩) ⟨by decide, by decide⟩
    refine z_callV (As := [_, _]) eX10_forbid sX10_forbid lL_60 rfl dL_law_401 (hW.ob h0 (by decide)).choose_spec hX0 (Nat.le_trans (by decide) hd) rfl (Nat.le_of_ble_eq_true rfl) (fun r cs1 hp => ?_)
    obtain ⟨τ1, r4, rfl, gr4, hW1, hF1, _⟩ := hp
    have hLI : LI G (k + 1) cs1 := LI_r (LI_w hW1 hF1 hM hI h0 hp19 hn hl) (by omega)
    clear hX0 hW hM hI h0 hp19 hn hl
    refine z_st (st' := [.int (Int32.ofInt r4)]) rfl ?_
    refine z_pop dL_law_404 rfl ?_
    refine z_aload_n dL_law_405 rfl rfl ?_
    refine z_aload_n dL_law_406 rfl rfl ?_
    refine z_iload_n dL_law_407 rfl rfl ?_
    refine z_iconst (v := Int32.ofInt 1) dL_law_408 rfl ?_
    refine i_iadd dL_law_409 ?_
    refine z_scd (sc_in (j := 1) hk hL (by decide)) dL_law_410 ?_
    refine kze (fun x5 qx5 gx5 => ?_)
    refine z_aload_n dL_law_411 rfl rfl ?_
    refine z_iload_n dL_law_412 rfl rfl ?_
    refine z_iconst (v := Int32.ofInt 2) dL_law_413 rfl ?_
    refine i_iadd dL_law_414 ?_
    refine z_scd (sc_in (j := 2) hk hL (by decide)) dL_law_415 ?_
    refine kze (fun x6 qx6 gx6 => ?_)
    refine i_if_eq (tgt := 423) dL_law_416 (by decide) gx6 (fun h7 => ?_) (fun h7 => ?_)
    · refine z_iconst (v := Int32.ofInt 0) dL_law_423 rfl ?_
      obtain ⟨τ, S, p, hW, hM, hI, h0, hp19, hn, hl⟩ := hLI
      have hX0 := lX11_forbid 1 (Nat.le_refl _) (Jc_stb _) shM_is hM.toJ gx5 (show rng 0 from ⟨by decide, by decide⟩) (mU_forbid ⟨by decide, by decide⟩ hM.toJ hI)
      refine z_callV (As := [_, _]) eX11_forbid sX11_forbid lL_64 rfl dL_law_424 (hM.1 _ _ shM_is.1) hX0 (Nat.le_trans (by decide) hd) rfl (Nat.le_of_ble_eq_true rfl) (fun r cs2 hp => ?_)
      obtain ⟨r8, S', rfl, ⟨hI', h19⟩, hM'⟩ := hp
      have hLI : LI G (k + 1) cs2 := LI_m hW hM' hI' h0 (h19.trans hp19) hn hl
      refine z_st (st' := [.int (Int32.ofInt r8)]) rfl ?_
      refine z_pop dL_law_427 rfl ?_
      refine z_goto (tgt := 576) dL_law_428 (by decide) ?_
      exact hG _ hLI
    · refine z_iconst (v := Int32.ofInt 1) dL_law_419 rfl ?_
      refine z_goto (tgt := 424) dL_law_420 (by decide) ?_
      obtain ⟨τ, S, p, hW, hM, hI, h0, hp19, hn, hl⟩ := hLI
      have hX0 := lX11_forbid 1 (Nat.le_refl _) (Jc_stb _) shM_is hM.toJ gx5 (show rng 1 from ⟨by decide, by decide⟩) (mU_forbid ⟨by decide, by decide⟩ hM.toJ hI)
      refine z_callV (As := [_, _]) eX11_forbid sX11_forbid lL_64 rfl dL_law_424 (hM.1 _ _ shM_is.1) hX0 (Nat.le_trans (by decide) hd) rfl (Nat.le_of_ble_eq_true rfl) (fun r cs2 hp => ?_)
      obtain ⟨r9, S', rfl, ⟨hI', h19⟩, hM'⟩ := hp
      have hLI : LI G (k + 1) cs2 := LI_m hW hM' hI' h0 (h19.trans hp19) hn hl
      refine z_st (st' := [.int (Int32.ofInt r9)]) rfl ?_
      refine z_pop dL_law_427 rfl ?_
      refine z_goto (tgt := 576) dL_law_428 (by decide) ?_
      exact hG _ hLI
  · refine z_iconst (v := Int32.ofInt 1) dL_law_396 rfl ?_
    refine z_goto (tgt := 401) dL_law_397 (by decide) ?_
    obtain ⟨τ, S, p, hW, hM, hI, h0, hp19, hn, hl⟩ := hLI
    have hX0 := kX10_forbid 2 (Nat.le_refl _) hW h0 gx1 (show rng 1 from ⟨by decide, by decide⟩) ⟨by decide, by decide⟩
    refine z_callV (As := [_, _]) eX10_forbid sX10_forbid lL_60 rfl dL_law_401 (hW.ob h0 (by decide)).choose_spec hX0 (Nat.le_trans (by decide) hd) rfl (Nat.le_of_ble_eq_true rfl) (fun r cs1 hp => ?_)
    obtain ⟨τ1, r10, rfl, gr10, hW1, hF1, _⟩ := hp
    have hLI : LI G (k + 1) cs1 := LI_r (LI_w hW1 hF1 hM hI h0 hp19 hn hl) (by omega)
    clear hX0 hW hM hI h0 hp19 hn hl
    refine z_st (st' := [.int (Int32.ofInt r10)]) rfl ?_
    refine z_pop dL_law_404 rfl ?_
    refine z_aload_n dL_law_405 rfl rfl ?_
    refine z_aload_n dL_law_406 rfl rfl ?_
    refine z_iload_n dL_law_407 rfl rfl ?_
    refine z_iconst (v := Int32.ofInt 1) dL_law_408 rfl ?_
    refine i_iadd dL_law_409 ?_
    refine z_scd (sc_in (j := 1) hk hL (by decide)) dL_law_410 ?_
    refine kze (fun x11 qx11 gx11 => ?_)
    refine z_aload_n dL_law_411 rfl rfl ?_
    refine z_iload_n dL_law_412 rfl rfl ?_
    refine z_iconst (v := Int32.ofInt 2) dL_law_413 rfl ?_
    refine i_iadd dL_law_414 ?_
    refine z_scd (sc_in (j := 2) hk hL (by decide)) dL_law_415 ?_
    refine kze (fun x12 qx12 gx12 => ?_)
    refine i_if_eq (tgt := 423) dL_law_416 (by decide) gx12 (fun h13 => ?_) (fun h13 => ?_)
    · refine z_iconst (v := Int32.ofInt 0) dL_law_423 rfl ?_
      obtain ⟨τ, S, p, hW, hM, hI, h0, hp19, hn, hl⟩ := hLI
      have hX0 := lX11_forbid 1 (Nat.le_refl _) (Jc_stb _) shM_is hM.toJ gx11 (show rng 0 from ⟨by decide, by decide⟩) (mU_forbid ⟨by decide, by decide⟩ hM.toJ hI)
      refine z_callV (As := [_, _]) eX11_forbid sX11_forbid lL_64 rfl dL_law_424 (hM.1 _ _ shM_is.1) hX0 (Nat.le_trans (by decide) hd) rfl (Nat.le_of_ble_eq_true rfl) (fun r cs2 hp => ?_)
      obtain ⟨r14, S', rfl, ⟨hI', h19⟩, hM'⟩ := hp
      have hLI : LI G (k + 1) cs2 := LI_m hW hM' hI' h0 (h19.trans hp19) hn hl
      refine z_st (st' := [.int (Int32.ofInt r14)]) rfl ?_
      refine z_pop dL_law_427 rfl ?_
      refine z_goto (tgt := 576) dL_law_428 (by decide) ?_
      exact hG _ hLI
    · refine z_iconst (v := Int32.ofInt 1) dL_law_419 rfl ?_
      refine z_goto (tgt := 424) dL_law_420 (by decide) ?_
      obtain ⟨τ, S, p, hW, hM, hI, h0, hp19, hn, hl⟩ := hLI
      have hX0 := lX11_forbid 1 (Nat.le_refl _) (Jc_stb _) shM_is hM.toJ gx11 (show rng 1 from ⟨by decide, by decide⟩) (mU_forbid ⟨by decide, by decide⟩ hM.toJ hI)
      refine z_callV (As := [_, _]) eX11_forbid sX11_forbid lL_64 rfl dL_law_424 (hM.1 _ _ shM_is.1) hX0 (Nat.le_trans (by decide) hd) rfl (Nat.le_of_ble_eq_true rfl) (fun r cs2 hp => ?_)
      obtain ⟨r15, S', rfl, ⟨hI', h19⟩, hM'⟩ := hp
      have hLI : LI G (k + 1) cs2 := LI_m hW hM' hI' h0 (h19.trans hp19) hn hl
      refine z_st (st' := [.int (Int32.ofInt r15)]) rfl ?_
      refine z_pop dL_law_427 rfl ?_
      refine z_goto (tgt := 576) dL_law_428 (by decide) ?_
      exact hG _ hLI
set_option maxRecDepth 100000 in
set_option maxHeartbeats 4000000 in
theorem law_read {G : xG} {d k : Nat} {cs : List va_E} (hd : 90 ≤ d) (hL : G.2.2.2.2.2.2.1 ≤ 2560) (hk : 5 * k + 5 ≤ G.2.2.2.2.2.2.1) (hLI : LI G k cs) (hG : ∀ cs, LI G (k + 1) cs → LZ G d k 576 [] cs) : LZ G d k 431 [] cs := by
  unfold LZ at hG ⊢
  refine z_aload_n dL_law_431 rfl rfl ?_
  obtain ⟨τ, S, p, hW, hM, hI, h0, hp19, hn, hl⟩ := hLI
  have hX0 := kX10_read 14 (Nat.le_refl _) hW h0  (B0_ok (by omega))
  refine z_callV (As := []) eX10_read sX10_read lL_65 rfl dL_law_432 (hW.ob h0 (by decide)).choose_spec hX0 (Nat.le_trans (by decide) hd) rfl (Nat.le_of_ble_eq_true rfl) (fun r cs1 hp => ?_)
  obtain ⟨τ1, r1, rfl, gr1, hW1, hF1, _⟩ := hp
  rw [← B0_s] at hW1
  have hLI : LI G (k + 1) cs1 := LI_w hW1 hF1 hM hI h0 hp19 hn hl
  clear hX0 hW hM hI h0 hp19 hn hl
  refine z_st (st' := [.int (Int32.ofInt r1)]) rfl ?_
  refine z_pop dL_law_435 rfl ?_
  refine z_aload_n dL_law_436 rfl rfl ?_
  obtain ⟨τ, S, p, hW, hM, hI, h0, hp19, hn, hl⟩ := hLI
  have hX0 := lX11_read 8 (Nat.le_refl _) (Jc_stb _) shM_is hM.toJ  (mU_read hM.toJ hI)
  refine z_callV (As := []) eX11_read sX11_read lL_68 rfl dL_law_437 (hM.1 _ _ shM_is.1) hX0 (Nat.le_trans (by decide) hd) rfl (Nat.le_of_ble_eq_true rfl) (fun r cs2 hp => ?_)
  obtain ⟨r2, S', rfl, ⟨hI', h19⟩, hM'⟩ := hp
  have hLI : LI G (k + 1) cs2 := LI_m hW hM' hI' h0 (h19.trans hp19) hn hl
  refine z_st (st' := [.int (Int32.ofInt r2)]) rfl ?_
  refine z_pop dL_law_440 rfl ?_
  refine z_goto (tgt := 576) dL_law_441 (by decide) ?_
  exact hG _ hLI
set_option maxRecDepth 100000 in
set_option maxHeartbeats 4000000 in
theorem law_same {G : xG} {d k : Nat} {cs : List va_E} (hd : 90 ≤ d) (hL : G.2.2.2.2.2.2.1 ≤ 2560) (hk : 5 * k + 5 ≤ G.2.2.2.2.2.2.1) (hLI : LI G k cs) (hG : ∀ cs, LI G (k + 1) cs → LZ G d k 576 [] cs) : LZ G d k 444 [] cs := by
  unfold LZ at hG ⊢
  refine z_aload_n dL_law_444 rfl rfl ?_
  refine z_aload_n dL_law_445 rfl rfl ?_
  refine z_iload_n dL_law_446 rfl rfl ?_
  refine z_iconst (v := Int32.ofInt 1) dL_law_447 rfl ?_
  refine i_iadd dL_law_448 ?_
  refine z_scd (sc_in (j := 1) hk hL (by decide)) dL_law_449 ?_
  refine kze (fun x1 qx1 gx1 => ?_)
  obtain ⟨τ, S, p, hW, hM, hI, h0, hp19, hn, hl⟩ := hLI
  have hX0 := kX10_same 8 (Nat.le_refl _) hW h0 gx1 (B0_ok (by omega))
  refine z_callV (As := [_]) eX10_same sX10_same lL_69 rfl dL_law_450 (hW.ob h0 (by decide)).choose_spec hX0 (Nat.le_trans (by decide) hd) rfl (Nat.le_of_ble_eq_true rfl) (fun r cs1 hp => ?_)
  obtain ⟨τ1, r2, rfl, gr2, hW1, hF1, _⟩ := hp
  rw [← B0_s] at hW1
  have hLI : LI G (k + 1) cs1 := LI_w hW1 hF1 hM hI h0 hp19 hn hl
  clear hX0 hW hM hI h0 hp19 hn hl
  refine z_st (st' := [.int (Int32.ofInt r2)]) rfl ?_
  refine z_pop dL_law_453 rfl ?_
  refine z_aload_n dL_law_454 rfl rfl ?_
  refine z_aload_n dL_law_455 rfl rfl ?_
  refine z_iload_n dL_law_456 rfl rfl ?_
  refine z_iconst (v := Int32.ofInt 1) dL_law_457 rfl ?_
  refine i_iadd dL_law_458 ?_
  refine z_scd (sc_in (j := 1) hk hL (by decide)) dL_law_459 ?_
  refine kze (fun x3 qx3 gx3 => ?_)
  obtain ⟨τ, S, p, hW, hM, hI, h0, hp19, hn, hl⟩ := hLI
  have hX0 := lX11_same 2 (Nat.le_refl _) (Jc_stb _) shM_is hM.toJ gx3 (mU_same hM.toJ hI)
  refine z_callV (As := [_]) eX11_same sX11_same lL_72 rfl dL_law_460 (hM.1 _ _ shM_is.1) hX0 (Nat.le_trans (by decide) hd) rfl (Nat.le_of_ble_eq_true rfl) (fun r cs2 hp => ?_)
  obtain ⟨r4, S', rfl, ⟨hI', h19⟩, hM'⟩ := hp
  have hLI : LI G (k + 1) cs2 := LI_m hW hM' hI' h0 (h19.trans hp19) hn hl
  refine z_st (st' := [.int (Int32.ofInt r4)]) rfl ?_
  refine z_pop dL_law_463 rfl ?_
  refine z_goto (tgt := 576) dL_law_464 (by decide) ?_
  exact hG _ hLI
set_option maxRecDepth 100000 in
set_option maxHeartbeats 4000000 in
theorem law_kind {G : xG} {d k : Nat} {cs : List va_E} (hd : 90 ≤ d) (hL : G.2.2.2.2.2.2.1 ≤ 2560) (hk : 5 * k + 5 ≤ G.2.2.2.2.2.2.1) (hLI : LI G k cs) (hG : ∀ cs, LI G (k + 1) cs → LZ G d k 576 [] cs) : LZ G d k 467 [] cs := by
  unfold LZ at hG ⊢
  refine z_aload_n dL_law_467 rfl rfl ?_
  refine z_aload_n dL_law_468 rfl rfl ?_
  refine z_iload_n dL_law_469 rfl rfl ?_
  refine z_iconst (v := Int32.ofInt 1) dL_law_470 rfl ?_
  refine i_iadd dL_law_471 ?_
  refine z_scd (sc_in (j := 1) hk hL (by decide)) dL_law_472 ?_
  refine kze (fun x1 qx1 gx1 => ?_)
  refine z_aload_n dL_law_473 rfl rfl ?_
  refine z_iload_n dL_law_474 rfl rfl ?_
  refine z_iconst (v := Int32.ofInt 2) dL_law_475 rfl ?_
  refine i_iadd dL_law_476 ?_
  refine z_scd (sc_in (j := 2) hk hL (by decide)) dL_law_477 ?_
  refine kze (fun x2 qx2 gx2 => ?_)
  obtain ⟨τ, S, p, hW, hM, hI, h0, hp19, hn, hl⟩ := hLI
  have hX0 := kX10_kind 2 (Nat.le_refl _) hW h0 gx1 gx2
  refine z_callV (As := [_, _]) eX10_kind sX10_kind lL_73 rfl dL_law_478 (hW.ob h0 (by decide)).choose_spec hX0 (Nat.le_trans (by decide) hd) rfl (Nat.le_of_ble_eq_true rfl) (fun r cs1 hp => ?_)
  obtain ⟨hcs, r3, rfl, gr3, _⟩ := hp
  obtain rfl := hcs.symm
  have hLI : LI G (k + 1) cs := LI_r ⟨τ, S, p, hW, hM, hI, h0, hp19, hn, hl⟩ (by omega)
  clear hX0 hW hM hI h0 hp19 hn hl
  refine z_st (st' := [.int (Int32.ofInt r3)]) rfl ?_
  refine z_pop dL_law_481 rfl ?_
  refine z_aload_n dL_law_482 rfl rfl ?_
  refine z_aload_n dL_law_483 rfl rfl ?_
  refine z_iload_n dL_law_484 rfl rfl ?_
  refine z_iconst (v := Int32.ofInt 1) dL_law_485 rfl ?_
  refine i_iadd dL_law_486 ?_
  refine z_scd (sc_in (j := 1) hk hL (by decide)) dL_law_487 ?_
  refine kze (fun x4 qx4 gx4 => ?_)
  refine z_aload_n dL_law_488 rfl rfl ?_
  refine z_iload_n dL_law_489 rfl rfl ?_
  refine z_iconst (v := Int32.ofInt 2) dL_law_490 rfl ?_
  refine i_iadd dL_law_491 ?_
  refine z_scd (sc_in (j := 2) hk hL (by decide)) dL_law_492 ?_
  refine kze (fun x5 qx5 gx5 => ?_)
  obtain ⟨τ, S, p, hW, hM, hI, h0, hp19, hn, hl⟩ := hLI
  have hX0 := lX11_kind 1 (Nat.le_refl _) (Jc_stb _) shM_is hM.toJ gx4 gx5 (mU_kind hM.toJ hI)
  refine z_callV (As := [_, _]) eX11_kind sX11_kind lL_76 rfl dL_law_493 (hM.1 _ _ shM_is.1) hX0 (Nat.le_trans (by decide) hd) rfl (Nat.le_of_ble_eq_true rfl) (fun r cs2 hp => ?_)
  obtain ⟨r6, S', rfl, ⟨hI', h19⟩, hM'⟩ := hp
  have hLI : LI G (k + 1) cs2 := LI_m hW hM' hI' h0 (h19.trans hp19) hn hl
  refine z_st (st' := [.int (Int32.ofInt r6)]) rfl ?_
  refine z_pop dL_law_496 rfl ?_
  refine z_goto (tgt := 576) dL_law_497 (by decide) ?_
  exact hG _ hLI
set_option maxRecDepth 100000 in
set_option maxHeartbeats 4000000 in
theorem law_value {G : xG} {d k : Nat} {cs : List va_E} (hd : 90 ≤ d) (hL : G.2.2.2.2.2.2.1 ≤ 2560) (hk : 5 * k + 5 ≤ G.2.2.2.2.2.2.1) (hLI : LI G k cs) (hG : ∀ cs, LI G (k + 1) cs → LZ G d k 576 [] cs) : LZ G d k 500 [] cs := by
  unfold LZ at hG ⊢
  refine z_aload_n dL_law_500 rfl rfl ?_
  refine z_aload_n dL_law_501 rfl rfl ?_
  refine z_iload_n dL_law_502 rfl rfl ?_
  refine z_iconst (v := Int32.ofInt 1) dL_law_503 rfl ?_
  refine i_iadd dL_law_504 ?_
  refine z_scd (sc_in (j := 1) hk hL (by decide)) dL_law_505 ?_
  refine kze (fun x1 qx1 gx1 => ?_)
  refine z_aload_n dL_law_506 rfl rfl ?_
  refine z_iload_n dL_law_507 rfl rfl ?_
  refine z_iconst (v := Int32.ofInt 2) dL_law_508 rfl ?_
  refine i_iadd dL_law_509 ?_
  refine z_scd (sc_in (j := 2) hk hL (by decide)) dL_law_510 ?_
  refine kze (fun x2 qx2 gx2 => ?_)
  refine z_aload_n dL_law_511 rfl rfl ?_
  refine z_iload_n dL_law_512 rfl rfl ?_
  refine z_iconst (v := Int32.ofInt 3) dL_law_513 rfl ?_
  refine i_iadd dL_law_514 ?_
  refine z_scd (sc_in (j := 3) hk hL (by decide)) dL_law_515 ?_
  refine kze (fun x3 qx3 gx3 => ?_)
  refine z_aload_n dL_law_516 rfl rfl ?_
  refine z_iload_n dL_law_517 rfl rfl ?_
  refine z_iconst (v := Int32.ofInt 4) dL_law_518 rfl ?_
  refine i_iadd dL_law_519 ?_
  refine z_scd (sc_in (j := 4) hk hL (by decide)) dL_law_520 ?_
  refine kze (fun x4 qx4 gx4 => ?_)
  obtain ⟨τ, S, p, hW, hM, hI, h0, hp19, hn, hl⟩ := hLI
  have hX0 := kX10_value 3 (Nat.le_refl _) hW h0 gx1 gx2 gx3 gx4
  refine z_callV (As := [_, _, _, _]) eX10_value sX10_value lL_77 rfl dL_law_521 (hW.ob h0 (by decide)).choose_spec hX0 (Nat.le_trans (by decide) hd) rfl (Nat.le_of_ble_eq_true rfl) (fun r cs1 hp => ?_)
  obtain ⟨hcs, r5, rfl, gr5, _⟩ := hp
  obtain rfl := hcs.symm
  have hLI : LI G (k + 1) cs := LI_r ⟨τ, S, p, hW, hM, hI, h0, hp19, hn, hl⟩ (by omega)
  clear hX0 hW hM hI h0 hp19 hn hl
  refine z_st (st' := [.int (Int32.ofInt r5)]) rfl ?_
  refine z_pop dL_law_524 rfl ?_
  refine z_aload_n dL_law_525 rfl rfl ?_
  refine z_aload_n dL_law_526 rfl rfl ?_
  refine z_iload_n dL_law_527 rfl rfl ?_
  refine z_iconst (v := Int32.ofInt 1) dL_law_528 rfl ?_
  refine i_iadd dL_law_529 ?_
  refine z_scd (sc_in (j := 1) hk hL (by decide)) dL_law_530 ?_
  refine kze (fun x6 qx6 gx6 => ?_)
  refine z_aload_n dL_law_531 rfl rfl ?_
  refine z_iload_n dL_law_532 rfl rfl ?_
  refine z_iconst (v := Int32.ofInt 2) dL_law_533 rfl ?_
  refine i_iadd dL_law_534 ?_
  refine z_scd (sc_in (j := 2) hk hL (by decide)) dL_law_535 ?_
  refine kze (fun x7 qx7 gx7 => ?_)
  refine z_aload_n dL_law_536 rfl rfl ?_
  refine z_iload_n dL_law_537 rfl rfl ?_
  refine z_iconst (v := Int32.ofInt 3) dL_law_538 rfl ?_
  refine i_iadd dL_law_539 ?_
  refine z_scd (sc_in (j := 3) hk hL (by decide)) dL_law_540 ?_
  refine kze (fun x8 qx8 gx8 => ?_)
  refine z_aload_n dL_law_541 rfl rfl ?_
  refine z_iload_n dL_law_542 rfl rfl ?_
  refine z_iconst (v := Int32.ofInt 4) dL_law_543 rfl ?_
  refine i_iadd dL_law_544 ?_
  refine z_scd (sc_in (j := 4) hk hL (by decide)) dL_law_545 ?_
  refine kze (fun x9 qx9 gx9 => ?_)
  obtain ⟨τ, S, p, hW, hM, hI, h0, hp19, hn, hl⟩ := hLI
  have hX0 := lX11_value 2 (Nat.le_refl _) (Jc_stb _) shM_is hM.toJ gx6 gx7 gx8 gx9 (mU_value hM.toJ hI)
  refine z_callV (As := [_, _, _, _]) eX11_value sX11_value lL_81 rfl dL_law_546 (hM.1 _ _ shM_is.1) hX0 (Nat.le_trans (by decide) hd) rfl (Nat.le_of_ble_eq_true rfl) (fun r cs2 hp => ?_)
  obtain ⟨r10, S', rfl, ⟨hI', h19⟩, hM'⟩ := hp
  have hLI : LI G (k + 1) cs2 := LI_m hW hM' hI' h0 (h19.trans hp19) hn hl
  refine z_st (st' := [.int (Int32.ofInt r10)]) rfl ?_
  refine z_pop dL_law_549 rfl ?_
  refine z_goto (tgt := 576) dL_law_550 (by decide) ?_
  exact hG _ hLI
set_option maxRecDepth 100000 in
set_option maxHeartbeats 4000000 in
theorem law_count {G : xG} {d k : Nat} {cs : List va_E} (hd : 90 ≤ d) (hL : G.2.2.2.2.2.2.1 ≤ 2560) (hk : 5 * k + 5 ≤ G.2.2.2.2.2.2.1) (hLI : LI G k cs) (hG : ∀ cs, LI G (k + 1) cs → LZ G d k 576 [] cs) : LZ G d k 553 [] cs := by
  unfold LZ at hG ⊢
  refine z_aload_n dL_law_553 rfl rfl ?_
  refine z_aload_n dL_law_554 rfl rfl ?_
  refine z_iload_n dL_law_555 rfl rfl ?_
  refine z_iconst (v := Int32.ofInt 1) dL_law_556 rfl ?_
  refine i_iadd dL_law_557 ?_
  refine z_scd (sc_in (j := 1) hk hL (by decide)) dL_law_558 ?_
  refine kze (fun x1 qx1 gx1 => ?_)
  obtain ⟨τ, S, p, hW, hM, hI, h0, hp19, hn, hl⟩ := hLI
  have hX0 := kX10_count 1 (Nat.le_refl _) hW h0 gx1
  refine z_callV (As := [_]) eX10_count sX10_count lL_82 rfl dL_law_559 (hW.ob h0 (by decide)).choose_spec hX0 (Nat.le_trans (by decide) hd) rfl (Nat.le_of_ble_eq_true rfl) (fun r cs1 hp => ?_)
  obtain ⟨hcs, r2, rfl, gr2, _⟩ := hp
  obtain rfl := hcs.symm
  have hLI : LI G (k + 1) cs := LI_r ⟨τ, S, p, hW, hM, hI, h0, hp19, hn, hl⟩ (by omega)
  clear hX0 hW hM hI h0 hp19 hn hl
  refine z_st (st' := [.int (Int32.ofInt r2)]) rfl ?_
  refine z_pop dL_law_562 rfl ?_
  refine z_aload_n dL_law_563 rfl rfl ?_
  refine z_aload_n dL_law_564 rfl rfl ?_
  refine z_iload_n dL_law_565 rfl rfl ?_
  refine z_iconst (v := Int32.ofInt 1) dL_law_566 rfl ?_
  refine i_iadd dL_law_567 ?_
  refine z_scd (sc_in (j := 1) hk hL (by decide)) dL_law_568 ?_
  refine kze (fun x3 qx3 gx3 => ?_)
  obtain ⟨τ, S, p, hW, hM, hI, h0, hp19, hn, hl⟩ := hLI
  have hX0 := lX11_count 0 (Nat.le_refl _) (Jc_stb _) shM_is hM.toJ gx3 (mU_count hM.toJ hI)
  refine z_callV (As := [_]) eX11_count sX11_count lL_85 rfl dL_law_569 (hM.1 _ _ shM_is.1) hX0 (Nat.le_trans (by decide) hd) rfl (Nat.le_of_ble_eq_true rfl) (fun r cs2 hp => ?_)
  obtain ⟨r4, S', rfl, ⟨hI', h19⟩, hM'⟩ := hp
  have hLI : LI G (k + 1) cs2 := LI_m hW hM' hI' h0 (h19.trans hp19) hn hl
  refine z_st (st' := [.int (Int32.ofInt r4)]) rfl ?_
  refine z_pop dL_law_572 rfl ?_
  refine z_goto (tgt := 576) dL_law_573 (by decide) ?_
  exact hG _ hLI
