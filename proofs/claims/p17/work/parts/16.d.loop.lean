set_option maxRecDepth 100000 in
set_option maxHeartbeats 4000000 in
theorem law_head {G : xG} {d k : Nat} {cs : List va_E} (hd : 90 ≤ d) (hL : G.2.2.2.2.2.2.1 ≤ 2560) (hk5 : k ≤ 512) (hLI : LR G k cs) (hG : 5 * k + 5 ≤ G.2.2.2.2.2.2.1 → ∀ cs, LR G (k + 1) cs → LZ G d k 576 [] cs) : LZ G d k 18 [] cs := by
  have law : 5 * k + 5 ≤ G.2.2.2.2.2.2.1 → Z (RL, cL_law, 4, some .boolean, false) G d (fun r _ => r = some (.int 1)) 26 [(0, .ref G.2.2.2.2.2.1), (1, .ref (G.1 + 0)), (2, .ref (G.1 + 54)), (3, .int (Int32.ofInt (5 * (k : Int))))] [] cs := fun hk => by
    have hG := hG hk
    refine z_aload_n dL_law_26 rfl rfl ?_
    refine z_iload_n dL_law_27 rfl rfl ?_
    refine z_scd (oI_in (by omega) (by omega) (by omega)) dL_law_28 ?_
    refine z_bipush (v := 15) dL_law_29 (by decide) ?_
    refine z_iand dL_law_31 ?_
    obtain ⟨j, hj, ej⟩ := pk_andE (G.2.2.2.2.2.2.2 (Int32.ofInt (5 * (k : Int))).toNatClampNeg) (m := 15) 4 (by decide)
    refine z_st (st' := [.int (nI j)]) (by rw [ej]) ?_
    have hj : j < 16 := hj
    rcases (show j = 0 ∨ j = 1 ∨ j = 2 ∨ j = 3 ∨ j = 4 ∨ j = 5 ∨ j = 6 ∨ j = 7 ∨ j = 8 ∨ j = 9 ∨ j = 10 ∨ j = 11 ∨ j = 12 ∨ j = 13 ∨ j = 14 ∨ j = 15 by omega) with rfl | rfl | rfl | rfl | rfl | rfl | rfl | rfl | rfl | rfl | rfl | rfl | rfl | rfl | rfl | rfl
    · exact z_tableIn (tgt := 112) dL_law_32 (by decide) (by decide) rfl (by decide) (law_unit hd hL hk hLI hG)
    · exact z_tableIn (tgt := 135) dL_law_32 (by decide) (by decide) rfl (by decide) (law_classes hd hL hk hLI hG)
    · exact z_tableIn (tgt := 148) dL_law_32 (by decide) (by decide) rfl (by decide) (law_make hd hL hk hLI hG)
    · exact z_tableIn (tgt := 171) dL_law_32 (by decide) (by decide) rfl (by decide) (law_set hd hL hk hLI hG)
    · exact z_tableIn (tgt := 214) dL_law_32 (by decide) (by decide) rfl (by decide) (law_text hd hL hk hLI hG)
    · exact z_tableIn (tgt := 247) dL_law_32 (by decide) (by decide) rfl (by decide) (law_add hd hL hk hLI hG)
    · exact z_tableIn (tgt := 290) dL_law_32 (by decide) (by decide) rfl (by decide) (law_limit hd hL hk hLI hG)
    · exact z_tableIn (tgt := 313) dL_law_32 (by decide) (by decide) rfl (by decide) (law_write hd hL hk hLI hG)
    · exact z_tableIn (tgt := 346) dL_law_32 (by decide) (by decide) rfl (by decide) (law_sign hd hL hk hLI hG)
    · exact z_tableIn (tgt := 369) dL_law_32 (by decide) (by decide) rfl (by decide) (law_take hd hL hk hLI hG)
    · exact z_tableIn (tgt := 382) dL_law_32 (by decide) (by decide) rfl (by decide) (law_forbid hd hL hk hLI hG)
    · exact z_tableIn (tgt := 431) dL_law_32 (by decide) (by decide) rfl (by decide) (law_read hd hL hk hLI hG)
    · exact z_tableIn (tgt := 444) dL_law_32 (by decide) (by decide) rfl (by decide) (law_same hd hL hk hLI hG)
    · exact z_tableIn (tgt := 467) dL_law_32 (by decide) (by decide) rfl (by decide) (law_kind hd hL hk hLI hG)
    · exact z_tableIn (tgt := 500) dL_law_32 (by decide) (by decide) rfl (by decide) (law_value hd hL hk hLI hG)
    · exact z_tableIn (tgt := 553) dL_law_32 (by decide) (by decide) rfl (by decide) (law_count hd hL hk hLI hG)
  unfold LZ
  refine z_iload_n dL_law_18 rfl rfl ?_
  refine z_aload_n dL_law_19 rfl rfl ?_
  refine z_scl dL_law_20 ?_
  refine z_st (st' := [.int (Int32.ofInt (G.2.2.2.2.2.2.1 : Int)), .int (Int32.ofInt (5 * (k : Int)))]) rfl ?_
  refine z_iconst (v := Int32.ofInt 5) dL_law_21 rfl ?_
  refine i_isub dL_law_22 ?_
  refine i_icmp_gt (tgt := 582) dL_law_23 (by decide) ⟨by omega, by omega⟩ ⟨by omega, by omega⟩ (fun q => ?_) (fun q => ?_)
  · refine z_iconst (v := 1) dL_law_582 (by decide) ?_
    exact z_ireturn dL_law_583 rfl (by decide) rfl
  · exact law (by omega)
theorem law_loop {G : xG} {d : Nat} (hd : 90 ≤ d) (hL : G.2.2.2.2.2.2.1 ≤ 2560) : ∀ (n k : Nat) (cs : List va_E), 512 ≤ n + k → k ≤ 512 → LR G k cs → LZ G d k 18 [] cs
  | 0, k, cs, h1, h2, hLI => law_head hd hL h2 hLI (fun hk => by omega)
  | n + 1, k, cs, h1, h2, hLI => law_head hd hL h2 hLI (fun hk cs hLI => by
    have ih := law_loop hd hL n (k + 1) cs (by omega) (by omega) hLI
    unfold LZ at ih ⊢
    refine i_iinc (l := 5 * (k : Int)) dL_law_576 rfl (by decide) ?_
    refine z_loc (L' := [(0, .ref G.2.2.2.2.2.1), (1, .ref (G.1 + 0)), (2, .ref (G.1 + 54)), (3, .int (Int32.ofInt (5 * ((k + 1 : Nat) : Int))))]) (List.forall_mem_cons.mpr ⟨rfl, (List.forall_mem_cons.mpr ⟨rfl, (List.forall_mem_cons.mpr ⟨rfl, (List.forall_mem_cons.mpr ⟨by show some (Value.int (Int32.ofInt (5 * (k : Int) + 5))) = some (Value.int (Int32.ofInt (5 * ((k + 1 : Nat) : Int)))); rw [show 5 * ((k + 1 : Nat) : Int) = 5 * (k : Int) + 5 by omega], (fun _ h => nomatch h)⟩)⟩)⟩)⟩) ?_
    refine z_goto (tgt := 18) dL_law_579 (by decide) ?_
    exact ih)
set_option maxRecDepth 100000 in
set_option maxHeartbeats 8000000 in
/-- the law's body, from its entry -/
theorem law_8 {G : xG} {d : Nat} (hd : 90 ≤ d) (hL : G.2.2.2.2.2.2.1 ≤ 2560) : Z (RL, cL_law, 4, some .boolean, false) G d (fun r _ => r = some (.int 1)) 0 [(0, .ref G.2.2.2.2.2.1)] [] [] := by
  refine z_new (fs := [.null, .null, .null, .null, .null, .null, .null, .null, .null, .int 0]) kX10 nL_7 aX10 bX10 dL_law_0 (by decide +kernel) ⟨by decide, by decide⟩ ?_
  refine z_st (st' := [.ref (G.1 + 0)]) rfl ?_
  refine z_dup dL_law_3 rfl ?_
  have hc1 : Cp 3 ([] : List va_E) := by unfold Cp; exact ⟨by decide, by decide⟩
  have hX1 := c_X10_init (G := G) 3 (Nat.le_refl 3) hc1 (a := 0) rfl
  refine z_callI (As := []) eX10_init sX10_init lL_9 dL_law_4 hX1 (by omega) rfl (Nat.le_of_ble_eq_true rfl) (fun r cs1 hp => ?_)
  obtain ⟨rfl, rfl⟩ := hp
  refine z_cs (cs' := wX G) rfl ?_
  refine z_st (st' := [.ref (G.1 + 0)]) rfl ?_
  refine z_astore_n dL_law_7 rfl (by decide) ?_
  have hz := wX_Z G
  have hcp : Cp 1 (wX G) := by unfold Cp; rw [wX_len, hz]; decide
  refine z_new (fs := (.int 0 :: .null :: .int 0 :: .null :: .null :: .null :: .null :: .null :: .null :: .null :: .null :: .null :: .null :: .null :: .null :: .null :: .null :: .null :: .int 0 :: .int 0 :: .int 0 :: .null :: .int 0 :: .int 0 :: .int 0 :: .int 0 :: .null :: .null :: .null :: .null :: .int 0 :: .null :: .int 0 :: .null :: .null :: .null :: .null :: .null :: .null :: .int 0 :: .null :: .int 0 :: .null :: .int 0 :: .null :: .null :: .null :: .null :: .null :: .null :: .null :: .int 0 :: .null :: .null :: .null :: .null :: .int 0 :: .null :: .null :: .int 0 :: .int 0 :: .null :: .null :: .null :: .null :: .null :: .null :: .int 0 :: .null :: .null :: .null :: .int 0 :: [])) kX11 nL_10 aX11 bX11 dL_law_8 (by decide +kernel) (by rw [wX_len, hz]; decide) ?_
  refine z_st (st' := [.ref (G.1 + 54)]) rfl ?_
  refine z_dup dL_law_11 rfl ?_
  have hX2 := c_X11_init (G := G) 1 (Nat.le_refl 1) hcp (wX_len G)
  refine z_callI (As := []) eX11_init sX11_init lL_12 dL_law_12 hX2 (by omega) rfl (Nat.le_of_ble_eq_true rfl) (fun r cs1 hp => ?_)
  obtain ⟨rfl, rfl⟩ := hp
  refine z_cs (cs' := w0 G) rfl ?_
  refine z_st (st' := [.ref (G.1 + 54)]) rfl ?_
  refine z_astore_n dL_law_15 rfl (by decide) ?_
  refine z_iconst (v := Int32.ofInt 0) dL_law_16 rfl ?_
  refine z_istore_n dL_law_17 rfl (by decide) ?_
  have h := law_loop hd hL 512 0 (w0 G) (by decide) (by decide) (LR0 G)
  unfold LZ at h
  exact h

