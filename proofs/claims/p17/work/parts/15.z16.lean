/-! THE CLASS'S write -/
/-- what the class's write says and writes -/
def CwO (S S' : St) (e : Env) (a md : Int) (F : Wt) (x : Int) : Prop := (∀ b, b ≠ 20 → b ≠ 22 → b < 200 → S'.1 b = S.1 b ∧ S'.2 b = S.2 b) ∧ ((¬ (okO e a ∧ iv 0 3 md) ∧ x = -1 ∧ S'.1 20 = S.1 20 ∧ S'.2 20 = S.2 20) ∨ (okO e a ∧ iv 0 3 md ∧ ((F.2.2.2.2.2 = 1 ∧ x = -3 ∧ S'.1 20 = S.1 20 ∧ S'.2 20 = S.2 20) ∨ (¬ F.2.2.2.2.2 = 1 ∧ 3000 < F.1.length ∧ x = -4 ∧ S'.1 20 = S.1 20 ∧ S'.2 20 = S.2 20) ∨ (¬ F.2.2.2.2.2 = 1 ∧ F.1.length ≤ 3000 ∧ x = F.1.length ∧ oC S' 20 F.1))))
theorem Wv.up {G : xG} {v : Nat → Nat} {sh : Nat → Option Sh} {B B1 : Nat × Nat} {c0 : List va_E} {S : St} {cs : List va_E} (h : Wv G v sh B c0 S cs) (h1 : B.1 ≤ B1.1) (h2 : B.2 ≤ B1.2) (h3 : B1.1 ≤ 600000) (h4 : B1.2 ≤ 7302250) : Wv G v sh B1 c0 S cs := by
  obtain ⟨τ, hT, h⟩ := h
  exact ⟨τ, hT.up h1 h2 h3 h4, h⟩
set_option maxRecDepth 100000 in
set_option maxHeartbeats 4000000 in
theorem c_write {G : xG} {v : Nat → Nat} {B : Nat × Nat} {c0 : List va_E} {S : St} {cs : List va_E} {e : Env} {a md m : Int} {F : Wt} (d : Nat) (hd : 80 ≤ d) (hW : Wv G v shC B c0 S cs) (hE : cE S e) (hV : EV e) (hD : DN e) (hm : S.1 0 9 = m) (ga : rng a) (gm : rng md) (heO : eO e = md) (hF : F = ElT e m.toNat a (-2) (eK e a) sT0) (hB : B.1 + 200 ≤ 600000 ∧ B.2 + 100000 ≤ 7302250) : X G yX10_write cX10_write 5 (some .int) d [.ref (G.1 + v 0), .int (Int32.ofInt a), .int (Int32.ofInt md)] cs (fun r c1 => ∃ (x : Int) (v' : Nat → Nat) (S' : St), r = some (.int (Int32.ofInt x)) ∧ (v' 0 = v 0 ∧ ∀ b : Nat, b ≠ 20 → b ≠ 22 → b < 200 → v' b = v b) ∧ Wv G v' shC (B.1 + 7, B.2 + 260) c0 S' c1 ∧ CwO S S' e a md F x) := by
  have hmi : iv 1 20 m := by
    have := hW.iI 0 9
    rw [hm] at this
    exact this
  have hTC : sb shC shC := fun _ _ h => h
  have hroom := hW.room
  refine X.of false (by decide +kernel) (by decide) (Nat.le_of_ble_eq_true rfl) ?_
  show Z (RX10, cX10_write, 5, some .int, false) G d _ 0 [(0, .ref (G.1 + v 0)), (1, .int (Int32.ofInt a)), (2, .int (Int32.ofInt md))] [] cs
  have bad : ∀ cs, Wv G v shC B c0 S cs → ¬ (okO e a ∧ iv 0 3 md) → Z (RX10, cX10_write, 5, some .int, false) G d (fun r c1 => ∃ (x : Int) (v' : Nat → Nat) (S' : St), r = some (.int (Int32.ofInt x)) ∧ (v' 0 = v 0 ∧ ∀ b : Nat, b ≠ 20 → b ≠ 22 → b < 200 → v' b = v b) ∧ Wv G v' shC (B.1 + 7, B.2 + 260) c0 S' c1 ∧ CwO S S' e a md F x) 20 [(0, .ref (G.1 + v 0)), (1, .int (Int32.ofInt a)), (2, .int (Int32.ofInt md))] [] cs := fun cs hW q => by
    refine z_iconst (v := Int32.ofInt (-1)) dX10_write_20 rfl ?_
    exact z_ireturn dX10_write_21 rfl rfl ⟨-1, v, S, rfl, ⟨rfl, fun _ _ _ _ => rfl⟩, hW.up (by show B.1 ≤ B.1 + 7; omega) (by show B.2 ≤ B.2 + 260; omega) (by show B.1 + 7 ≤ _; omega) (by show B.2 + 260 ≤ _; omega), fun _ _ _ _ => ⟨rfl, rfl⟩, Or.inl ⟨q, rfl, rfl, rfl⟩⟩
  have i22 : isS 22 := by unfold isS; decide
  have i20 : isS 20 := by unfold isS; decide
  refine z_aload_n dX10_write_0 rfl rfl ?_
  refine v_getR hW (hTC 0 _ rfl) rfl kX10 fX10_42 dX10_write_1 ?_
  refine z_iload_n dX10_write_4 rfl rfl ?_
  have hX := lX1_has (K := fun r S' => S' = S ∧ ((r = 1 ∧ okO e a) ∨ (r = 0 ∧ ¬ okO e a))) 0 (Nat.le_refl _) hTC shC_nS hW ga (by
    by_cases q : okO e a
    · exact r_has1 hE q ⟨rfl, Or.inl ⟨rfl, q⟩⟩
    · by_cases q2 : a < 0
      · exact r_has0 q2 ⟨rfl, Or.inr ⟨rfl, q⟩⟩
      · exact r_hasN hE (by unfold okO at q; omega) ⟨rfl, Or.inr ⟨rfl, q⟩⟩)
  refine z_callV (As := [_]) eX1_has sX1_has lX10_94 rfl dX10_write_5 (hW.at (hTC 42 _ rfl)) hX (Nat.le_trans (by decide) hd) rfl (Nat.le_of_ble_eq_true rfl) (fun r c1 hp => ?_)
  obtain ⟨r1, S1, eR1, ⟨eS, hr⟩, hW1⟩ := hp
  rw [eS] at hW1
  rw [eR1]
  clear eS eR1
  refine z_st (st' := [.int (Int32.ofInt r1)]) rfl ?_
  have gr : rng r1 := by
    rcases hr with ⟨h, -⟩ | ⟨h, -⟩
    · exact ⟨by omega, by omega⟩
    · exact ⟨by omega, by omega⟩
  refine i_if_eq (tgt := 20) dX10_write_8 (by decide) gr (fun h4 => bad c1 hW1 (fun q => ?_)) (fun h4 => ?_)
  · rcases hr with ⟨h, -⟩ | ⟨-, h⟩
    · omega
    · exact h q.1
  have hka : okO e a := by
    rcases hr with ⟨-, h⟩ | ⟨h, -⟩
    · exact h
    · exact absurd h h4
  clear hr
  refine z_iload_n dX10_write_11 rfl rfl ?_
  refine i_if_lt (tgt := 20) dX10_write_12 (by decide) gm (fun h5 => bad c1 hW1 (fun q => by have := q.2.1; omega)) (fun h5 => ?_)
  refine z_iload_n dX10_write_15 rfl rfl ?_
  refine z_iconst (v := Int32.ofInt 3) dX10_write_16 rfl ?_
  refine i_icmp_le (tgt := 22) dX10_write_17 (by decide) gm (show rng 3 from ⟨by decide, by decide⟩) (fun h6 => ?_) (fun h6 => bad c1 hW1 (fun q => by have := q.2.2; omega))
  have hmd : iv 0 3 md := ⟨by omega, by omega⟩
  clear bad
  refine z_aload_n dX10_write_22 rfl rfl ?_
  refine v_getR hW1 (hTC 0 _ rfl) rfl kX10 fX10_26 dX10_write_23 ?_
  have hX := lX5_clear (K := fun _ S' => S' = sClr S 22) 0 (Nat.le_refl _) hW1 i22 (fun b x h e => shC_nS b x h (e ▸ i22)) (fun _ h => h)
  refine z_callV (As := []) eX5_clear sX5_clear lX10_72 rfl dX10_write_26 (hW1.sg i22 (fun b x h e => shC_nS b x h (e ▸ i22))).choose_spec.choose_spec.choose_spec.choose_spec.1.choose_spec.1 hX (Nat.le_trans (by decide) hd) rfl (Nat.le_of_ble_eq_true rfl) (fun r c2 hp => ?_)
  obtain ⟨-, S2, eR2, eS, hW2⟩ := hp
  rw [eS] at hW2
  rw [eR2]
  clear eS eR2 hX hW1
  refine z_st (st' := []) rfl ?_
  have room2 := hW2.room
  refine z_new (fs := [.null, .null, .null, .int 0, .int 0, .null, .null, .null, .null, .null, .null, .int 0, .int 0]) kX8 nX10_116 aX8 bX8 dX10_write_29 (by decide +kernel) (by omega) ?_
  have hm2 : (sClr S 22).1 0 9 = m := (congrFun (sClr_ne (S := S) (a := 22) 0 (by decide)).1 9).trans hm
  have g0 : c2[v 0]? = some (.inr (10, [.ref (G.1 + v 1), .ref (G.1 + v 3), .ref (G.1 + v 20), .ref (G.1 + v 22), .ref (G.1 + v 24), .ref (G.1 + v 33), .ref (G.1 + v 42), .ref (G.1 + v 46), .ref (G.1 + v 50), .int (Int32.ofInt ((sClr S 22).1 0 9))])) := hW2.at (hTC 0 _ rfl)
  rw [hm2] at g0
  have g1 : (c2 ++ [.inr (8, [.null, .null, .null, .int 0, .int 0, .null, .null, .null, .null, .null, .null, .int 0, .int 0])])[v 0]? = some (.inr (10, [.ref (G.1 + v 1), .ref (G.1 + v 3), .ref (G.1 + v 20), .ref (G.1 + v 22), .ref (G.1 + v 24), .ref (G.1 + v 33), .ref (G.1 + v 42), .ref (G.1 + v 46), .ref (G.1 + v 50), .int (Int32.ofInt m)])) := by
    rw [List.getElem?_append_left (at_lt g0)]
    exact g0
  refine z_dup dX10_write_32 rfl ?_
  refine z_aload_n dX10_write_33 rfl rfl ?_
  refine z_get kX10 fX10_32 dX10_write_34 g1 rfl ?_
  refine z_aload_n dX10_write_37 rfl rfl ?_
  refine z_get kX10 fX10_42 dX10_write_38 g1 rfl ?_
  refine z_aload_n dX10_write_41 rfl rfl ?_
  refine z_get kX10 fX10_26 dX10_write_42 g1 rfl ?_
  refine z_iload_n dX10_write_45 rfl rfl ?_
  refine z_aload_n dX10_write_46 rfl rfl ?_
  refine z_get kX10 fX10_52 dX10_write_47 g1 rfl ?_
  have hX := c_X8_init (G := G) (b1 := v 24) (b2 := v 42) (b3 := v 22) (m4 := Int32.ofInt md) (m5 := Int32.ofInt m) 1 (Nat.le_refl _) (pre := c2) (by unfold Cp; omega) rfl
  refine z_callI (As := [_, _, _, _, _]) eX8_init sX8_init lX10_118 dX10_write_50 hX (Nat.le_trans (by decide) hd) rfl (Nat.le_of_ble_eq_true rfl) (fun r c3 hp => ?_)
  obtain ⟨eR3, ec3⟩ := hp
  rw [eR3]
  have hW3 := hW2.writer (md := md) (mo := m) gm hmi (by omega)
  have ec4 : c3 = c2 ++ wrC G c2.length (v 24) (v 42) (v 22) (Int32.ofInt md) (Int32.ofInt m) := ec3
  rw [← ec4] at hW3
  obtain ⟨v2, hv2⟩ : ∃ v2, v2 = vW v c2.length := ⟨_, rfl⟩
  have e210 : c2.length = v2 210 := by
    rw [hv2]
    show _ = if 210 ≤ 210 ∧ 210 ≤ 216 then c2.length + (210 - 210) else v 210
    rw [if_pos (by decide)]
    omega
  have e0 : v 0 = v2 0 := by rw [hv2]; exact (vW_lo (by decide)).symm
  have ev : ∀ b : Nat, b < 200 → v2 b = v b := fun b hb => by rw [hv2]; exact vW_lo (by omega)
  rw [← hv2] at hW3
  rw [e210, e0]
  clear ec3 ec4 eR3 hX g1 g0 hW2 hv2 e210 hW
  refine z_st (st' := [.ref (G.1 + v2 210)]) rfl ?_
  refine z_astore_n dX10_write_53 rfl (by decide) ?_
  refine z_loc (L' := [(0, .ref (G.1 + v2 0)), (1, .int (Int32.ofInt a)), (2, .int (Int32.ofInt md)), (3, .ref (G.1 + v2 210))]) (List.forall_mem_cons.mpr ⟨rfl, (List.forall_mem_cons.mpr ⟨rfl, (List.forall_mem_cons.mpr ⟨rfl, (List.forall_mem_cons.mpr ⟨rfl, (fun _ h => nomatch h)⟩)⟩)⟩)⟩) ?_
  refine z_aload_n dX10_write_54 rfl rfl ?_
  refine z_iload_n dX10_write_55 rfl rfl ?_
  refine z_bipush (v := Int32.ofInt (-2)) dX10_write_56 (by decide) ?_
  refine z_iconst (v := Int32.ofInt 0) dX10_write_58 rfl ?_
  refine z_iconst (v := Int32.ofInt 0) dX10_write_59 rfl ?_
  refine z_iconst (v := Int32.ofInt 0) dX10_write_60 rfl ?_
  obtain ⟨S3, hS3⟩ : ∃ S3, S3 = sWr (sClr S 22) md m := ⟨_, rfl⟩
  have lo3 : ∀ b, b ≠ 22 → b < 210 → S3.1 b = S.1 b ∧ S3.2 b = S.2 b := fun b h1 h2 => by
    rw [hS3]
    refine ⟨?_, ?_⟩
    · refine (funext fun j => if_neg (by omega)).trans (sClr_ne b h1).1
    · refine (funext fun j => if_neg (by omega)).trans (sClr_ne b h1).2
  have hE3 : cE S3 e := hE.mv (congrFun (lo3 42 (by decide) (by decide)).1 3) (congrFun (lo3 24 (by decide) (by decide)).1 8) (lo3 43 (by decide) (by decide)).2 (lo3 44 (by decide) (by decide)).2 (lo3 45 (by decide) (by decide)).2 (lo3 25 (by decide) (by decide)).2 (lo3 26 (by decide) (by decide)).2 (lo3 27 (by decide) (by decide)).2 (lo3 28 (by decide) (by decide)).2 (lo3 29 (by decide) (by decide)).2 (lo3 30 (by decide) (by decide)).2
  have hR3 : WrR S3 e sW0 := by
    rw [hS3]
    refine ⟨⟨rfl, rfl, fun i _ h => absurd h (Nat.not_lt_zero _)⟩, heO.symm, rfl, rfl, ⟨Int.le_refl _, Int.le_refl _⟩, fun o ho => ⟨rfl, Int.le_refl _, Int.le_refl _⟩, fun _ o ho h => absurd h (by show ¬ (0 : Int) < 0; omega)⟩
  have h43 : S3.1 210 4 = m := by rw [hS3]; rfl
  rw [← hS3] at hW3
  have hX := lE (v := v2) (sh := shCW) sb_C shCW_S sb_W m.toNat a (-2) 0 0 0 S3 c3 (fun _ S' => ∃ s, Oe S3 S' ∧ WrR S' e s ∧ s.1 = F.1 ∧ s.2.2.2.2 = F.2.2.2.2.2) ga ⟨by decide, by decide⟩ ⟨by decide, by decide⟩ ⟨by decide, by decide⟩ ⟨by decide, by decide⟩ hW3 (w_root hV hD (by rw [heO]; exact hmd) hmi hka hE3 hR3 h43 (fun S' s f r q1 q2 => ⟨s, f, r, by rw [hF]; exact q1, by rw [hF]; exact q2⟩))
  refine z_callVN (As := [_, _, _, _, _]) eX8_element sX8_element lX10_121 rfl dX10_write_61 (hW3.at (sb_W 210 _ rfl)) hX (by omega) rfl (Nat.le_of_ble_eq_true rfl) (fun r c4 hp => ?_)
  obtain ⟨-, S4, eR4, ⟨s, f4, R4, q1, q2⟩, hW4⟩ := hp
  rw [eR4]
  clear eR4 hX hW3
  refine z_st (st' := []) rfl ?_
  have lo4 : ∀ b, b ≠ 22 → b < 210 → S4.1 b = S.1 b ∧ S4.2 b = S.2 b := fun b h1 h2 => ⟨(f4.1 b h1 h2).1.trans (lo3 b h1 h2).1, (f4.1 b h1 h2).2.trans (lo3 b h1 h2).2⟩
  obtain ⟨r22, -, r12, -⟩ := R4
  rw [q1] at r22
  rw [q2] at r12
  have l22 := oC_len r22
  have fail : ∀ K : Int → St → Prop, (∀ x, (F.2.2.2.2.2 = 1 ∧ x = -3) ∨ (¬ F.2.2.2.2.2 = 1 ∧ 3000 < F.1.length ∧ x = -4) ∨ (¬ F.2.2.2.2.2 = 1 ∧ F.1.length ≤ 3000 ∧ x = 0) → K x S4) → wX8_failure S4 K := fun K hK => by
    unfold wX8_failure
    intro g
    refine ⟨fun h => ?_, fun h => hK _ (Or.inl ⟨by omega, rfl⟩)⟩
    intro g2
    refine ⟨⟨by omega, by omega⟩, fun h2 => hK _ (Or.inr (Or.inr ⟨by omega, l22.1.mp h2, rfl⟩)), fun h2 => hK _ (Or.inr (Or.inl ⟨by omega, ?_, rfl⟩))⟩
    refine Nat.lt_of_not_le (fun q => h2 (l22.1.mpr q))
  have bd : ∀ x, ((F.2.2.2.2.2 = 1 ∧ x = -3) ∨ (¬ F.2.2.2.2.2 = 1 ∧ 3000 < F.1.length ∧ x = -4) ∨ (¬ F.2.2.2.2.2 = 1 ∧ F.1.length ≤ 3000 ∧ x = 0)) → rng x := fun x h => by
    rcases h with ⟨-, h⟩ | ⟨-, -, h⟩ | ⟨-, -, h⟩ <;> exact ⟨by omega, by omega⟩
  refine z_aload_n dX10_write_64 rfl rfl ?_
  have hX := lX8_failure (K := fun x S' => S' = S4 ∧ ((F.2.2.2.2.2 = 1 ∧ x = -3) ∨ (¬ F.2.2.2.2.2 = 1 ∧ 3000 < F.1.length ∧ x = -4) ∨ (¬ F.2.2.2.2.2 = 1 ∧ F.1.length ≤ 3000 ∧ x = 0))) 1 (Nat.le_refl _) sb_C shCW_S sb_W hW4 (fail _ (fun x h => ⟨rfl, h⟩))
  refine z_callV (As := []) eX8_failure sX8_failure lX10_125 rfl dX10_write_65 (hW4.at (sb_W 210 _ rfl)) hX (Nat.le_trans (by decide) hd) rfl (Nat.le_of_ble_eq_true rfl) (fun r c5 hp => ?_)
  obtain ⟨r5, S5, eR5, ⟨eS, h5⟩, hW5⟩ := hp
  rw [eS] at hW5
  rw [eR5]
  clear eS eR5 hX hW4
  refine z_st (st' := [.int (Int32.ofInt r5)]) rfl ?_
  refine i_if_eq (tgt := 76) dX10_write_68 (by decide) (bd r5 h5) (fun h22 => ?_) (fun h22 => ?_)
  · have hnd : ¬ F.2.2.2.2.2 = 1 ∧ F.1.length ≤ 3000 := by
      rcases h5 with ⟨-, h⟩ | ⟨-, -, h⟩ | ⟨h, h', -⟩
      · omega
      · omega
      · exact ⟨h, h'⟩
    clear h5 bd fail
    refine z_aload_n dX10_write_76 rfl rfl ?_
    refine v_getR hW5 (sb_C 0 _ rfl) rfl kX10 fX10_23 dX10_write_77 ?_
    refine z_astore dX10_write_80 (by decide) ?_
    refine z_loc (L' := [(0, .ref (G.1 + v2 0)), (1, .int (Int32.ofInt a)), (2, .int (Int32.ofInt md)), (3, .ref (G.1 + v2 210)), (4, .ref (G.1 + v2 20))]) (List.forall_mem_cons.mpr ⟨rfl, (List.forall_mem_cons.mpr ⟨rfl, (List.forall_mem_cons.mpr ⟨rfl, (List.forall_mem_cons.mpr ⟨rfl, (List.forall_mem_cons.mpr ⟨rfl, (fun _ h => nomatch h)⟩)⟩)⟩)⟩)⟩) ?_
    refine z_aload_n dX10_write_82 rfl rfl ?_
    refine z_aload_n dX10_write_83 rfl rfl ?_
    refine v_getR hW5 (sb_C 0 _ rfl) rfl kX10 fX10_26 dX10_write_84 ?_
    have g0 : c5[v2 0]? = some (.inr (10, [.ref (G.1 + v2 1), .ref (G.1 + v2 3), .ref (G.1 + v2 20), .ref (G.1 + v2 22), .ref (G.1 + v2 24), .ref (G.1 + v2 33), .ref (G.1 + v2 42), .ref (G.1 + v2 46), .ref (G.1 + v2 50), .int (Int32.ofInt (S4.1 0 9))])) := hW5.at (sb_C 0 _ rfl)
    refine z_put kX10 fX10_23 dX10_write_87 rfl g0 rfl rfl (Nat.le_of_ble_eq_true rfl) ?_
    refine z_aload_n dX10_write_90 rfl rfl ?_
    refine z_aload dX10_write_91 rfl ?_
    refine z_put kX10 fX10_26 dX10_write_93 rfl (set_at g0) rfl rfl (Nat.le_of_ble_eq_true rfl) ?_
    rw [List.set_set]
    have hW6 := (hW5.sub sb_C (fun _ => rfl)).swap
    obtain ⟨c6, hc6⟩ : ∃ c6, c6 = c5.set (v2 0) (.inr (10, [.ref (G.1 + v2 1), .ref (G.1 + v2 3), .ref (G.1 + v2 22), .ref (G.1 + v2 20), .ref (G.1 + v2 24), .ref (G.1 + v2 33), .ref (G.1 + v2 42), .ref (G.1 + v2 46), .ref (G.1 + v2 50), .int (Int32.ofInt (S4.1 0 9))])) := ⟨_, rfl⟩
    rw [← hc6] at hW6
    show Z _ _ _ _ _ _ _ (c5.set (v2 0) (.inr (10, [.ref (G.1 + v2 1), .ref (G.1 + v2 3), .ref (G.1 + v2 22), .ref (G.1 + v2 20), .ref (G.1 + v2 24), .ref (G.1 + v2 33), .ref (G.1 + v2 42), .ref (G.1 + v2 46), .ref (G.1 + v2 50), .int (Int32.ofInt (S4.1 0 9))])))
    rw [← hc6]
    obtain ⟨v5, hv5⟩ : ∃ v5 : Nat → Nat, v5 = fun a => v2 (sw a) := ⟨_, rfl⟩
    rw [← hv5] at hW6
    have e5 : v2 0 = v5 0 := by rw [hv5]; rfl
    refine z_aload_n dX10_write_96 rfl rfl ?_
    rw [e5]
    refine v_getR (a := 0) hW6 (hTC 0 _ rfl) rfl kX10 fX10_23 dX10_write_97 ?_
    have r20 : oC (sSw S4) 20 F.1 := r22
    have hX := lX5_length (K := fun x S' => S' = sSw S4 ∧ x = F.1.length) 0 (Nat.le_refl _) hW6 i20 (fun b x h e => shC_nS b x h (e ▸ i20)) (fun _ => ⟨rfl, by rw [r20.1, if_pos hnd.2]⟩)
    refine z_callV (As := []) eX5_length sX5_length lX10_101 rfl dX10_write_100 (hW6.sg i20 (fun b x h e => shC_nS b x h (e ▸ i20))).choose_spec.choose_spec.choose_spec.choose_spec.1.choose_spec.1 hX (Nat.le_trans (by decide) hd) rfl (Nat.le_of_ble_eq_true rfl) (fun r c7 hp => ?_)
    obtain ⟨r7, S7, eR7, ⟨eS, h7⟩, hW7⟩ := hp
    rw [eS] at hW7
    rw [eR7]
    clear eS eR7 hX
    refine z_st (st' := [.int (Int32.ofInt r7)]) rfl ?_
    refine z_ireturn dX10_write_103 rfl rfl ⟨r7, v5, sSw S4, rfl, ⟨rfl, fun b h1 h2 h3 => by rw [hv5]; show v2 (sw b) = _; rw [sw_ne h1 h2]; exact ev b h3⟩, hW7, fun b h1 h2 h3 => ?_, Or.inr ⟨hka, hmd, Or.inr (Or.inr ⟨hnd.1, hnd.2, h7, r20⟩)⟩⟩
    show S4.1 (sw b) = _ ∧ S4.2 (sw b) = _
    rw [sw_ne h1 h2]
    exact lo4 b h2 (by omega)
  · refine z_aload_n dX10_write_71 rfl rfl ?_
    have hX := lX8_failure (K := fun x S' => S' = S4 ∧ ((F.2.2.2.2.2 = 1 ∧ x = -3) ∨ (¬ F.2.2.2.2.2 = 1 ∧ 3000 < F.1.length ∧ x = -4) ∨ (¬ F.2.2.2.2.2 = 1 ∧ F.1.length ≤ 3000 ∧ x = 0))) 1 (Nat.le_refl _) sb_C shCW_S sb_W hW5 (fail _ (fun x h => ⟨rfl, h⟩))
    refine z_callV (As := []) eX8_failure sX8_failure lX10_125 rfl dX10_write_72 (hW5.at (sb_W 210 _ rfl)) hX (Nat.le_trans (by decide) hd) rfl (Nat.le_of_ble_eq_true rfl) (fun r c6 hp => ?_)
    obtain ⟨r6, S6, eR6, ⟨eS, h6'⟩, hW6⟩ := hp
    rw [eS] at hW6
    rw [eR6]
    clear eS eR6 hX hW5
    refine z_st (st' := [.int (Int32.ofInt r6)]) rfl ?_
    have k20 := lo4 20 (by decide) (by decide)
    refine z_ireturn dX10_write_75 rfl rfl ⟨r6, v2, S4, rfl, ⟨rfl, fun b _ _ h3 => ev b h3⟩, hW6.sub sb_C (fun _ => rfl), fun b h1 h2 h3 => lo4 b h2 (by omega), Or.inr ⟨hka, hmd, ?_⟩⟩
    rcases h5 with ⟨h, -⟩ | ⟨h, h', -⟩ | ⟨-, -, h⟩
    · rcases h6' with ⟨-, h2⟩ | ⟨h2, -⟩ | ⟨h2, -⟩
      · exact Or.inl ⟨h, h2, k20.1, k20.2⟩
      · exact absurd h h2
      · exact absurd h h2
    · rcases h6' with ⟨h2, -⟩ | ⟨-, -, h2⟩ | ⟨-, h2, -⟩
      · exact absurd h2 h
      · exact Or.inr (Or.inl ⟨h, h', h2, k20.1, k20.2⟩)
      · omega
    · exact absurd h h22

