/-! THE CLASS'S read -/
/-- what is left behind a reading whose two answers were l1 and l2 -/
def RdQ (G : xG) (B : Nat × Nat) (S : St) (cs : List va_E) (l1 l2 : Int) : xP := fun r c1 => ∃ (x : Int) (v' : Nat → Nat) (S' : St), r = some (.int (Int32.ofInt x)) ∧ VV v' ∧ Wv G v' shC B c1 S' c1 ∧ QT G v' c1 ∧ S'.1 1 1 = 0 ∧ (∀ b, b < 46 → b ≠ 1 → S'.1 b = S.1 b ∧ S'.2 b = S.2 b) ∧ ((l1 = -1 ∧ l2 = -1 ∧ S'.1 46 = S.1 50 ∧ S'.2 47 = S.2 51 ∧ S'.2 48 = S.2 52 ∧ S'.2 49 = S.2 53) ∨ (¬ (l1 = -1 ∧ l2 = -1) ∧ ∀ b, 46 ≤ b → b ≤ 49 → S'.1 b = S.1 b ∧ S'.2 b = S.2 b)) ∧ ∀ k, 54 ≤ k → k < 107 → c1[k]? = cs[k]?
theorem Z.post {M : xM} {G : xG} {d : Nat} {P P1 : xP} {pc : Nat} {L : List (Nat × Value)} {st : List Value} {cs : List va_E} (h : Z M G d P pc L st cs) (k : ∀ r c, P r c → P1 r c) : Z M G d P1 pc L st cs := fun p l e R s m args below meth c H locs cells slots ls Q h1 h2 h3 h4 h5 => h p l e R s m args below meth c H locs cells slots ls Q h1 h2 h3 h4 (fun r cs' H' locs' cells' slots' pc' ls' hp => h5 r cs' H' locs' cells' slots' pc' ls' (k r cs' hp))
set_option maxRecDepth 100000 in
set_option maxHeartbeats 4000000 in
theorem c_readT {G : xG} {v : Nat → Nat} {B : Nat × Nat} {S : St} {cs : List va_E} {l1 l2 : Int} {d : Nat} (hd : 14 ≤ d) (hW : Wv G v shC B cs S cs) (hV : VV v) (hZ : QT G v cs) (g1 : rng l1) (g2 : rng l2) : Z (RX10, cX10_read, 4, some .int, false) G d (RdQ G B S cs l1 l2) 64 [(0, .ref (G.1 + v 0)), (1, .int (Int32.ofInt l1))] [.int (Int32.ofInt l2)] cs := by
  have hTC : sb shC shC := fun _ _ h => h
  have i1 : isS 1 := by unfold isS; decide
  refine z_istore_n dX10_read_64 rfl (by decide) ?_
  refine z_loc (L' := [(0, .ref (G.1 + v 0)), (1, .int (Int32.ofInt l1)), (2, .int (Int32.ofInt l2))]) (List.forall_mem_cons.mpr ⟨rfl, (List.forall_mem_cons.mpr ⟨rfl, (List.forall_mem_cons.mpr ⟨rfl, (fun _ h => nomatch h)⟩)⟩)⟩) ?_
  refine z_aload_n dX10_read_65 rfl rfl ?_
  refine v_getR hW (hTC 0 _ rfl) rfl kX10 fX10_12 dX10_read_66 ?_
  have hX := lX5_clear (K := fun _ S' => S' = sClr S 1) 0 (Nat.le_refl _) hW i1 (fun b x h e => shC_nS b x h (e ▸ i1)) (fun _ h => h)
  refine z_callV (As := []) eX5_clear sX5_clear lX10_72 rfl dX10_read_69 (hW.sg i1 (fun b x h e => shC_nS b x h (e ▸ i1))).choose_spec.choose_spec.choose_spec.choose_spec.1.choose_spec.1 hX (Nat.le_trans (by decide) hd) rfl (Nat.le_of_ble_eq_true rfl) (fun r c2 hp => ?_)
  obtain ⟨-, S2, eR2, eS, hW2⟩ := hp
  rw [eR2]
  clear eR2 hX
  have hZ2 := hZ.wv hW2 rfl
  have ne2 : ∀ b, b ≠ 1 → S2.1 b = S.1 b ∧ S2.2 b = S.2 b := fun b h1 => by rw [eS]; exact sClr_ne b h1
  have z2 : S2.1 1 1 = 0 := by rw [eS]; rfl
  have fr2 : ∀ k, 54 ≤ k → k < 107 → c2[k]? = cs[k]? := fun k k1 k2 => hW2.fz ⟨k1, k2⟩
  have hW3 := hW2.base
  clear hW2 eS hW hZ
  refine z_st (st' := []) rfl ?_
  refine z_iload_n dX10_read_72 rfl rfl ?_
  refine z_iconst (v := Int32.ofInt (-1)) dX10_read_73 rfl ?_
  refine i_icmp_eq (tgt := 81) dX10_read_74 (by decide) g1 (show rng (-1) from ⟨by decide, by decide⟩) (fun h17 => ?_) (fun h17 => ?_)
  · refine z_iload_n dX10_read_81 rfl rfl ?_
    refine z_iconst (v := Int32.ofInt (-1)) dX10_read_82 rfl ?_
    refine i_icmp_eq (tgt := 99) dX10_read_83 (by decide) g2 (show rng (-1) from ⟨by decide, by decide⟩) (fun h18 => ?_) (fun h18 => ?_)
    · refine z_aload_n dX10_read_99 rfl rfl ?_
      refine v_getR hW3 (hTC 0 _ rfl) rfl kX10 fX10_46 dX10_read_100 ?_
      refine z_astore_n dX10_read_103 rfl (by decide) ?_
      refine z_loc (L' := [(0, .ref (G.1 + v 0)), (1, .int (Int32.ofInt l1)), (2, .int (Int32.ofInt l2)), (3, .ref (G.1 + v 46))]) (List.forall_mem_cons.mpr ⟨rfl, (List.forall_mem_cons.mpr ⟨rfl, (List.forall_mem_cons.mpr ⟨rfl, (List.forall_mem_cons.mpr ⟨rfl, (fun _ h => nomatch h)⟩)⟩)⟩)⟩) ?_
      refine z_aload_n dX10_read_104 rfl rfl ?_
      refine z_aload_n dX10_read_105 rfl rfl ?_
      refine v_getR hW3 (hTC 0 _ rfl) rfl kX10 fX10_49 dX10_read_106 ?_
      have g0 : c2[v 0]? = some (.inr (10, [.ref (G.1 + v 1), .ref (G.1 + v 3), .ref (G.1 + v 20), .ref (G.1 + v 22), .ref (G.1 + v 24), .ref (G.1 + v 33), .ref (G.1 + v 42), .ref (G.1 + v 46), .ref (G.1 + v 50), .int (Int32.ofInt (S2.1 0 9))])) := hW3.at (hTC 0 _ rfl)
      refine z_put kX10 fX10_46 dX10_read_109 rfl g0 rfl rfl (Nat.le_of_ble_eq_true rfl) ?_
      refine z_aload_n dX10_read_112 rfl rfl ?_
      refine z_aload_n dX10_read_113 rfl rfl ?_
      refine z_put kX10 fX10_49 dX10_read_114 rfl (set_at g0) rfl rfl (Nat.le_of_ble_eq_true rfl) ?_
      rw [List.set_set]
      have hW6 := hW3.swapH
      obtain ⟨c6, hc6⟩ : ∃ c6, c6 = c2.set (v 0) (.inr (10, [.ref (G.1 + v 1), .ref (G.1 + v 3), .ref (G.1 + v 20), .ref (G.1 + v 22), .ref (G.1 + v 24), .ref (G.1 + v 33), .ref (G.1 + v 42), .ref (G.1 + v 50), .ref (G.1 + v 46), .int (Int32.ofInt (S2.1 0 9))])) := ⟨_, rfl⟩
      rw [← hc6] at hW6
      show Z _ _ _ _ _ _ _ (c2.set (v 0) (.inr (10, [.ref (G.1 + v 1), .ref (G.1 + v 3), .ref (G.1 + v 20), .ref (G.1 + v 22), .ref (G.1 + v 24), .ref (G.1 + v 33), .ref (G.1 + v 42), .ref (G.1 + v 50), .ref (G.1 + v 46), .int (Int32.ofInt (S2.1 0 9))])))
      rw [← hc6]
      have fr6 : ∀ k, 54 ≤ k → k < 107 → c6[k]? = cs[k]? := fun k k1 k2 => (hW6.fz ⟨k1, k2⟩).trans (fr2 k k1 k2)
      refine z_aload_n dX10_read_117 rfl rfl ?_
      obtain ⟨v5, hv5⟩ : ∃ v5 : Nat → Nat, v5 = fun a => v (swH a) := ⟨_, rfl⟩
      rw [← hv5] at hW6
      have hV5 : VV v5 := by rw [hv5]; exact hV
      have hZ6 : QT G v5 c6 := hZ2.mv (hW6.f3 rfl) (fun a a0 a1 => by rw [hv5]; show v (swH a) = v a; rw [swH_ne (by omega)])
      have e0 : v 0 = v5 0 := by rw [hv5]; rfl
      have hW6 := hW6.base
      rw [e0]
      refine v_getR (a := 0) hW6 (hTC 0 _ rfl) rfl kX10 fX10_46 dX10_read_118 ?_
      have hX := lX1_size_b (K := fun _ S' => S' = sSwH S2) 0 (Nat.le_refl _) hTC shC_nS hW6 (fun _ => rfl)
      refine z_callV (As := []) eX1_size sX1_size lX10_158 rfl dX10_read_121 (hW6.at (hTC 46 _ rfl)) hX (Nat.le_trans (by decide) hd) rfl (Nat.le_of_ble_eq_true rfl) (fun r c7 hp => ?_)
      obtain ⟨r7, S7, eR7, eS7, hW7⟩ := hp
      rw [eS7] at hW7
      rw [eR7]
      have hZ7 := hZ6.wv hW7 rfl
      refine z_st (st' := [.int (Int32.ofInt r7)]) rfl ?_
      refine z_ireturn dX10_read_124 rfl rfl ⟨r7, v5, sSwH S2, rfl, hV5, hW7.base, hZ7, z2, fun b b1 b2 => ?_, Or.inl ⟨h17, h18, (ne2 50 (by decide)).1, (ne2 51 (by decide)).2, (ne2 52 (by decide)).2, (ne2 53 (by decide)).2⟩, fun k k1 k2 => (hW7.fz ⟨k1, k2⟩).trans (fr6 k k1 k2)⟩
      show S2.1 (swH b) = _ ∧ S2.2 (swH b) = _
      rw [swH_ne (by omega)]
      exact ne2 b b2
    · refine z_sipush (v := Int32.ofInt (-10001)) dX10_read_86 (by decide) ?_
      refine z_aload_n dX10_read_89 rfl rfl ?_
      refine v_getR hW3 (hTC 0 _ rfl) rfl kX10 fX10_19 dX10_read_90 ?_
      refine z_iload_n dX10_read_93 rfl rfl ?_
      have hW4 := hW3
      obtain ⟨τ', hT', -⟩ := hW4
      obtain ⟨p', ht'⟩ := hT'.2.1.2.1
      rw [← hV.2.2.1] at ht'
      have hX0 := kX6_beginOf 1 (Nat.le_refl _) hT' ht' g2
      refine z_callV (As := [_]) eX6_beginOf sX6_beginOf lX10_155 rfl dX10_read_94 (hT'.ob ht' (by decide)).choose_spec hX0 (Nat.le_trans (by decide) hd) rfl (Nat.le_of_ble_eq_true rfl) (fun r cs1 hp => ?_)
      obtain ⟨hcs, r26, rfl, gr26, -⟩ := hp
      obtain rfl := hcs.symm
      refine z_st (st' := [.int (Int32.ofInt r26), .int (Int32.ofInt (-10001))]) rfl ?_
      refine i_isub dX10_read_97 ?_
      refine z_ireturn dX10_read_98 rfl rfl ⟨-10001 - r26, v, S2, rfl, hV, hW3, hZ2, z2, fun b _ b2 => ne2 b b2, Or.inr ⟨fun z => h18 z.2, fun b b0 b1 => ne2 b (by omega)⟩, fr2⟩
  · refine z_iconst (v := Int32.ofInt (-1)) dX10_read_77 rfl ?_
    refine z_iload_n dX10_read_78 rfl rfl ?_
    refine i_isub dX10_read_79 ?_
    exact z_ireturn dX10_read_80 rfl rfl ⟨-1 - l1, v, S2, rfl, hV, hW3, hZ2, z2, fun b _ b2 => ne2 b b2, Or.inr ⟨fun z => h17 z.1, fun b b0 b1 => ne2 b (by omega)⟩, fr2⟩
set_option maxRecDepth 100000 in
set_option maxHeartbeats 4000000 in
/-- XmlText's firstWrong, from its beginning -/
theorem c_fwX {G : xG} {v : Nat → Nat} {sh : Nat → Option Sh} {B : Nat × Nat} {c0 : List va_E} {S : St} {cs : List va_E} {K : Int → St → Prop} (d : Nat) (hd : 10 ≤ d) (hT : sb shC sh) (hS : ∀ b x, sh b = some x → ¬ isS b) (h220 : sh 220 = some (.inl (9, rfXt))) (h3 : sh 3 = none) (hW : Wv G v sh B c0 S cs) (hV : VV v) (hZ : QT G v cs) (hw : wX9_firstWrong_11 (sZ (sClr S 4) 3 (fun _ => 0)) K) : X G yX9_firstWrong cX9_firstWrong 2 (some .int) d [.ref (G.1 + v 220)] cs (fun r c1 => ∃ (x : Int) (S' : St), r = some (.int (Int32.ofInt x)) ∧ K x S' ∧ Wv G v (uph sh 3 shT3) B c1 S' c1 ∧ ∀ k, 54 ≤ k → k < 107 → c1[k]? = cs[k]?) := by
  refine X.of false (by decide +kernel) (by decide) (Nat.le_of_ble_eq_true rfl) ?_
  show Z (RX9, cX9_firstWrong, 2, some .int, false) G d _ 0 [(0, .ref (G.1 + v 220))] [] cs
  refine z_aload_n dX9_firstWrong_0 rfl rfl ?_
  refine v_getR hW h220 rfl kX9 fX9_28 dX9_firstWrong_1 ?_
  refine z_aload_n dX9_firstWrong_4 rfl rfl ?_
  refine v_getR hW h220 rfl kX9 fX9_24 dX9_firstWrong_5 ?_
  have hX := c_restart 1 (Nat.le_refl _) hS hW h3 hV hZ
  have h3c : ∃ fs, cs[v 3]? = some (.inr (6, fs)) := by
    obtain ⟨w, x, y, hc⟩ := hZ
    rw [hV.2.2.1]
    exact ⟨_, hc⟩
  obtain ⟨fs, h3c⟩ := h3c
  refine z_callV (As := [_]) eX6_restart sX6_restart lX9_40 rfl dX9_firstWrong_8 h3c hX (Nat.le_trans (by decide) hd) rfl (Nat.le_of_ble_eq_true rfl) (fun r c1 hp => ?_)
  obtain ⟨eR, hW1, fr1⟩ := hp
  rw [eR]
  clear eR hX hW
  refine z_st (st' := []) rfl ?_
  have hU : sb shXT (uph sh 3 shT3) := fun a x h => by
    unfold shXT at h
    split at h
    · exact h
    · rw [uph_ne (by decide), h220]
      exact h
    · cases h
  refine ubX9_firstWrong_11 (sh := uph sh 3 shT3) (K := K) (by omega) (sbt hT (sb_uph h3)) (fun b x h => ?_) hU hW1 (fun x S' c2 hk hW2 => ⟨x, S', rfl, hk, hW2.base, fun k k1 k2 => (hW2.fz ⟨k1, k2⟩).trans (fr1 k k1 k2)⟩) hw
  rcases uph_c h with ⟨rfl, -⟩ | ⟨-, h⟩
  · unfold isS
    decide
  · exact hS b x h
set_option maxRecDepth 100000 in
set_option maxHeartbeats 4000000 in
theorem c_read {G : xG} {v : Nat → Nat} {B : Nat × Nat} {S : St} {cs : List va_E} {e : Env} {T : Int → Int} {n : Int} {fb : Int → Int} (d : Nat) (hd : 14 ≤ d) (hW0 : Wv G v shC B cs S cs) (hV0 : VV v) (hZ0 : QT G v cs) (hE : cE S e) (hV : EV e) (hF : SF S e fb) (hX : TX T n) (hT : rTx S T n) (hsn : TSn T n) (hB : B.1 + 6020 ≤ 600000 ∧ B.2 + 200000 + 100000 ≤ 7302250) : X G yX10_read cX10_read 4 (some .int) d [.ref (G.1 + v 0)] cs (fun r c1 => ∃ (x : Int) (v' : Nat → Nat) (S' : St), r = some (.int (Int32.ofInt x)) ∧ VV v' ∧ Wv G v' shC (B.1 + 20, B.2 + 1200) c1 S' c1 ∧ QT G v' c1 ∧ RdC e T fb S S' ∧ ∀ k, 54 ≤ k → k < 107 → c1[k]? = cs[k]?) := by
  have hTC : sb shC shC := fun _ _ h => h
  have e24 := hE.2.2.2.2.1
  refine X.of false (by decide +kernel) (by decide) (Nat.le_of_ble_eq_true rfl) ?_
  show Z (RX10, cX10_read, 4, some .int, false) G d _ 0 [(0, .ref (G.1 + v 0))] [] cs
  refine z_aload_n dX10_read_0 rfl rfl ?_
  refine v_getR hW0 (hTC 0 _ rfl) rfl kX10 fX10_32 dX10_read_1 ?_
  have hX1 := lX4_size (K := fun r S' => S' = S ∧ r = S.1 24 8) 0 (Nat.le_refl _) hTC shC_nS hW0 (fun _ => ⟨rfl, rfl⟩)
  refine z_callV (As := []) eX4_size sX4_size lX10_76 rfl dX10_read_4 (hW0.at (hTC 24 _ rfl)) hX1 (Nat.le_trans (by decide) hd) rfl (Nat.le_of_ble_eq_true rfl) (fun r c1 hp => ?_)
  obtain ⟨r1, S1, eR1, ⟨eS, hr⟩, hW1⟩ := hp
  rw [eS] at hW1
  rw [eR1]
  clear eS eR1 hX1
  have fr1 : ∀ k, 54 ≤ k → k < 107 → c1[k]? = cs[k]? := fun k k1 k2 => hW1.fz ⟨k1, k2⟩
  have hZ1 := hZ0.wv hW1 rfl
  have hW := hW1.base
  have gr : rng r1 := by
    have q : iv 0 6 (S.1 24 8) := hW.iI 24 8
    rw [hr]
    exact ⟨by omega, by omega⟩
  clear hW1 hW0 hZ0
  refine z_st (st' := [.int (Int32.ofInt r1)]) rfl ?_
  refine i_if_ne (tgt := 14) dX10_read_7 (by decide) gr (fun h4 => ?_) (fun h4 => ?_)
  rotate_left
  · refine z_sipush (v := Int32.ofInt (-3001)) dX10_read_10 (by decide) ?_
    exact z_ireturn dX10_read_13 rfl rfl ⟨-3001, v, S, rfl, hV0, hW.up (by show B.1 ≤ B.1 + 20; omega) (by show B.2 ≤ B.2 + 1200; omega) (by show B.1 + 20 ≤ _; omega) (by show B.2 + 1200 ≤ _; omega), hZ1, ⟨fun _ _ => ⟨rfl, rfl⟩, Or.inl ⟨by omega, rfl, rfl, fun _ _ _ => ⟨rfl, rfl⟩⟩⟩, fr1⟩
  have hc : ¬ eC e = 0 := by omega
  have g0 : c1[v 0]? = some (.inr (10, [.ref (G.1 + v 1), .ref (G.1 + v 3), .ref (G.1 + v 20), .ref (G.1 + v 22), .ref (G.1 + v 24), .ref (G.1 + v 33), .ref (G.1 + v 42), .ref (G.1 + v 46), .ref (G.1 + v 50), .int (Int32.ofInt (S.1 0 9))])) := hW.at (hTC 0 _ rfl)
  have room1 := hW.room
  refine z_new (fs := [.null, .null, .null, .int 0, .int 0, .int 0, .int 0]) kX9 nX10_143 aX9 bX9 dX10_read_14 (by decide +kernel) (by omega) ?_
  have g1 : (c1 ++ [.inr (9, [.null, .null, .null, .int 0, .int 0, .int 0, .int 0])])[v 0]? = some (.inr (10, [.ref (G.1 + v 1), .ref (G.1 + v 3), .ref (G.1 + v 20), .ref (G.1 + v 22), .ref (G.1 + v 24), .ref (G.1 + v 33), .ref (G.1 + v 42), .ref (G.1 + v 46), .ref (G.1 + v 50), .int (Int32.ofInt (S.1 0 9))])) := by
    rw [List.getElem?_append_left (at_lt g0)]
    exact g0
  refine z_dup dX10_read_17 rfl ?_
  refine z_aload_n dX10_read_18 rfl rfl ?_
  refine z_get kX10 fX10_12 dX10_read_19 g1 rfl ?_
  refine z_aload_n dX10_read_22 rfl rfl ?_
  refine z_get kX10 fX10_19 dX10_read_23 g1 rfl ?_
  have h3c : ∃ w x y, c1[v 3]? = some (.inr (6, [.ref (G.1 + v 4), w, .ref (G.1 + v 6), .ref (G.1 + v 7), .ref (G.1 + v 8), .ref (G.1 + v 9), .ref (G.1 + v 10), .ref (G.1 + v 11), .ref (G.1 + v 12), .ref (G.1 + v 13), .ref (G.1 + v 14), .ref (G.1 + v 15), .ref (G.1 + v 16), .ref (G.1 + v 17), .ref (G.1 + v 18), .ref (G.1 + v 19), .int x, .int y])) := by
    rw [hV0.2.2.1]
    exact hZ1
  obtain ⟨tw, tx, ty, h3c⟩ := h3c
  have hX0 := c_X9_init (G := G) (b1 := v 1) (b2 := v 3) (t0 := v 4) 1 (Nat.le_refl _) (pre := c1) (by unfold Cp; omega) rfl h3c rfl
  refine z_callI (As := [_, _]) eX9_init sX9_init lX10_145 dX10_read_26 hX0 (Nat.le_trans (by decide) hd) rfl (Nat.le_of_ble_eq_true rfl) (fun r c2 hp => ?_)
  obtain ⟨eR2, ec2⟩ := hp
  rw [eR2]
  have hW2 := hW.xml hV0 (by omega)
  rw [← ec2] at hW2
  obtain ⟨v2, hv2⟩ : ∃ v2, v2 = upv v 220 c1.length := ⟨_, rfl⟩
  have e220 : c1.length = v2 220 := by rw [hv2]; exact upv_at.symm
  have ev : ∀ b : Nat, b ≠ 220 → v2 b = v b := fun b hb => by rw [hv2]; exact upv_ne hb
  rw [← hv2] at hW2
  have hV2 : VV v2 := by
    obtain ⟨a1, a2, a3, a4⟩ := hV0
    exact ⟨(ev 0 (by decide)).trans a1, (ev 1 (by decide)).trans a2, (ev 3 (by decide)).trans a3, (ev 4 (by decide)).trans a4⟩
  have h3n : (uph shC 220 (.inl (9, rfXt))) 3 = none := rfl
  have hZ2 : QT G v2 c2 := hZ1.mv (hW2.f3 h3n) (fun a a0 a1 => ev a (by omega))
  have fr2 : ∀ k, 54 ≤ k → k < 107 → c2[k]? = cs[k]? := fun k k1 k2 => (hW2.fz ⟨k1, k2⟩).trans (fr1 k k1 k2)
  rw [e220, (ev 0 (by decide)).symm]
  clear ec2 eR2 hX0 g1 g0 hv2 e220 h3c hW hZ1 fr1
  refine z_st (st' := [.ref (G.1 + v2 220)]) rfl ?_
  have hsS : ∀ b x, (uph shC 220 (.inl (9, rfXt))) b = some x → ¬ isS b := fun b x h => by
    rcases uph_c h with ⟨rfl, -⟩ | ⟨-, h⟩
    · unfold isS
      decide
    · exact shC_nS b x h
  obtain ⟨Sx, hSx⟩ : ∃ Sx, Sx = sZ (sClr (sZ S 220 fXt) 4) 3 (fun _ => 0) := ⟨_, rfl⟩
  have nx : ∀ b, b ≠ 3 → b ≠ 4 → b ≠ 220 → Sx.1 b = S.1 b ∧ Sx.2 b = S.2 b := fun b b3 b4 b2 => by
    rw [hSx]
    exact ⟨((sZ_ne b3).1.trans (sClr_ne b b4).1).trans (sZ_ne b2).1, ((sZ_ne b3).2.trans (sClr_ne b b4).2).trans (sZ_ne b2).2⟩
  have h41 : Sx.1 4 1 = 0 := by rw [hSx]; rfl
  have k220 : ∀ j, Sx.1 220 j = fXt j := fun j => by
    rw [hSx]
    show (sClr (sZ S 220 fXt) 4).1 220 j = _
    rw [(sClr_ne 220 (by decide)).1]
    show (if (220 : Nat) = 220 then fXt j else S.1 220 j) = _
    exact if_pos rfl
  have hTx : rTx Sx T n := by
    unfold rTx
    rw [(nx 1 (by decide) (by decide) (by decide)).1, (nx 1 (by decide) (by decide) (by decide)).2]
    exact hT
  have hX0 := c_fwX (K := fun x S' => CF Sx S' ∧ XcO T n S' x) 10 (Nat.le_refl _) (sb_uph (shC_hi (by decide))) hsS uph_at h3n hW2 hV2 hZ2 (by
    rw [← hSx]
    exact k_xml hX hTx (by rw [hSx]; rfl) (by rw [hSx]; rfl) h41 (k220 3) (k220 4) (k220 5) (k220 6) (fun r S' h1 h2 => ⟨h1, h2⟩))
  refine z_callV (As := []) eX9_firstWrong sX9_firstWrong lX10_148 rfl dX10_read_29 (hW2.at uph_at) hX0 (Nat.le_trans (by decide) hd) rfl (Nat.le_of_ble_eq_true rfl) (fun r c3 hp => ?_)
  obtain ⟨r3, S3, eR3, ⟨hcf, hxo⟩, hW3, fr3'⟩ := hp
  rw [eR3]
  have fr3 : ∀ k, 54 ≤ k → k < 107 → c3[k]? = cs[k]? := fun k k1 k2 => (fr3' k k1 k2).trans (fr2 k k1 k2)
  clear eR3 hX0 hW2 hZ2 fr2 fr3'
  obtain ⟨sh3, hsh3⟩ : ∃ sh3, sh3 = uph (uph shC 220 (.inl (9, rfXt))) 3 shT3 := ⟨_, rfl⟩
  rw [← hsh3] at hW3
  have t33 : sh3 3 = some shT3 := by rw [hsh3]; exact uph_at
  have sC3 : sb shC sh3 := by
    rw [hsh3]
    exact sbt (sb_uph (shC_hi (by decide))) (sb_uph h3n)
  have gr3 : rng r3 := by
    rcases hxo with ⟨s, -, w, -⟩ | ⟨-, -, w⟩
    · rw [w]
      exact ⟨by decide, by decide⟩
    · exact w
  have n3 : ∀ b, b ≠ 3 → b ≠ 4 → b ≠ 220 → (b < 6 ∨ 19 < b) → S3.1 b = S.1 b ∧ S3.2 b = S.2 b := fun b b3 b4 b2 b6 => ⟨(hcf.1 b b3 b4 b2).trans (nx b b3 b4 b2).1, (hcf.2 b b4 b6).trans (nx b b3 b4 b2).2⟩
  refine z_st (st' := [.int (Int32.ofInt r3)]) rfl ?_
  refine z_istore_n dX10_read_32 rfl (by decide) ?_
  refine z_loc (L' := [(0, .ref (G.1 + v2 0)), (1, .int (Int32.ofInt r3))]) (List.forall_mem_cons.mpr ⟨rfl, (List.forall_mem_cons.mpr ⟨rfl, (fun _ h => nomatch h)⟩)⟩) ?_
  refine z_iload_n dX10_read_33 rfl rfl ?_
  refine z_iconst (v := Int32.ofInt (-1)) dX10_read_34 rfl ?_
  refine i_icmp_ne (tgt := 63) dX10_read_35 (by decide) gr3 (show rng (-1) from ⟨by decide, by decide⟩) (fun h12 => ?_) (fun h12 => ?_)
  · have hp0 : pX T = none := by
      rcases hxo with ⟨s, -, w, -⟩ | ⟨w, -⟩
      · exact absurd w h12
      · exact w
    refine z_iconst (v := Int32.ofInt (-1)) dX10_read_63 rfl ?_
    obtain ⟨hW4, hZ4⟩ := hW3.shut sC3 hV2.2.2.1 t33
    refine (c_readT (l1 := r3) (l2 := -1) hd hW4 hV2 hZ4 gr3 ⟨by decide, by decide⟩).post (fun r c hq => ?_)
    obtain ⟨x, v', S', q1, q2, q3, q4, q5, q6, q7, q8⟩ := hq
    refine ⟨x, v', S', q1, q2, q3.up (by show B.1 + 1 ≤ B.1 + 20; omega) (by show B.2 + 7 ≤ B.2 + 1200; omega) (by show B.1 + 20 ≤ _; omega) (by show B.2 + 1200 ≤ _; omega), q4, ⟨fun b hb => ?_, Or.inr ⟨hc, q5, fun s w => ?_, Or.inr ⟨fun X w => ?_, fun b b0 b1 => ?_⟩⟩⟩, fun k k1 k2 => (q8 k k1 k2).trans (fr3 k k1 k2)⟩
    · have w := q6 b (by omega) (by omega)
      have u := n3 b (by omega) (by omega) (by omega) (by omega)
      exact ⟨w.1.trans u.1, w.2.trans u.2⟩
    · rw [hp0] at w
      cases w
    · rw [hp0] at w
      cases w
    · rcases q7 with ⟨w, -⟩ | ⟨-, w⟩
      · exact absurd w h12
      · have u := n3 b (by omega) (by omega) (by omega) (by omega)
        exact ⟨(w b b0 b1).1.trans u.1, (w b b0 b1).2.trans u.2⟩
  · have h12 := Classical.not_not.mp h12
    obtain ⟨Xs0, x1, -, x3, x4, x5, x6, x7, x8, x9, x10, x11⟩ := hxo.resolve_right (fun z => z.2.1 h12)
    obtain ⟨pq, sv⟩ := pX_ok hX hsn x10 x1
    have m16 : S3.1 3 16 = (Xs0.1.length : Int) := x5.1.1
    have g0 : c3[v2 0]? = some (.inr (10, [.ref (G.1 + v2 1), .ref (G.1 + v2 3), .ref (G.1 + v2 20), .ref (G.1 + v2 22), .ref (G.1 + v2 24), .ref (G.1 + v2 33), .ref (G.1 + v2 42), .ref (G.1 + v2 46), .ref (G.1 + v2 50), .int (Int32.ofInt (S3.1 0 9))])) := hW3.at (sC3 0 _ rfl)
    have room3 := hW3.room
    refine z_new (fs := [.null, .null, .null, .null, .null, .null, .null, .null, .null, .null, .null, .null]) kX3 nX10_149 aX3 bX3 dX10_read_38 (by decide +kernel) (by omega) ?_
    have g4 : (c3 ++ [.inr (3, [.null, .null, .null, .null, .null, .null, .null, .null, .null, .null, .null, .null])])[v2 0]? = some (.inr (10, [.ref (G.1 + v2 1), .ref (G.1 + v2 3), .ref (G.1 + v2 20), .ref (G.1 + v2 22), .ref (G.1 + v2 24), .ref (G.1 + v2 33), .ref (G.1 + v2 42), .ref (G.1 + v2 46), .ref (G.1 + v2 50), .int (Int32.ofInt (S3.1 0 9))])) := by
      rw [List.getElem?_append_left (at_lt g0)]
      exact g0
    refine z_dup dX10_read_41 rfl ?_
    refine z_aload_n dX10_read_42 rfl rfl ?_
    refine z_get kX10 fX10_32 dX10_read_43 g4 rfl ?_
    refine z_aload_n dX10_read_46 rfl rfl ?_
    refine z_get kX10 fX10_19 dX10_read_47 g4 rfl ?_
    refine z_aload_n dX10_read_50 rfl rfl ?_
    refine z_get kX10 fX10_49 dX10_read_51 g4 rfl ?_
    have h3c : c3[v2 3]? = some (.inr (6, [.ref (G.1 + v2 4), .ref (G.1 + v2 1), .ref (G.1 + v2 6), .ref (G.1 + v2 7), .ref (G.1 + v2 8), .ref (G.1 + v2 9), .ref (G.1 + v2 10), .ref (G.1 + v2 11), .ref (G.1 + v2 12), .ref (G.1 + v2 13), .ref (G.1 + v2 14), .ref (G.1 + v2 15), .ref (G.1 + v2 16), .ref (G.1 + v2 17), .ref (G.1 + v2 18), .ref (G.1 + v2 19), .int (Int32.ofInt (S3.1 3 16)), .int (Int32.ofInt (S3.1 3 17))])) := hW3.at t33
    have hX0 := c_X3_init (G := G) (b1 := v2 24) (b2 := v2 3) (b3 := v2 50) (t0 := v2 4) (t1 := v2 1) (m := Xs0.1.length) 2 (Nat.le_refl _) (pre := c3) (by unfold Cp; omega) rfl h3c rfl rfl (by rw [← m16]; rfl) x4
    refine z_callI (As := [_, _, _]) eX3_init sX3_init lX10_151 dX10_read_54 hX0 (Nat.le_trans (by decide) hd) rfl (Nat.le_of_ble_eq_true rfl) (fun r c4 hp => ?_)
    obtain ⟨eR4, ec4⟩ := hp
    rw [eR4]
    have hfr : ∀ a, 230 ≤ a → a ≤ 240 → sh3 a = none ∧ ∀ b y, sh3 b = some y → nr a y := fun a a0 a1 => by
      rw [hsh3]
      refine ⟨by rw [uph_ne (by omega), uph_ne (by omega)]; exact shC_hi (by omega), nr_up (nr_up (fun b y hb => nr_C (by omega) hb) (fun ci rf q hr => ?_)) (fun ci rf q hr => ?_)⟩
      · cases q
        simp at hr
        omega
      · cases q
        simp at hr
        omega
    have hW4 := hW3.mean sC3 t33 x4 hfr (by omega)
    have ec5 : c4 = c3 ++ meC G Xs0.1.length c3.length (v2 24) (v2 3) (v2 1) (v2 4) (v2 50) := ec4
    rw [← ec5] at hW4
    obtain ⟨v4, hv4⟩ : ∃ v4, v4 = vMn v2 c3.length := ⟨_, rfl⟩
    have e230 : c3.length = v4 230 := by rw [hv4]; exact upv_at.symm
    have ev4 : ∀ b : Nat, b < 230 → v4 b = v2 b := fun b hb => by
      rw [hv4]
      unfold vMn
      rw [upv_ne (by omega), upv_ne (by omega), upv_ne (by omega), upv_ne (by omega), upv_ne (by omega), upv_ne (by omega), upv_ne (by omega), upv_ne (by omega)]
    rw [← hv4] at hW4
    have hV4 : VV v4 := by
      obtain ⟨a1, a2, a3, a4⟩ := hV2
      exact ⟨(ev4 0 (by decide)).trans a1, (ev4 1 (by decide)).trans a2, (ev4 3 (by decide)).trans a3, (ev4 4 (by decide)).trans a4⟩
    have fr4 : ∀ k, 54 ≤ k → k < 107 → c4[k]? = cs[k]? := fun k k1 k2 => (hW4.fz ⟨k1, k2⟩).trans (fr3 k k1 k2)
    rw [e230, (ev4 0 (by decide)).symm]
    clear ec4 ec5 eR4 hX0 g4 g0 hv4 e230 h3c
    obtain ⟨S4, hS4⟩ : ∃ S4, S4 = sMn S3 := ⟨_, rfl⟩
    have lo4 : ∀ b, b < 230 → S4.1 b = S3.1 b ∧ S4.2 b = S3.2 b := fun b hb => by
      rw [hS4]
      unfold sMn
      refine ⟨?_, ?_⟩
      · exact (((((((sZ_ne (by omega)).1.trans (sZ_ne (by omega)).1).trans (sZ_ne (by omega)).1).trans (sZ_ne (by omega)).1).trans (sZ_ne (by omega)).1).trans (sZ_ne (by omega)).1).trans (sZ_ne (by omega)).1).trans (sZ_ne (by omega)).1
      · exact (((((((sZ_ne (by omega)).2.trans (sZ_ne (by omega)).2).trans (sZ_ne (by omega)).2).trans (sZ_ne (by omega)).2).trans (sZ_ne (by omega)).2).trans (sZ_ne (by omega)).2).trans (sZ_ne (by omega)).2).trans (sZ_ne (by omega)).2
    have zz : ∀ x : Int, S4.2 231 x = 0 ∧ S4.2 232 x = 0 ∧ S4.2 233 x = 0 ∧ S4.2 234 x = 0 ∧ S4.2 235 x = 0 ∧ S4.2 236 x = 0 := fun x => by
      rw [hS4]
      exact ⟨rfl, rfl, rfl, rfl, rfl, rfl⟩
    rw [← hS4] at hW4
    have q4 : ∀ b, b < 230 → S4.1 b = S3.1 b ∧ S4.2 b = S3.2 b := lo4
    have a4 : ∀ b, b ≠ 3 → b ≠ 4 → b ≠ 220 → (b < 6 ∨ 19 < b) → b < 230 → S4.1 b = S.1 b ∧ S4.2 b = S.2 b := fun b b3 b4 b2 b6 bl => ⟨(lo4 b bl).1.trans (n3 b b3 b4 b2 b6).1, (lo4 b bl).2.trans (n3 b b3 b4 b2 b6).2⟩
    have k4 : ∀ b, 20 ≤ b → b < 54 → S4.1 b = S.1 b ∧ S4.2 b = S.2 b := fun b b0 b1 => a4 b (by omega) (by omega) (by omega) (by omega) (by omega)
    have hE4 : cE S4 e := hE.mv (congrFun (k4 42 (by decide) (by decide)).1 3) (congrFun (k4 24 (by decide) (by decide)).1 8) (k4 43 (by decide) (by decide)).2 (k4 44 (by decide) (by decide)).2 (k4 45 (by decide) (by decide)).2 (k4 25 (by decide) (by decide)).2 (k4 26 (by decide) (by decide)).2 (k4 27 (by decide) (by decide)).2 (k4 28 (by decide) (by decide)).2 (k4 29 (by decide) (by decide)).2 (k4 30 (by decide) (by decide)).2
    have hF4 : SF S4 e fb := fun c hc => by
      unfold RC
      rw [(k4 30 (by decide) (by decide)).2, (k4 31 (by decide) (by decide)).2, (k4 32 (by decide) (by decide)).2]
      exact hF c hc
    have hC4 : CM T n Xs0 S4 := by
      have hC3 : CM T n Xs0 S3 := by
        refine ⟨⟨hX, ?_⟩, ⟨x3, x4⟩, x5, x6, x7, x8, x10, x11, sv⟩
        unfold rTc
        rw [(n3 1 (by decide) (by decide) (by decide) (by decide)).1, (n3 1 (by decide) (by decide) (by decide) (by decide)).2]
        exact hT
      unfold CM rTc cX cXe cXa cXv KD SD TD at hC3 ⊢
      rw [(lo4 1 (by decide)).1, (lo4 3 (by decide)).1, (lo4 4 (by decide)).1, (lo4 1 (by decide)).2, (lo4 4 (by decide)).2, (lo4 6 (by decide)).2, (lo4 7 (by decide)).2, (lo4 8 (by decide)).2, (lo4 9 (by decide)).2, (lo4 10 (by decide)).2, (lo4 11 (by decide)).2, (lo4 12 (by decide)).2, (lo4 13 (by decide)).2, (lo4 14 (by decide)).2, (lo4 15 (by decide)).2, (lo4 16 (by decide)).2, (lo4 17 (by decide)).2, (lo4 18 (by decide)).2, (lo4 19 (by decide)).2]
      exact hC3
    refine z_st (st' := [.ref (G.1 + v4 230)]) rfl ?_
    have hX0 := lX3_firstWrong (v := v4) (sh := shMn sh3 Xs0.1.length) (m := Xs0.1.length) (K := fun r S' => MF S4 S' ∧ ((r = -1 ∧ ∃ M', mng e T Xs0 fb = some M' ∧ PMn T n Xs0 e fb M' S') ∨ (0 ≤ r ∧ r < Xs0.1.length ∧ mng e T Xs0 fb = none))) 9 (Nat.le_refl _) x4 (sbt sC3 (sb_Mn (fun a a0 a1 => (hfr a a0 a1).1))) (shMn_S (fun b x h => by
      rw [hsh3] at h
      rcases uph_c h with ⟨rfl, -⟩ | ⟨-, h⟩
      · unfold isS
        decide
      · exact hsS b x h)) (sb_Me t33) hW4 (k_mean hC4 hE4 hV hF4 (fun x _ _ => ⟨(zz x).1, (zz x).2.1, (zz x).2.2.1, (zz x).2.2.2.1, (zz x).2.2.2.2.1⟩) (fun o _ _ => (zz o).2.2.2.2.2) (fun r S' m h => ⟨m, h⟩))
    refine z_callV (As := []) eX3_firstWrong sX3_firstWrong lX10_154 rfl dX10_read_57 (hW4.at (sb_Me t33 230 _ rfl)) hX0 (Nat.le_trans (by decide) hd) rfl (Nat.le_of_ble_eq_true rfl) (fun r c5 hp => ?_)
    obtain ⟨r5, S5, eR5, ⟨mf, hO⟩, hW5⟩ := hp
    rw [eR5]
    clear eR5 hX0
    have fr5 : ∀ k, 54 ≤ k → k < 107 → c5[k]? = cs[k]? := fun k k1 k2 => (hW5.fz ⟨k1, k2⟩).trans (fr3 k k1 k2)
    have gr5 : rng r5 := by
      rcases hO with ⟨w, -⟩ | ⟨w, w2, -⟩
      · rw [w]
        exact ⟨by decide, by decide⟩
      · exact ⟨by omega, by omega⟩
    refine z_st (st' := [.int (Int32.ofInt r5)]) rfl ?_
    refine z_goto (tgt := 64) dX10_read_60 (by decide) ?_
    have t35 : shMn sh3 Xs0.1.length 3 = some shT3 := by
      unfold shMn
      rw [uph_ne (by decide), uph_ne (by decide), uph_ne (by decide), uph_ne (by decide), uph_ne (by decide), uph_ne (by decide), uph_ne (by decide), uph_ne (by decide)]
      exact t33
    obtain ⟨hW6, hZ6⟩ := hW5.shut (sbt sC3 (sb_Mn (fun a a0 a1 => (hfr a a0 a1).1))) hV4.2.2.1 t35
    refine (c_readT (l1 := r3) (l2 := r5) hd hW6 hV4 hZ6 gr3 gr5).post (fun r c hq => ?_)
    obtain ⟨x, v', S', q1, q2, q3, q4, q5, q6, q7, q8⟩ := hq
    have n5 : ∀ b, 20 ≤ b → b < 50 → S5.1 b = S.1 b ∧ S5.2 b = S.2 b := fun b b0 b1 => ⟨(mf.1 b (by omega)).trans (k4 b b0 (by omega)).1, (mf.2 b (by omega) (by omega)).trans (k4 b b0 (by omega)).2⟩
    have n50 : S5.1 0 = S.1 0 ∧ S5.2 0 = S.2 0 := by
      have u := a4 0 (by decide) (by decide) (by decide) (by decide) (by decide)
      exact ⟨(mf.1 0 (by decide)).trans u.1, (mf.2 0 (by decide) (by decide)).trans u.2⟩
    refine ⟨x, v', S', q1, q2, q3.up (by show B.1 + 1 + 8 ≤ B.1 + 20; omega) (by show B.2 + 7 + 1044 ≤ B.2 + 1200; omega) (by show B.1 + 20 ≤ _; omega) (by show B.2 + 1200 ≤ _; omega), q4, ⟨fun b hb => ?_, Or.inr ⟨hc, q5, fun s w => ?_, ?_⟩⟩, fun k k1 k2 => (q8 k k1 k2).trans (fr5 k k1 k2)⟩
    · have w := q6 b (by omega) (by omega)
      rcases hb with rfl | hb
      · exact ⟨w.1.trans n50.1, w.2.trans n50.2⟩
      · have u := n5 b (by omega) (by omega)
        exact ⟨w.1.trans u.1, w.2.trans u.2⟩
    · rw [x1] at w
      cases w
      exact x11
    · rcases hO with ⟨w, M', m1, m2⟩ | ⟨w0, w1, m1⟩
      · refine Or.inl ⟨Xs0, M', x1, m1, ?_⟩
        rcases q7 with ⟨-, -, y1, y2, y3, y4⟩ | ⟨y, -⟩
        · have hh : cH S5 e M'.1 := m2.2.2.2.1
          unfold cH6
          unfold cH at hh
          rw [y1, y2, y3, y4]
          exact hh
        · exact absurd ⟨h12, w⟩ y
      · refine Or.inr ⟨fun X w => ?_, fun b b0 b1 => ?_⟩
        · rw [x1] at w
          cases w
          exact m1
        · rcases q7 with ⟨-, y, -⟩ | ⟨-, y⟩
          · omega
          · have u := n5 b (by omega) (by omega)
            exact ⟨(y b b0 b1).1.trans u.1, (y b b0 b1).2.trans u.2⟩

