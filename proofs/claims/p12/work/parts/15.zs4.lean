/-! THE CLASS'S read -/
theorem RdQ.mono {G : xG} {v : Nat → Nat} {B B1 : Nat × Nat} {S S1 : St} {cs c1 : List va_E} {P P1 : St → Prop} {r : Option Value} {c : List va_E} (h : RdQ G v B1 S1 c1 P1 r c) (hb : B1.1 ≤ B.1 ∧ B1.2 ≤ B.2 ∧ B.1 ≤ 600000 ∧ B.2 ≤ 7302250) (hS : ∀ b, b ≠ 1 → b ≠ 4 → S1.1 b = S.1 b ∧ S1.2 b = S.2 b) (hP : ∀ S', P1 S' → P S') (hc : ∀ k, 54 ≤ k → k < 107 → c1[k]? = cs[k]?) : RdQ G v B S cs P r c := by
  obtain ⟨x, v', S', e1, hV, hW, hZ, h1, h2, h3⟩ := h
  exact ⟨x, v', S', e1, hV, hW.up hb.1 hb.2.1 hb.2.2.1 hb.2.2.2, hZ, fun b q1 q2 => ⟨(h1 b q1 q2).1.trans (hS b q1 q2).1, (h1 b q1 q2).2.trans (hS b q1 q2).2⟩, hP S' h2, fun k k1 k2 => (h3 k k1 k2).trans (hc k k1 k2)⟩
theorem Z.post {M : xM} {G : xG} {d : Nat} {P P1 : xP} {pc : Nat} {L : List (Nat × Value)} {st : List Value} {cs : List va_E} (h : Z M G d P pc L st cs) (k : ∀ r c, P r c → P1 r c) : Z M G d P1 pc L st cs := fun p l e R s m args below meth c H locs cells slots ls Q h1 h2 h3 h4 h5 => h p l e R s m args below meth c H locs cells slots ls Q h1 h2 h3 h4 (fun r cs' H' locs' cells' slots' pc' ls' hp => h5 r cs' H' locs' cells' slots' pc' ls' (k r cs' hp))
/-- what reading leaves of the text -/
def RdP (S S' : St) : Prop := (S.1 24 8 = 0 ∧ S'.1 1 = S.1 1 ∧ S'.2 1 = S.2 1) ∨ (¬ S.1 24 8 = 0 ∧ S'.1 1 1 = 0)
set_option maxRecDepth 100000 in
set_option maxHeartbeats 4000000 in
theorem c_read {G : xG} {v : Nat → Nat} {B : Nat × Nat} {S : St} {cs : List va_E} (d : Nat) (hd : 14 ≤ d) (hW0 : Wv G v shC B cs S cs) (hV : VV v) (hZ0 : QZ G v cs) (hB6 : B.1 + 6020 ≤ 600000 ∧ B.2 + 19200 ≤ 7302250) : X G yX10_read cX10_read 4 (some .int) d [.ref (G.1 + v 0)] cs (RdQ G v (B.1 + 20, B.2 + 1200) S cs (RdP S)) := by
  refine X.of false (by decide +kernel) (by decide) (Nat.le_of_ble_eq_true rfl) ?_
  show Z (RX10, cX10_read, 4, some .int, false) G d _ 0 [(0, .ref (G.1 + v 0))] [] cs
  have hTC : sb shC shC := fun _ _ h => h
  refine z_aload_n dX10_read_0 rfl rfl ?_
  refine v_getR hW0 (hTC 0 _ rfl) rfl kX10 fX10_32 dX10_read_1 ?_
  have hX := lX4_size (K := fun r S' => S' = S ∧ r = S.1 24 8) 0 (Nat.le_refl _) hTC shC_nS hW0 (fun _ => ⟨rfl, rfl⟩)
  refine z_callV (As := []) eX4_size sX4_size lX10_76 rfl dX10_read_4 (hW0.at (hTC 24 _ rfl)) hX (Nat.le_trans (by decide) hd) rfl (Nat.le_of_ble_eq_true rfl) (fun r c1 hp => ?_)
  obtain ⟨r1, S1, eR1, ⟨eS, hr⟩, hW1⟩ := hp
  rw [eS] at hW1
  rw [eR1]
  clear eS eR1 hX
  have fr1 : ∀ k, 54 ≤ k → k < 107 → c1[k]? = cs[k]? := fun k k1 k2 => hW1.fz (Or.inl ⟨k1, k2⟩)
  have hZ1 := hZ0.wv hW1
  have hW := hW1.base
  have gr : rng r1 := by
    have q : iv 0 6 (S.1 24 8) := hW.iI 24 8
    rw [hr]
    exact ⟨by omega, by omega⟩
  clear hW1 hW0 hZ0
  refine z_st (st' := [.int (Int32.ofInt r1)]) rfl ?_
  refine i_if_ne (tgt := 14) dX10_read_7 (by decide) gr (fun h4 => ?_) (fun h4 => ?_)
  · obtain ⟨τ, hT, o1, ⟨p3, o3⟩, ⟨p24, t24⟩, ⟨p50, t50⟩, n0, bb1, bb2, back⟩ := hW.see hV hZ1 ⟨by omega, by omega⟩
    obtain ⟨Bh, eBh1, eBh2, hTh⟩ : ∃ Bh : Nat × Nat, Bh.1 = (hB τ B).1 ∧ Bh.2 = (hB τ B).2 ∧ WT G Bh (hid τ v) c1 := ⟨_, rfl, rfl, hT⟩
    obtain ⟨_, v1, v3, v4, v24, v33⟩ := id hV
    have g0 : c1[v 0]? = some (.inr (10, [.ref (G.1 + v 1), .ref (G.1 + v 3), .ref (G.1 + v 20), .ref (G.1 + v 22), .ref (G.1 + v 24), .ref (G.1 + v 33), .ref (G.1 + v 42), .ref (G.1 + v 46), .ref (G.1 + v 50), .int (Int32.ofInt (S.1 0 9))])) := hW.at (hTC 0 _ rfl)
    have l0 : v 0 < c1.length := at_lt g0
    obtain ⟨b5, eb5⟩ : ∃ b : Nat, b = c1.length := ⟨_, rfl⟩
    refine z_new (fs := [.null, .null, .null, .int 0, .int 0, .int 0, .int 0]) kX9 nX10_143 aX9 bX9 dX10_read_14 (by decide +kernel) (by have := hTh.2.2.2.2.2.2; unfold rho1 rho2 at this; omega) ?_
    rw [← eb5]
    have g1 : (c1 ++ [.inr (9, [.null, .null, .null, .int 0, .int 0, .int 0, .int 0])])[v 0]? = some (.inr (10, [.ref (G.1 + v 1), .ref (G.1 + v 3), .ref (G.1 + v 20), .ref (G.1 + v 22), .ref (G.1 + v 24), .ref (G.1 + v 33), .ref (G.1 + v 42), .ref (G.1 + v 46), .ref (G.1 + v 50), .int (Int32.ofInt (S.1 0 9))])) := by
      rw [List.getElem?_append_left l0]
      exact g0
    refine z_dup dX10_read_17 rfl ?_
    refine z_aload_n dX10_read_18 rfl rfl ?_
    refine z_get kX10 fX10_12 dX10_read_19 g1 rfl ?_
    refine z_aload_n dX10_read_22 rfl rfl ?_
    refine z_get kX10 fX10_19 dX10_read_23 g1 rfl ?_
    have s1 : oT (hid τ v) (v 1) 5 := by rw [v1]; exact o1
    have s3 : hid τ v (v 3) = some (.inl (6, p3)) := by rw [v3]; exact o3
    have hX0 := kX9_init 1 (Nat.le_refl _) hTh s1 s3 (by omega)
    rw [← eb5] at hX0
    refine z_callI (As := [_, _]) eX9_init sX9_init lX10_145 dX10_read_26 hX0 (Nat.le_trans (by decide) hd) rfl (Nat.le_of_ble_eq_true rfl) (fun r c2 hp => ?_)
    obtain ⟨rfl, τ2, p5, hT2, k2, t5⟩ := hp
    clear hX0 g1
    refine z_st (st' := [.ref (G.1 + b5)]) rfl ?_
    have hX0 := kX9_firstWrong 9 (Nat.le_refl _) hT2 t5
    refine z_callV (As := []) eX9_firstWrong sX9_firstWrong lX10_148 rfl dX10_read_29 (hT2.ob t5 (by decide)).choose_spec hX0 (Nat.le_trans (by decide) hd) rfl (Nat.le_of_ble_eq_true rfl) (fun r c3 hp => ?_)
    obtain ⟨τ3, r10, rfl, gr10, hT3, k3, -⟩ := hp
    clear hX0
    have f3 : Fx [5, 6, 9] (hid τ v) c1 τ3 c3 := Fx.tr (Fx.tr (W := [5, 6, 9]) Fx.rf k2 (by decide)) k3 (by decide)
    refine z_st (st' := [.int (Int32.ofInt r10)]) rfl ?_
    refine z_istore_n dX10_read_32 rfl (by decide) ?_
    refine z_loc (L' := [(0, .ref (G.1 + v 0)), (1, .int (Int32.ofInt r10))]) (List.forall_mem_cons.mpr ⟨rfl, (List.forall_mem_cons.mpr ⟨rfl, (fun _ h => nomatch h)⟩)⟩) ?_
    refine z_iload_n dX10_read_33 rfl rfl ?_
    refine z_iconst (v := Int32.ofInt (-1)) dX10_read_34 rfl ?_
    refine i_icmp_ne (tgt := 63) dX10_read_35 (by decide) gr10 (show rng (-1) from ⟨by decide, by decide⟩) (fun h12 => ?_) (fun h12 => ?_)
    · refine z_iconst (v := Int32.ofInt (-1)) dX10_read_63 rfl ?_
      obtain ⟨S5, hW5, hZ5, ne5, fr5⟩ := back [5, 6, 9] τ3 c3 _ 1 7 hT3 f3 (by decide) (by show Bh.1 + 1 = _; omega) (by show Bh.2 + 7 = _; omega) ⟨by omega, by omega⟩
      refine (c_readT (l1 := r10) (l2 := -1) hd hW5 hV hZ5 gr10 ⟨by decide, by decide⟩).post (fun r c hq => hq.mono ⟨by show B.1 + 1 ≤ B.1 + 20; omega, by show B.2 + 7 ≤ B.2 + 1200; omega, by show B.1 + 20 ≤ _; omega, by show B.2 + 1200 ≤ _; omega⟩ ne5 (fun S' hs => Or.inr ⟨by omega, hs⟩) (fun k q1 q2 => (fr5 k q1 q2).trans (fr1 k q1 q2)))
    · have n3 := f3.2.2.1 (v 0) l0 n0
      have g3 : c3[v 0]? = some (.inr (10, [.ref (G.1 + v 1), .ref (G.1 + v 3), .ref (G.1 + v 20), .ref (G.1 + v 22), .ref (G.1 + v 24), .ref (G.1 + v 33), .ref (G.1 + v 42), .ref (G.1 + v 46), .ref (G.1 + v 50), .int (Int32.ofInt (S.1 0 9))])) := n3.1.trans g0
      obtain ⟨b6, eb6⟩ : ∃ b : Nat, b = c3.length := ⟨_, rfl⟩
      refine z_new (fs := [.null, .null, .null, .null, .null, .null, .null, .null, .null, .null, .null, .null]) kX3 nX10_149 aX3 bX3 dX10_read_38 (by decide +kernel) (by have := hT3.2.2.2.2.2.2; unfold rho1 rho2 at this; dsimp only at this; omega) ?_
      rw [← eb6]
      have g4 : (c3 ++ [.inr (3, [.null, .null, .null, .null, .null, .null, .null, .null, .null, .null, .null, .null])])[v 0]? = some (.inr (10, [.ref (G.1 + v 1), .ref (G.1 + v 3), .ref (G.1 + v 20), .ref (G.1 + v 22), .ref (G.1 + v 24), .ref (G.1 + v 33), .ref (G.1 + v 42), .ref (G.1 + v 46), .ref (G.1 + v 50), .int (Int32.ofInt (S.1 0 9))])) := by
        rw [List.getElem?_append_left (at_lt g3)]
        exact g3
      refine z_dup dX10_read_41 rfl ?_
      refine z_aload_n dX10_read_42 rfl rfl ?_
      refine z_get kX10 fX10_32 dX10_read_43 g4 rfl ?_
      refine z_aload_n dX10_read_46 rfl rfl ?_
      refine z_get kX10 fX10_19 dX10_read_47 g4 rfl ?_
      refine z_aload_n dX10_read_50 rfl rfl ?_
      refine z_get kX10 fX10_49 dX10_read_51 g4 rfl ?_
      have hX0 := kX3_init 2 (Nat.le_refl _) hT3 (f3.1.e t24 (by decide)) (f3.1.e s3 (by decide)) (f3.1.e t50 (by decide)) (by dsimp only; omega)
      rw [← eb6] at hX0
      refine z_callI (As := [_, _, _]) eX3_init sX3_init lX10_151 dX10_read_54 hX0 (Nat.le_trans (by decide) hd) rfl (Nat.le_of_ble_eq_true rfl) (fun r c4 hp => ?_)
      obtain ⟨rfl, τ4, p6, hT4, k4, t6⟩ := hp
      clear hX0 g4
      refine z_st (st' := [.ref (G.1 + b6)]) rfl ?_
      have hX0 := kX3_firstWrong 9 (Nat.le_refl _) hT4 t6
      refine z_callV (As := []) eX3_firstWrong sX3_firstWrong lX10_154 rfl dX10_read_57 (hT4.ob t6 (by decide)).choose_spec hX0 (Nat.le_trans (by decide) hd) rfl (Nat.le_of_ble_eq_true rfl) (fun r c5 hp => ?_)
      obtain ⟨τ5, r35, rfl, gr35, hT5, k5, -⟩ := hp
      clear hX0
      have f5 : Fx [1, 3, 5, 6, 9] (hid τ v) c1 τ5 c5 := Fx.tr (Fx.tr (Fx.tr (W := [1, 3, 5, 6, 9]) Fx.rf f3 (by decide)) k4 (by decide)) k5 (by decide)
      refine z_st (st' := [.int (Int32.ofInt r35)]) rfl ?_
      refine z_goto (tgt := 64) dX10_read_60 (by decide) ?_
      obtain ⟨S5, hW5, hZ5, ne5, fr5⟩ := back [1, 3, 5, 6, 9] τ5 c5 _ 11 1107 hT5 f5 (by decide) (by show Bh.1 + 1 + 10 = _; omega) (by show Bh.2 + 7 + 1100 = _; omega) ⟨by omega, by omega⟩
      refine (c_readT (l1 := r10) (l2 := r35) hd hW5 hV hZ5 gr10 gr35).post (fun r c hq => hq.mono ⟨by show B.1 + 11 ≤ B.1 + 20; omega, by show B.2 + 1107 ≤ B.2 + 1200; omega, by show B.1 + 20 ≤ _; omega, by show B.2 + 1200 ≤ _; omega⟩ ne5 (fun S' hs => Or.inr ⟨by omega, hs⟩) (fun k q1 q2 => (fr5 k q1 q2).trans (fr1 k q1 q2)))
  · refine z_sipush (v := Int32.ofInt (-3001)) dX10_read_10 (by decide) ?_
    exact z_ireturn dX10_read_13 rfl rfl ⟨-3001, v, S, rfl, hV, hW.up (by show B.1 ≤ B.1 + 20; omega) (by show B.2 ≤ B.2 + 1200; omega) (by show B.1 + 20 ≤ _; omega) (by show B.2 + 1200 ≤ _; omega), hZ1, fun _ _ _ => ⟨rfl, rfl⟩, Or.inl ⟨by omega, rfl, rfl⟩, fr1⟩

