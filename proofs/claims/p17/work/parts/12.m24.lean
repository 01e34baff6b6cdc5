def wX11_kind (a1 a2 : Int) (S : St) (K : Int → St → Prop) : Prop := rng a1 → rng a2 → (wX11_in (a1) (0) (1) S (fun r1 S2 => (rng (r1) ∧ ((r1 = 0 → K ((-1)) S2) ∧ ((¬ (r1 = 0)) → (wX11_isObject (a1) (a2) S2 (fun r5 S6 => (rng (r5) ∧ ((r5 = 0 → K ((-1)) S6) ∧ ((¬ (r5 = 0)) → ((0 : Int) ≤ ((30 * a1) + a2) ∧ ((30 * a1) + a2) < (90 : Int) ∧ (iv 0 5 (S6.2 68 (((30 * a1) + a2))) → K (S6.2 68 (((30 * a1) + a2))) S6))))))))))))
set_option maxRecDepth 100000 in
set_option maxHeartbeats 4000000 in
theorem lX11_kind {G : xG} {sh : Nat → Option Sh} {J : St → List va_E → Prop} {a1 a2 : Int} {S : St} {cs : List va_E} {K : Int → St → Prop} (d : Nat) (hd : 1 ≤ d) (hJ : Stb sh J) (hT : isM sh) (hW : Wd G sh mT J S cs) (g1 : rng a1) (g2 : rng a2) (hw : wX11_kind a1 a2 S K) : X G yX11_kind cX11_kind 3 (some .int) d [.ref (G.1 + 54), .int (Int32.ofInt a1), .int (Int32.ofInt a2)] cs (qI G sh mT J K) := by
  refine X.of false (by decide +kernel) (by decide) (Nat.le_of_ble_eq_true rfl) ?_
  show Z (RX11, cX11_kind, 3, some .int, false) G d _ 0 [(0, .ref (G.1 + 54)), (1, .int (Int32.ofInt a1)), (2, .int (Int32.ofInt a2))] [] cs
  have hP : ∀ (v : Int) (S : St) (cs : List va_E), K v S → Wd G sh mT J S cs → qI G sh mT J K (some (.int (Int32.ofInt v))) cs := fun v S cs a b => ⟨v, S, rfl, a, b⟩
  unfold wX11_kind at hw
  have hw := hw g1 g2
  refine z_iload_n dX11_kind_0 rfl rfl ?_
  refine z_iconst (v := Int32.ofInt 0) dX11_kind_1 rfl ?_
  refine z_iconst (v := Int32.ofInt 1) dX11_kind_2 rfl ?_
  have hX := lX11_in 0 (Nat.le_refl _) hJ hT hW g1 ⟨by decide, by decide⟩ ⟨by decide, by decide⟩ hw
  refine z_callS (As := [_, _, _]) eX11_in sX11_in lX11_174 dX11_kind_3 hX (Nat.le_trans (by decide) hd) rfl (Nat.le_of_ble_eq_true rfl) (fun r cs hp => ?_)
  obtain ⟨r1, S2, rfl, hw, hW⟩ := hp
  refine z_st (st' := [.int (Int32.ofInt (r1))]) rfl ?_
  obtain ⟨q4, hw⟩ := hw
  refine i_if_eq (tgt := 32) dX11_kind_6 (by decide) q4 (fun h3 => ?_) (fun h3 => ?_)
  · have hw := hw.1 h3
    refine z_iconst (v := Int32.ofInt (-1)) dX11_kind_32 rfl ?_
    exact z_ireturn dX11_kind_33 rfl rfl (hP _ _ _ hw hW)
  · have hw := hw.2 h3
    refine z_aload_n dX11_kind_9 rfl rfl ?_
    refine z_iload_n dX11_kind_10 rfl rfl ?_
    refine z_iload_n dX11_kind_11 rfl rfl ?_
    have hX := lX11_isObject 0 (Nat.le_refl _) hJ hT hW g1 g2 hw
    refine z_callV (As := [_, _]) eX11_isObject sX11_isObject lX11_247 rfl dX11_kind_12 (hW.1 _ _ hT.1) hX (Nat.le_trans (by decide) hd) rfl (Nat.le_of_ble_eq_true rfl) (fun r cs hp => ?_)
    obtain ⟨r5, S6, rfl, hw, hW⟩ := hp
    refine z_st (st' := [.int (Int32.ofInt (r5))]) rfl ?_
    obtain ⟨q8, hw⟩ := hw
    refine i_if_eq (tgt := 32) dX11_kind_15 (by decide) q8 (fun h7 => ?_) (fun h7 => ?_)
    · have hw := hw.1 h7
      refine z_iconst (v := Int32.ofInt (-1)) dX11_kind_32 rfl ?_
      exact z_ireturn dX11_kind_33 rfl rfl (hP _ _ _ hw hW)
    · have hw := hw.2 h7
      refine z_aload_n dX11_kind_18 rfl rfl ?_
      refine g_getR hW hT.1 mr15 kX11 fX11_50 dX11_kind_19 ?_
      refine z_bipush (v := Int32.ofInt 30) dX11_kind_22 (by decide) ?_
      refine z_iload_n dX11_kind_24 rfl rfl ?_
      refine i_imul dX11_kind_25 ?_
      refine z_iload_n dX11_kind_26 rfl rfl ?_
      refine i_iadd dX11_kind_27 ?_
      obtain ⟨q9a, q9b, hw⟩ := hw
      have q10 : iv 0 5 (S6.2 68 (((30 * a1) + a2))) := mA68 hW _
      have hw := hw q10
      refine g_iald hW (ma68 hT) q9a q9b (by decide) dX11_kind_28 ?_
      refine z_goto (tgt := 33) dX11_kind_29 (by decide) ?_
      exact z_ireturn dX11_kind_33 rfl rfl (hP _ _ _ hw hW)

def wX11_pieceAt (a1 : Int) (S : St) (K : Int → St → Prop) : Prop := rng a1 → (iv 0 3000 (S.1 54 67) → ((S.1 54 67 ≤ a1 → K ((-1)) S) ∧ ((¬ (S.1 54 67 ≤ a1)) → ((0 : Int) ≤ a1 ∧ a1 < (3000 : Int) ∧ (iv (-2147483648) 2147483647 (S.2 104 (a1)) → K (S.2 104 (a1)) S)))))
set_option maxRecDepth 100000 in
set_option maxHeartbeats 4000000 in
theorem lX11_pieceAt {G : xG} {sh : Nat → Option Sh} {J : St → List va_E → Prop} {a1 : Int} {S : St} {cs : List va_E} {K : Int → St → Prop} (d : Nat) (hd : 0 ≤ d) (hJ : Stb sh J) (hT : isM sh) (hW : Wd G sh mT J S cs) (g1 : rng a1) (hw : wX11_pieceAt a1 S K) : X G yX11_pieceAt cX11_pieceAt 2 (some .int) d [.ref (G.1 + 54), .int (Int32.ofInt a1)] cs (qI G sh mT J K) := by
  refine X.of false (by decide +kernel) (by decide) (Nat.le_of_ble_eq_true rfl) ?_
  show Z (RX11, cX11_pieceAt, 2, some .int, false) G d _ 0 [(0, .ref (G.1 + 54)), (1, .int (Int32.ofInt a1))] [] cs
  have hP : ∀ (v : Int) (S : St) (cs : List va_E), K v S → Wd G sh mT J S cs → qI G sh mT J K (some (.int (Int32.ofInt v))) cs := fun v S cs a b => ⟨v, S, rfl, a, b⟩
  unfold wX11_pieceAt at hw
  have hw := hw g1
  refine z_iload_n dX11_pieceAt_0 rfl rfl ?_
  refine z_aload_n dX11_pieceAt_1 rfl rfl ?_
  have q1 : iv 0 3000 (S.1 54 67) := mI67 hW
  have hw := hw q1
  refine g_getI hW hT.1 mr67 kX11 fX11_420 dX11_pieceAt_2 ?_
  refine i_icmp_ge (tgt := 17) dX11_pieceAt_5 (by decide) g1 (rngq q1 (by decide) (by decide)) (fun h2 => ?_) (fun h2 => ?_)
  · have hw := hw.1 h2
    refine z_iconst (v := Int32.ofInt (-1)) dX11_pieceAt_17 rfl ?_
    exact z_ireturn dX11_pieceAt_18 rfl rfl (hP _ _ _ hw hW)
  · have hw := hw.2 h2
    refine z_aload_n dX11_pieceAt_8 rfl rfl ?_
    refine g_getR hW hT.1 mr68 kX11 fX11_162 dX11_pieceAt_9 ?_
    refine z_iload_n dX11_pieceAt_12 rfl rfl ?_
    obtain ⟨q3a, q3b, hw⟩ := hw
    have q4 : iv (-2147483648) 2147483647 (S.2 104 (a1)) := mA104 hW _
    have hw := hw q4
    refine g_iald hW (ma104 hT) q3a q3b (by decide) dX11_pieceAt_13 ?_
    refine z_goto (tgt := 18) dX11_pieceAt_14 (by decide) ?_
    exact z_ireturn dX11_pieceAt_18 rfl rfl (hP _ _ _ hw hW)

def wX11_steps_242 (l3 l4 l5 : Int) (S : St) (K : Int → St → Prop) (B8 : Int → Int → Int → St → Prop) : Prop := B8 (l3) (l4) (l5) S
set_option maxRecDepth 100000 in
set_option maxHeartbeats 4000000 in
theorem bX11_steps_242 {G : xG} {sh : Nat → Option Sh} {J : St → List va_E → Prop} {d : Nat} {Post : xP} {l3 l4 l5 : Int} {S : St} {cs : List va_E} {K : Int → St → Prop} {B8 : Int → Int → Int → St → Prop} (hd : 3 ≤ d) (hJ : Stb sh J) (hT : isM sh) (hW : Wd G sh mT J S cs) (hP : ∀ (v : Int) (S : St) (cs : List va_E), K v S → Wd G sh mT J S cs → Post (some (.int (Int32.ofInt v))) cs) (hB8 : ∀ (l3 : Int) (l4 : Int) (l5 : Int) (S : St) (cs : List va_E), B8 l3 l4 l5 S → Wd G sh mT J S cs → Z (RX11, cX11_steps, 10, some .int, false) G d Post 8 [(0, .ref (G.1 + 54)), (3, .int (Int32.ofInt (l3))), (4, .int (Int32.ofInt (l4))), (5, .int (Int32.ofInt (l5)))] [] cs) (hw : wX11_steps_242 l3 l4 l5 S K B8) : Z (RX11, cX11_steps, 10, some .int, false) G d Post 242 [(0, .ref (G.1 + 54)), (3, .int (Int32.ofInt (l3))), (4, .int (Int32.ofInt (l4))), (5, .int (Int32.ofInt (l5)))] [] cs := by
  unfold wX11_steps_242 at hw
  refine z_goto (tgt := 8) dX11_steps_242 (by decide) ?_
  refine z_loc (L' := [(0, .ref (G.1 + 54)), (3, .int (Int32.ofInt (l3))), (4, .int (Int32.ofInt (l4))), (5, .int (Int32.ofInt (l5)))]) (List.forall_mem_cons.mpr ⟨rfl, (List.forall_mem_cons.mpr ⟨rfl, (List.forall_mem_cons.mpr ⟨rfl, (List.forall_mem_cons.mpr ⟨rfl, (fun _ h => nomatch h)⟩)⟩)⟩)⟩) ?_
  exact hB8 _ _ _ _ _ hw hW
def wX11_steps_217 (l3 l6 s0 : Int) (S : St) (K : Int → St → Prop) (B8 : Int → Int → Int → St → Prop) : Prop := (∀ x1 : Int, x1 = (l6 + 1) → (rng (s0) ∧ ((¬ s0 = 0 → wX11_steps_242 (l3) (x1) (s0) S K B8) ∧ ((¬ (¬ s0 = 0)) → (iv 0 3000 (S.1 54 67) → (rng (l6) ∧ ((S.1 54 67 ≤ l6 → wX11_steps_242 (l3) (x1) (s0) S K B8) ∧ ((¬ (S.1 54 67 ≤ l6)) → K ((-2)) S))))))))
set_option maxRecDepth 100000 in
set_option maxHeartbeats 4000000 in
theorem bX11_steps_217 {G : xG} {sh : Nat → Option Sh} {J : St → List va_E → Prop} {d : Nat} {Post : xP} {l3 l6 s0 : Int} {S : St} {cs : List va_E} {K : Int → St → Prop} {B8 : Int → Int → Int → St → Prop} (hd : 3 ≤ d) (hJ : Stb sh J) (hT : isM sh) (hW : Wd G sh mT J S cs) (hP : ∀ (v : Int) (S : St) (cs : List va_E), K v S → Wd G sh mT J S cs → Post (some (.int (Int32.ofInt v))) cs) (hB8 : ∀ (l3 : Int) (l4 : Int) (l5 : Int) (S : St) (cs : List va_E), B8 l3 l4 l5 S → Wd G sh mT J S cs → Z (RX11, cX11_steps, 10, some .int, false) G d Post 8 [(0, .ref (G.1 + 54)), (3, .int (Int32.ofInt (l3))), (4, .int (Int32.ofInt (l4))), (5, .int (Int32.ofInt (l5)))] [] cs) (hw : wX11_steps_217 l3 l6 s0 S K B8) : Z (RX11, cX11_steps, 10, some .int, false) G d Post 217 [(0, .ref (G.1 + 54)), (3, .int (Int32.ofInt (l3))), (6, .int (Int32.ofInt (l6)))] [.int (Int32.ofInt (s0))] cs := by
  unfold wX11_steps_217 at hw
  refine z_istore dX11_steps_217 (by decide) ?_
  refine z_loc (L' := [(0, .ref (G.1 + 54)), (3, .int (Int32.ofInt (l3))), (5, .int (Int32.ofInt (s0))), (6, .int (Int32.ofInt (l6)))]) (List.forall_mem_cons.mpr ⟨rfl, (List.forall_mem_cons.mpr ⟨rfl, (List.forall_mem_cons.mpr ⟨rfl, (List.forall_mem_cons.mpr ⟨rfl, (fun _ h => nomatch h)⟩)⟩)⟩)⟩) ?_
  refine z_iload dX11_steps_219 rfl ?_
  refine z_iconst (v := Int32.ofInt 1) dX11_steps_221 rfl ?_
  refine i_iadd dX11_steps_222 ?_
  obtain ⟨x1, hx1⟩ : ∃ x : Int, x = (l6 + 1) := ⟨_, rfl⟩
  have hw := hw x1 hx1
  refine z_st (st' := [.int (Int32.ofInt x1)]) (by rw [hx1]) ?_
  refine z_istore dX11_steps_223 (by decide) ?_
  refine z_loc (L' := [(0, .ref (G.1 + 54)), (3, .int (Int32.ofInt (l3))), (4, .int (Int32.ofInt (x1))), (5, .int (Int32.ofInt (s0))), (6, .int (Int32.ofInt (l6)))]) (List.forall_mem_cons.mpr ⟨rfl, (List.forall_mem_cons.mpr ⟨rfl, (List.forall_mem_cons.mpr ⟨rfl, (List.forall_mem_cons.mpr ⟨rfl, (List.forall_mem_cons.mpr ⟨rfl, (fun _ h => nomatch h)⟩)⟩)⟩)⟩)⟩) ?_
  refine z_iload dX11_steps_225 rfl ?_
  obtain ⟨q3, hw⟩ := hw
  refine i_if_ne (tgt := 242) dX11_steps_227 (by decide) q3 (fun h2 => ?_) (fun h2 => ?_)
  · have hw := hw.1 h2
    refine z_loc (L' := [(0, .ref (G.1 + 54)), (3, .int (Int32.ofInt (l3))), (4, .int (Int32.ofInt (x1))), (5, .int (Int32.ofInt (s0)))]) (List.forall_mem_cons.mpr ⟨rfl, (List.forall_mem_cons.mpr ⟨rfl, (List.forall_mem_cons.mpr ⟨rfl, (List.forall_mem_cons.mpr ⟨rfl, (fun _ h => nomatch h)⟩)⟩)⟩)⟩) ?_
    exact bX11_steps_242 hd hJ hT hW hP hB8 hw
  · have hw := hw.2 h2
    refine z_iload dX11_steps_230 rfl ?_
    refine z_aload_n dX11_steps_232 rfl rfl ?_
    have q4 : iv 0 3000 (S.1 54 67) := mI67 hW
    have hw := hw q4
    refine g_getI hW hT.1 mr67 kX11 fX11_420 dX11_steps_233 ?_
    obtain ⟨q6, hw⟩ := hw
    refine i_icmp_ge (tgt := 242) dX11_steps_236 (by decide) q6 (rngq q4 (by decide) (by decide)) (fun h5 => ?_) (fun h5 => ?_)
    · have hw := hw.1 h5
      refine z_loc (L' := [(0, .ref (G.1 + 54)), (3, .int (Int32.ofInt (l3))), (4, .int (Int32.ofInt (x1))), (5, .int (Int32.ofInt (s0)))]) (List.forall_mem_cons.mpr ⟨rfl, (List.forall_mem_cons.mpr ⟨rfl, (List.forall_mem_cons.mpr ⟨rfl, (List.forall_mem_cons.mpr ⟨rfl, (fun _ h => nomatch h)⟩)⟩)⟩)⟩) ?_
      exact bX11_steps_242 hd hJ hT hW hP hB8 hw
    · have hw := hw.2 h5
      refine z_bipush (v := Int32.ofInt (-2)) dX11_steps_239 (by decide) ?_
      exact z_ireturn dX11_steps_241 rfl rfl (hP _ _ _ hw hW)
def wX11_steps_180 (l3 l4 l6 l7 l8 : Int) (S : St) (K : Int → St → Prop) (B8 : Int → Int → Int → St → Prop) : Prop := (rng (l3) ∧ (rng (l4) ∧ (rng (l7) ∧ (rng (l8) ∧ (wX11_childAt (l3) (l4) (l7) (l8) S (fun r5 S6 => (rng (r5) ∧ ((¬ r5 = (-2) → (rng (l6) ∧ (wX11_pieceAt (l6) S6 (fun r10 S11 => (rng (r10) ∧ ((¬ r10 = 47 → wX11_steps_217 (r5) (l6) (0) S11 K B8) ∧ ((¬ (¬ r10 = 47)) → wX11_steps_217 (r5) (l6) (1) S11 K B8))))))) ∧ ((¬ (¬ r5 = (-2))) → K ((-2)) S6)))))))))
set_option maxRecDepth 100000 in
set_option maxHeartbeats 4000000 in
theorem bX11_steps_180 {G : xG} {sh : Nat → Option Sh} {J : St → List va_E → Prop} {d : Nat} {Post : xP} {l3 l4 l6 l7 l8 : Int} {S : St} {cs : List va_E} {K : Int → St → Prop} {B8 : Int → Int → Int → St → Prop} (hd : 3 ≤ d) (hJ : Stb sh J) (hT : isM sh) (hW : Wd G sh mT J S cs) (hP : ∀ (v : Int) (S : St) (cs : List va_E), K v S → Wd G sh mT J S cs → Post (some (.int (Int32.ofInt v))) cs) (hB8 : ∀ (l3 : Int) (l4 : Int) (l5 : Int) (S : St) (cs : List va_E), B8 l3 l4 l5 S → Wd G sh mT J S cs → Z (RX11, cX11_steps, 10, some .int, false) G d Post 8 [(0, .ref (G.1 + 54)), (3, .int (Int32.ofInt (l3))), (4, .int (Int32.ofInt (l4))), (5, .int (Int32.ofInt (l5)))] [] cs) (hw : wX11_steps_180 l3 l4 l6 l7 l8 S K B8) : Z (RX11, cX11_steps, 10, some .int, false) G d Post 180 [(0, .ref (G.1 + 54)), (3, .int (Int32.ofInt (l3))), (4, .int (Int32.ofInt (l4))), (6, .int (Int32.ofInt (l6))), (7, .int (Int32.ofInt (l7))), (8, .int (Int32.ofInt (l8)))] [] cs := by
  unfold wX11_steps_180 at hw
  refine z_aload_n dX11_steps_180 rfl rfl ?_
  refine z_iload_n dX11_steps_181 rfl rfl ?_
  refine z_iload dX11_steps_182 rfl ?_
  refine z_iload dX11_steps_184 rfl ?_
  refine z_iload dX11_steps_186 rfl ?_
  obtain ⟨q1, hw⟩ := hw
  obtain ⟨q2, hw⟩ := hw
  obtain ⟨q3, hw⟩ := hw
  obtain ⟨q4, hw⟩ := hw
  have hX := lX11_childAt 0 (Nat.le_refl _) hJ hT hW q1 q2 q3 q4 hw
  refine z_callV (As := [_, _, _, _]) eX11_childAt sX11_childAt lX11_476 rfl dX11_steps_188 (hW.1 _ _ hT.1) hX (Nat.le_trans (by decide) hd) rfl (Nat.le_of_ble_eq_true rfl) (fun r cs hp => ?_)
  obtain ⟨r5, S6, rfl, hw, hW⟩ := hp
  refine z_st (st' := [.int (Int32.ofInt (r5))]) rfl ?_
  refine z_istore_n dX11_steps_191 rfl (by decide) ?_
  refine z_loc (L' := [(0, .ref (G.1 + 54)), (3, .int (Int32.ofInt (r5))), (4, .int (Int32.ofInt (l4))), (6, .int (Int32.ofInt (l6))), (7, .int (Int32.ofInt (l7))), (8, .int (Int32.ofInt (l8)))]) (List.forall_mem_cons.mpr ⟨rfl, (List.forall_mem_cons.mpr ⟨rfl, (List.forall_mem_cons.mpr ⟨rfl, (List.forall_mem_cons.mpr ⟨rfl, (List.forall_mem_cons.mpr ⟨rfl, (List.forall_mem_cons.mpr ⟨rfl, (fun _ h => nomatch h)⟩)⟩)⟩)⟩)⟩)⟩) ?_
  refine z_iload_n dX11_steps_192 rfl rfl ?_
  refine z_bipush (v := Int32.ofInt (-2)) dX11_steps_193 (by decide) ?_
  obtain ⟨q8, hw⟩ := hw
  refine i_icmp_ne (tgt := 201) dX11_steps_195 (by decide) q8 ⟨by decide, by decide⟩ (fun h7 => ?_) (fun h7 => ?_)
  · have hw := hw.1 h7
    refine z_aload_n dX11_steps_201 rfl rfl ?_
    refine z_iload dX11_steps_202 rfl ?_
    obtain ⟨q9, hw⟩ := hw
    have hX := lX11_pieceAt 0 (Nat.le_refl _) hJ hT hW q9 hw
    refine z_callV (As := [_]) eX11_pieceAt sX11_pieceAt lX11_473 rfl dX11_steps_204 (hW.1 _ _ hT.1) hX (Nat.le_trans (by decide) hd) rfl (Nat.le_of_ble_eq_true rfl) (fun r cs hp => ?_)
    obtain ⟨r10, S11, rfl, hw, hW⟩ := hp
    refine z_st (st' := [.int (Int32.ofInt (r10))]) rfl ?_
    refine z_bipush (v := Int32.ofInt 47) dX11_steps_207 (by decide) ?_
    obtain ⟨q13, hw⟩ := hw
    refine i_icmp_ne (tgt := 216) dX11_steps_209 (by decide) q13 ⟨by decide, by decide⟩ (fun h12 => ?_) (fun h12 => ?_)
    · have hw := hw.1 h12
      refine z_iconst (v := Int32.ofInt 0) dX11_steps_216 rfl ?_
      refine z_loc (L' := [(0, .ref (G.1 + 54)), (3, .int (Int32.ofInt (r5))), (6, .int (Int32.ofInt (l6)))]) (List.forall_mem_cons.mpr ⟨rfl, (List.forall_mem_cons.mpr ⟨rfl, (List.forall_mem_cons.mpr ⟨rfl, (fun _ h => nomatch h)⟩)⟩)⟩) ?_
      exact bX11_steps_217 hd hJ hT hW hP hB8 hw
    · have hw := hw.2 h12
      refine z_iconst (v := Int32.ofInt 1) dX11_steps_212 rfl ?_
      refine z_goto (tgt := 217) dX11_steps_213 (by decide) ?_
      refine z_loc (L' := [(0, .ref (G.1 + 54)), (3, .int (Int32.ofInt (r5))), (6, .int (Int32.ofInt (l6)))]) (List.forall_mem_cons.mpr ⟨rfl, (List.forall_mem_cons.mpr ⟨rfl, (List.forall_mem_cons.mpr ⟨rfl, (fun _ h => nomatch h)⟩)⟩)⟩) ?_
      exact bX11_steps_217 hd hJ hT hW hP hB8 hw
  · have hw := hw.2 h7
    refine z_bipush (v := Int32.ofInt (-2)) dX11_steps_198 (by decide) ?_
    exact z_ireturn dX11_steps_200 rfl rfl (hP _ _ _ hw hW)
def wX11_steps_128 (l3 l4 l6 l7 l8 l9 : Int) (S : St) (K : Int → St → Prop) (B8 : Int → Int → Int → St → Prop) : Prop := (rng (l9) ∧ ((l9 = 0 → K ((-2)) S) ∧ ((¬ (l9 = 0)) → (rng ((l6 + 1)) ∧ (wX11_pieceAt ((l6 + 1)) S (fun r4 S5 => (rng (r4) ∧ ((r4 = 48 → K ((-2)) S5) ∧ ((¬ (r4 = 48)) → (rng (l8) ∧ ((l8 < 2 → K ((-2)) S5) ∧ ((¬ (l8 < 2)) → (rng (((l6 + 1) + l9)) ∧ (wX11_pieceAt (((l6 + 1) + l9)) S5 (fun r11 S12 => (rng (r11) ∧ ((r11 = 93 → (∀ x15 : Int, x15 = ((l6 + l9) + 2) → wX11_steps_180 (l3) (l4) (x15) (l7) (l8) S12 K B8)) ∧ ((¬ (r11 = 93)) → K ((-2)) S12))))))))))))))))))
set_option maxRecDepth 100000 in
set_option maxHeartbeats 4000000 in
theorem bX11_steps_128 {G : xG} {sh : Nat → Option Sh} {J : St → List va_E → Prop} {d : Nat} {Post : xP} {l3 l4 l6 l7 l8 l9 : Int} {S : St} {cs : List va_E} {K : Int → St → Prop} {B8 : Int → Int → Int → St → Prop} (hd : 3 ≤ d) (hJ : Stb sh J) (hT : isM sh) (hW : Wd G sh mT J S cs) (hP : ∀ (v : Int) (S : St) (cs : List va_E), K v S → Wd G sh mT J S cs → Post (some (.int (Int32.ofInt v))) cs) (hB8 : ∀ (l3 : Int) (l4 : Int) (l5 : Int) (S : St) (cs : List va_E), B8 l3 l4 l5 S → Wd G sh mT J S cs → Z (RX11, cX11_steps, 10, some .int, false) G d Post 8 [(0, .ref (G.1 + 54)), (3, .int (Int32.ofInt (l3))), (4, .int (Int32.ofInt (l4))), (5, .int (Int32.ofInt (l5)))] [] cs) (hw : wX11_steps_128 l3 l4 l6 l7 l8 l9 S K B8) : Z (RX11, cX11_steps, 10, some .int, false) G d Post 128 [(0, .ref (G.1 + 54)), (3, .int (Int32.ofInt (l3))), (4, .int (Int32.ofInt (l4))), (6, .int (Int32.ofInt (l6))), (7, .int (Int32.ofInt (l7))), (8, .int (Int32.ofInt (l8))), (9, .int (Int32.ofInt (l9)))] [] cs := by
  unfold wX11_steps_128 at hw
  refine z_iload dX11_steps_128 rfl ?_
  obtain ⟨q2, hw⟩ := hw
  refine i_if_eq (tgt := 168) dX11_steps_130 (by decide) q2 (fun h1 => ?_) (fun h1 => ?_)
  · have hw := hw.1 h1
    refine z_bipush (v := Int32.ofInt (-2)) dX11_steps_168 (by decide) ?_
    exact z_ireturn dX11_steps_170 rfl rfl (hP _ _ _ hw hW)
  · have hw := hw.2 h1
    refine z_aload_n dX11_steps_133 rfl rfl ?_
    refine z_iload dX11_steps_134 rfl ?_
    refine z_iconst (v := Int32.ofInt 1) dX11_steps_136 rfl ?_
    refine i_iadd dX11_steps_137 ?_
    obtain ⟨q3, hw⟩ := hw
    have hX := lX11_pieceAt 0 (Nat.le_refl _) hJ hT hW q3 hw
    refine z_callV (As := [_]) eX11_pieceAt sX11_pieceAt lX11_473 rfl dX11_steps_138 (hW.1 _ _ hT.1) hX (Nat.le_trans (by decide) hd) rfl (Nat.le_of_ble_eq_true rfl) (fun r cs hp => ?_)
    obtain ⟨r4, S5, rfl, hw, hW⟩ := hp
    refine z_st (st' := [.int (Int32.ofInt (r4))]) rfl ?_
    refine z_bipush (v := Int32.ofInt 48) dX11_steps_141 (by decide) ?_
    obtain ⟨q7, hw⟩ := hw
    refine i_icmp_eq (tgt := 168) dX11_steps_143 (by decide) q7 ⟨by decide, by decide⟩ (fun h6 => ?_) (fun h6 => ?_)
    · have hw := hw.1 h6
      refine z_bipush (v := Int32.ofInt (-2)) dX11_steps_168 (by decide) ?_
      exact z_ireturn dX11_steps_170 rfl rfl (hP _ _ _ hw hW)
    · have hw := hw.2 h6
      refine z_iload dX11_steps_146 rfl ?_
      refine z_iconst (v := Int32.ofInt 2) dX11_steps_148 rfl ?_
      obtain ⟨q9, hw⟩ := hw
      refine i_icmp_lt (tgt := 168) dX11_steps_149 (by decide) q9 ⟨by decide, by decide⟩ (fun h8 => ?_) (fun h8 => ?_)
      · have hw := hw.1 h8
        refine z_bipush (v := Int32.ofInt (-2)) dX11_steps_168 (by decide) ?_
        exact z_ireturn dX11_steps_170 rfl rfl (hP _ _ _ hw hW)
      · have hw := hw.2 h8
        refine z_aload_n dX11_steps_152 rfl rfl ?_
        refine z_iload dX11_steps_153 rfl ?_
        refine z_iconst (v := Int32.ofInt 1) dX11_steps_155 rfl ?_
        refine i_iadd dX11_steps_156 ?_
        refine z_iload dX11_steps_157 rfl ?_
        refine i_iadd dX11_steps_159 ?_
        obtain ⟨q10, hw⟩ := hw
        have hX := lX11_pieceAt 0 (Nat.le_refl _) hJ hT hW q10 hw
        refine z_callV (As := [_]) eX11_pieceAt sX11_pieceAt lX11_473 rfl dX11_steps_160 (hW.1 _ _ hT.1) hX (Nat.le_trans (by decide) hd) rfl (Nat.le_of_ble_eq_true rfl) (fun r cs hp => ?_)
        obtain ⟨r11, S12, rfl, hw, hW⟩ := hp
        refine z_st (st' := [.int (Int32.ofInt (r11))]) rfl ?_
        refine z_bipush (v := Int32.ofInt 93) dX11_steps_163 (by decide) ?_
        obtain ⟨q14, hw⟩ := hw
        refine i_icmp_eq (tgt := 171) dX11_steps_165 (by decide) q14 ⟨by decide, by decide⟩ (fun h13 => ?_) (fun h13 => ?_)
        · have hw := hw.1 h13
          refine z_iload dX11_steps_171 rfl ?_
          refine z_iload dX11_steps_173 rfl ?_
          refine i_iadd dX11_steps_175 ?_
          refine z_iconst (v := Int32.ofInt 2) dX11_steps_176 rfl ?_
          refine i_iadd dX11_steps_177 ?_
          obtain ⟨x15, hx15⟩ : ∃ x : Int, x = ((l6 + l9) + 2) := ⟨_, rfl⟩
          have hw := hw x15 hx15
          refine z_st (st' := [.int (Int32.ofInt x15)]) (by rw [hx15]) ?_
          refine z_istore dX11_steps_178 (by decide) ?_
          refine z_loc (L' := [(0, .ref (G.1 + 54)), (3, .int (Int32.ofInt (l3))), (4, .int (Int32.ofInt (l4))), (6, .int (Int32.ofInt (x15))), (7, .int (Int32.ofInt (l7))), (8, .int (Int32.ofInt (l8))), (9, .int (Int32.ofInt (l9)))]) (List.forall_mem_cons.mpr ⟨rfl, (List.forall_mem_cons.mpr ⟨rfl, (List.forall_mem_cons.mpr ⟨rfl, (List.forall_mem_cons.mpr ⟨rfl, (List.forall_mem_cons.mpr ⟨rfl, (List.forall_mem_cons.mpr ⟨rfl, (List.forall_mem_cons.mpr ⟨rfl, (fun _ h => nomatch h)⟩)⟩)⟩)⟩)⟩)⟩)⟩) ?_
          refine z_loc (L' := [(0, .ref (G.1 + 54)), (3, .int (Int32.ofInt (l3))), (4, .int (Int32.ofInt (l4))), (6, .int (Int32.ofInt (x15))), (7, .int (Int32.ofInt (l7))), (8, .int (Int32.ofInt (l8)))]) (List.forall_mem_cons.mpr ⟨rfl, (List.forall_mem_cons.mpr ⟨rfl, (List.forall_mem_cons.mpr ⟨rfl, (List.forall_mem_cons.mpr ⟨rfl, (List.forall_mem_cons.mpr ⟨rfl, (List.forall_mem_cons.mpr ⟨rfl, (fun _ h => nomatch h)⟩)⟩)⟩)⟩)⟩)⟩) ?_
          exact bX11_steps_180 hd hJ hT hW hP hB8 hw
        · have hw := hw.2 h13
          refine z_bipush (v := Int32.ofInt (-2)) dX11_steps_168 (by decide) ?_
          exact z_ireturn dX11_steps_170 rfl rfl (hP _ _ _ hw hW)
def wX11_steps_77' (l3 l4 l6 l7 l8 l9 : Int) (S : St) (K : Int → St → Prop) (B8 : Int → Int → Int → St → Prop) (B77 : Int → Int → Int → Int → Int → Int → St → Prop) : Prop := (rng (l9) ∧ ((5 ≤ l9 → wX11_steps_128 (l3) (l4) (l6) (l7) (l8) (l9) S K B8) ∧ ((¬ (5 ≤ l9)) → (rng (((l6 + 1) + l9)) ∧ (wX11_pieceAt (((l6 + 1) + l9)) S (fun r4 S5 => (rng (r4) ∧ (wX11_isDigit (r4) S5 (fun r7 S8 => (rng (r7) ∧ ((r7 = 0 → wX11_steps_128 (l3) (l4) (l6) (l7) (l8) (l9) S8 K B8) ∧ ((¬ (r7 = 0)) → (wX11_pieceAt (((l6 + 1) + l9)) S8 (fun r11 S12 => (∀ x13 : Int, x13 = (((10 * l8) + r11) - 48) → B77 (l3) (l4) (l6) (l7) (x13) ((l9 + 1)) S12)))))))))))))))
set_option maxRecDepth 100000 in
set_option maxHeartbeats 4000000 in
theorem bX11_steps_77' {G : xG} {sh : Nat → Option Sh} {J : St → List va_E → Prop} {d : Nat} {Post : xP} {l3 l4 l6 l7 l8 l9 : Int} {S : St} {cs : List va_E} {K : Int → St → Prop} {B8 : Int → Int → Int → St → Prop} {B77 : Int → Int → Int → Int → Int → Int → St → Prop} (hd : 3 ≤ d) (hJ : Stb sh J) (hT : isM sh) (hW : Wd G sh mT J S cs) (hP : ∀ (v : Int) (S : St) (cs : List va_E), K v S → Wd G sh mT J S cs → Post (some (.int (Int32.ofInt v))) cs) (hB8 : ∀ (l3 : Int) (l4 : Int) (l5 : Int) (S : St) (cs : List va_E), B8 l3 l4 l5 S → Wd G sh mT J S cs → Z (RX11, cX11_steps, 10, some .int, false) G d Post 8 [(0, .ref (G.1 + 54)), (3, .int (Int32.ofInt (l3))), (4, .int (Int32.ofInt (l4))), (5, .int (Int32.ofInt (l5)))] [] cs) (hB77 : ∀ (l3 : Int) (l4 : Int) (l6 : Int) (l7 : Int) (l8 : Int) (l9 : Int) (S : St) (cs : List va_E), B77 l3 l4 l6 l7 l8 l9 S → Wd G sh mT J S cs → Z (RX11, cX11_steps, 10, some .int, false) G d Post 77 [(0, .ref (G.1 + 54)), (3, .int (Int32.ofInt (l3))), (4, .int (Int32.ofInt (l4))), (6, .int (Int32.ofInt (l6))), (7, .int (Int32.ofInt (l7))), (8, .int (Int32.ofInt (l8))), (9, .int (Int32.ofInt (l9)))] [] cs) (hw : wX11_steps_77' l3 l4 l6 l7 l8 l9 S K B8 B77) : Z (RX11, cX11_steps, 10, some .int, false) G d Post 77 [(0, .ref (G.1 + 54)), (3, .int (Int32.ofInt (l3))), (4, .int (Int32.ofInt (l4))), (6, .int (Int32.ofInt (l6))), (7, .int (Int32.ofInt (l7))), (8, .int (Int32.ofInt (l8))), (9, .int (Int32.ofInt (l9)))] [] cs := by
  unfold wX11_steps_77' at hw
  refine z_iload dX11_steps_77 rfl ?_
  refine z_iconst (v := Int32.ofInt 5) dX11_steps_79 rfl ?_
  obtain ⟨q2, hw⟩ := hw
  refine i_icmp_ge (tgt := 128) dX11_steps_80 (by decide) q2 ⟨by decide, by decide⟩ (fun h1 => ?_) (fun h1 => ?_)
  · have hw := hw.1 h1
    refine z_loc (L' := [(0, .ref (G.1 + 54)), (3, .int (Int32.ofInt (l3))), (4, .int (Int32.ofInt (l4))), (6, .int (Int32.ofInt (l6))), (7, .int (Int32.ofInt (l7))), (8, .int (Int32.ofInt (l8))), (9, .int (Int32.ofInt (l9)))]) (List.forall_mem_cons.mpr ⟨rfl, (List.forall_mem_cons.mpr ⟨rfl, (List.forall_mem_cons.mpr ⟨rfl, (List.forall_mem_cons.mpr ⟨rfl, (List.forall_mem_cons.mpr ⟨rfl, (List.forall_mem_cons.mpr ⟨rfl, (List.forall_mem_cons.mpr ⟨rfl, (fun _ h => nomatch h)⟩)⟩)⟩)⟩)⟩)⟩)⟩) ?_
    exact bX11_steps_128 hd hJ hT hW hP hB8 hw
  · have hw := hw.2 h1
    refine z_aload_n dX11_steps_83 rfl rfl ?_
    refine z_iload dX11_steps_84 rfl ?_
    refine z_iconst (v := Int32.ofInt 1) dX11_steps_86 rfl ?_
    refine i_iadd dX11_steps_87 ?_
    refine z_iload dX11_steps_88 rfl ?_
    refine i_iadd dX11_steps_90 ?_
    obtain ⟨q3, hw⟩ := hw
    have hX := lX11_pieceAt 0 (Nat.le_refl _) hJ hT hW q3 hw
    refine z_callV (As := [_]) eX11_pieceAt sX11_pieceAt lX11_473 rfl dX11_steps_91 (hW.1 _ _ hT.1) hX (Nat.le_trans (by decide) hd) rfl (Nat.le_of_ble_eq_true rfl) (fun r cs hp => ?_)
    obtain ⟨r4, S5, rfl, hw, hW⟩ := hp
    refine z_st (st' := [.int (Int32.ofInt (r4))]) rfl ?_
    obtain ⟨q6, hw⟩ := hw
    have hX := lX11_isDigit 0 (Nat.le_refl _) hJ hT hW q6 hw
    refine z_callS (As := [_]) eX11_isDigit sX11_isDigit lX11_189 dX11_steps_94 hX (Nat.le_trans (by decide) hd) rfl (Nat.le_of_ble_eq_true rfl) (fun r cs hp => ?_)
    obtain ⟨r7, S8, rfl, hw, hW⟩ := hp
    refine z_st (st' := [.int (Int32.ofInt (r7))]) rfl ?_
    obtain ⟨q10, hw⟩ := hw
    refine i_if_eq (tgt := 128) dX11_steps_97 (by decide) q10 (fun h9 => ?_) (fun h9 => ?_)
    · have hw := hw.1 h9
      refine z_loc (L' := [(0, .ref (G.1 + 54)), (3, .int (Int32.ofInt (l3))), (4, .int (Int32.ofInt (l4))), (6, .int (Int32.ofInt (l6))), (7, .int (Int32.ofInt (l7))), (8, .int (Int32.ofInt (l8))), (9, .int (Int32.ofInt (l9)))]) (List.forall_mem_cons.mpr ⟨rfl, (List.forall_mem_cons.mpr ⟨rfl, (List.forall_mem_cons.mpr ⟨rfl, (List.forall_mem_cons.mpr ⟨rfl, (List.forall_mem_cons.mpr ⟨rfl, (List.forall_mem_cons.mpr ⟨rfl, (List.forall_mem_cons.mpr ⟨rfl, (fun _ h => nomatch h)⟩)⟩)⟩)⟩)⟩)⟩)⟩) ?_
      exact bX11_steps_128 hd hJ hT hW hP hB8 hw
    · have hw := hw.2 h9
      refine z_bipush (v := Int32.ofInt 10) dX11_steps_100 (by decide) ?_
      refine z_iload dX11_steps_102 rfl ?_
      refine i_imul dX11_steps_104 ?_
      refine z_aload_n dX11_steps_105 rfl rfl ?_
      refine z_iload dX11_steps_106 rfl ?_
      refine z_iconst (v := Int32.ofInt 1) dX11_steps_108 rfl ?_
      refine i_iadd dX11_steps_109 ?_
      refine z_iload dX11_steps_110 rfl ?_
      refine i_iadd dX11_steps_112 ?_
      have hX := lX11_pieceAt 0 (Nat.le_refl _) hJ hT hW q3 hw
      refine z_callV (As := [_]) eX11_pieceAt sX11_pieceAt lX11_473 rfl dX11_steps_113 (hW.1 _ _ hT.1) hX (Nat.le_trans (by decide) hd) rfl (Nat.le_of_ble_eq_true rfl) (fun r cs hp => ?_)
      obtain ⟨r11, S12, rfl, hw, hW⟩ := hp
      refine z_st (st' := [.int (Int32.ofInt (r11)), .int (Int32.ofInt ((10 * l8)))]) rfl ?_
      refine i_iadd dX11_steps_116 ?_
      refine z_bipush (v := Int32.ofInt 48) dX11_steps_117 (by decide) ?_
      refine i_isub dX11_steps_119 ?_
      obtain ⟨x13, hx13⟩ : ∃ x : Int, x = (((10 * l8) + r11) - 48) := ⟨_, rfl⟩
      have hw := hw x13 hx13
      refine z_st (st' := [.int (Int32.ofInt x13)]) (by rw [hx13]) ?_
      refine z_istore dX11_steps_120 (by decide) ?_
      refine z_loc (L' := [(0, .ref (G.1 + 54)), (3, .int (Int32.ofInt (l3))), (4, .int (Int32.ofInt (l4))), (6, .int (Int32.ofInt (l6))), (7, .int (Int32.ofInt (l7))), (8, .int (Int32.ofInt (x13))), (9, .int (Int32.ofInt (l9)))]) (List.forall_mem_cons.mpr ⟨rfl, (List.forall_mem_cons.mpr ⟨rfl, (List.forall_mem_cons.mpr ⟨rfl, (List.forall_mem_cons.mpr ⟨rfl, (List.forall_mem_cons.mpr ⟨rfl, (List.forall_mem_cons.mpr ⟨rfl, (List.forall_mem_cons.mpr ⟨rfl, (fun _ h => nomatch h)⟩)⟩)⟩)⟩)⟩)⟩)⟩) ?_
      refine i_iinc (l := l9) dX11_steps_122 rfl (by decide) ?_
      refine z_loc (L' := [(0, .ref (G.1 + 54)), (3, .int (Int32.ofInt (l3))), (4, .int (Int32.ofInt (l4))), (6, .int (Int32.ofInt (l6))), (7, .int (Int32.ofInt (l7))), (8, .int (Int32.ofInt (x13))), (9, .int (Int32.ofInt ((l9 + 1))))]) (List.forall_mem_cons.mpr ⟨rfl, (List.forall_mem_cons.mpr ⟨rfl, (List.forall_mem_cons.mpr ⟨rfl, (List.forall_mem_cons.mpr ⟨rfl, (List.forall_mem_cons.mpr ⟨rfl, (List.forall_mem_cons.mpr ⟨rfl, (List.forall_mem_cons.mpr ⟨rfl, (fun _ h => nomatch h)⟩)⟩)⟩)⟩)⟩)⟩)⟩) ?_
      refine z_goto (tgt := 77) dX11_steps_125 (by decide) ?_
      refine z_loc (L' := [(0, .ref (G.1 + 54)), (3, .int (Int32.ofInt (l3))), (4, .int (Int32.ofInt (l4))), (6, .int (Int32.ofInt (l6))), (7, .int (Int32.ofInt (l7))), (8, .int (Int32.ofInt (x13))), (9, .int (Int32.ofInt ((l9 + 1))))]) (List.forall_mem_cons.mpr ⟨rfl, (List.forall_mem_cons.mpr ⟨rfl, (List.forall_mem_cons.mpr ⟨rfl, (List.forall_mem_cons.mpr ⟨rfl, (List.forall_mem_cons.mpr ⟨rfl, (List.forall_mem_cons.mpr ⟨rfl, (List.forall_mem_cons.mpr ⟨rfl, (fun _ h => nomatch h)⟩)⟩)⟩)⟩)⟩)⟩)⟩) ?_
      exact hB77 _ _ _ _ _ _ _ _ hw hW
def wX11_steps_77 (l3 l4 l6 l7 l8 l9 : Int) (S : St) (K : Int → St → Prop) (B8 : Int → Int → Int → St → Prop) : Prop := ∃ (Iv : Int → Int → Int → Int → Int → Int → St → Prop) (mu : Int → Int → Int → Int → Int → Int → St → Nat), Iv l3 l4 l6 l7 l8 l9 S ∧ ∀ (l3 l4 l6 l7 l8 l9 : Int) (S : St), Iv l3 l4 l6 l7 l8 l9 S → wX11_steps_77' l3 l4 l6 l7 l8 l9 S K B8 (fun ml3 ml4 ml6 ml7 ml8 ml9 T => Iv ml3 ml4 ml6 ml7 ml8 ml9 T ∧ mu ml3 ml4 ml6 ml7 ml8 ml9 T < mu l3 l4 l6 l7 l8 l9 S)
set_option maxRecDepth 100000 in
set_option maxHeartbeats 4000000 in
theorem bX11_steps_77 {G : xG} {sh : Nat → Option Sh} {J : St → List va_E → Prop} {d : Nat} {Post : xP} {l3 l4 l6 l7 l8 l9 : Int} {S : St} {cs : List va_E} {K : Int → St → Prop} {B8 : Int → Int → Int → St → Prop} (hd : 3 ≤ d) (hJ : Stb sh J) (hT : isM sh) (hW : Wd G sh mT J S cs) (hP : ∀ (v : Int) (S : St) (cs : List va_E), K v S → Wd G sh mT J S cs → Post (some (.int (Int32.ofInt v))) cs) (hB8 : ∀ (l3 : Int) (l4 : Int) (l5 : Int) (S : St) (cs : List va_E), B8 l3 l4 l5 S → Wd G sh mT J S cs → Z (RX11, cX11_steps, 10, some .int, false) G d Post 8 [(0, .ref (G.1 + 54)), (3, .int (Int32.ofInt (l3))), (4, .int (Int32.ofInt (l4))), (5, .int (Int32.ofInt (l5)))] [] cs) (hw : wX11_steps_77 l3 l4 l6 l7 l8 l9 S K B8) : Z (RX11, cX11_steps, 10, some .int, false) G d Post 77 [(0, .ref (G.1 + 54)), (3, .int (Int32.ofInt (l3))), (4, .int (Int32.ofInt (l4))), (6, .int (Int32.ofInt (l6))), (7, .int (Int32.ofInt (l7))), (8, .int (Int32.ofInt (l8))), (9, .int (Int32.ofInt (l9)))] [] cs := by
  unfold wX11_steps_77 at hw
  obtain ⟨Iv, mu, h0, hs⟩ := hw
  have key : ∀ (n : Nat) (l3 l4 l6 l7 l8 l9 : Int) (S : St) (cs : List va_E), mu l3 l4 l6 l7 l8 l9 S < n → Iv l3 l4 l6 l7 l8 l9 S → Wd G sh mT J S cs → Z (RX11, cX11_steps, 10, some .int, false) G d Post 77 [(0, .ref (G.1 + 54)), (3, .int (Int32.ofInt (l3))), (4, .int (Int32.ofInt (l4))), (6, .int (Int32.ofInt (l6))), (7, .int (Int32.ofInt (l7))), (8, .int (Int32.ofInt (l8))), (9, .int (Int32.ofInt (l9)))] [] cs := by
    intro n
    induction n with
    | zero => intro l3 l4 l6 l7 l8 l9 S cs hn; exact absurd hn (Nat.not_lt_zero _)
    | succ n ih =>
      intro l3 l4 l6 l7 l8 l9 S cs hn hI hW
      exact bX11_steps_77' hd hJ hT hW hP hB8 (fun l3 l4 l6 l7 l8 l9 S cs hb hW => ih l3 l4 l6 l7 l8 l9 S cs (Nat.lt_of_lt_of_le hb.2 (Nat.le_of_lt_succ hn)) hb.1 hW) (hs l3 l4 l6 l7 l8 l9 S hI)
  exact key _ _ _ _ _ _ _ _ _ (Nat.lt_succ_self _) h0 hW
def wX11_steps_32' (l3 l4 l6 : Int) (S : St) (K : Int → St → Prop) (B8 : Int → Int → Int → St → Prop) (B32 : Int → Int → Int → St → Prop) : Prop := (rng (l6) ∧ (wX11_pieceAt (l6) S (fun r2 S3 => (rng (r2) ∧ (wX11_inName (r2) S3 (fun r5 S6 => (rng (r5) ∧ ((r5 = 0 → (∀ x9 : Int, x9 = (l6 - l4) → (wX11_pieceAt (l6) S6 (fun r10 S11 => (rng (r10) ∧ ((¬ r10 = 91 → wX11_steps_180 (l3) (l4) (l6) (x9) (1) S11 K B8) ∧ ((¬ (¬ r10 = 91)) → wX11_steps_77 (l3) (l4) (l6) (x9) (0) (0) S11 K B8))))))) ∧ ((¬ (r5 = 0)) → B32 (l3) (l4) ((l6 + 1)) S6)))))))))
set_option maxRecDepth 100000 in
set_option maxHeartbeats 4000000 in
theorem bX11_steps_32' {G : xG} {sh : Nat → Option Sh} {J : St → List va_E → Prop} {d : Nat} {Post : xP} {l3 l4 l6 : Int} {S : St} {cs : List va_E} {K : Int → St → Prop} {B8 : Int → Int → Int → St → Prop} {B32 : Int → Int → Int → St → Prop} (hd : 3 ≤ d) (hJ : Stb sh J) (hT : isM sh) (hW : Wd G sh mT J S cs) (hP : ∀ (v : Int) (S : St) (cs : List va_E), K v S → Wd G sh mT J S cs → Post (some (.int (Int32.ofInt v))) cs) (hB8 : ∀ (l3 : Int) (l4 : Int) (l5 : Int) (S : St) (cs : List va_E), B8 l3 l4 l5 S → Wd G sh mT J S cs → Z (RX11, cX11_steps, 10, some .int, false) G d Post 8 [(0, .ref (G.1 + 54)), (3, .int (Int32.ofInt (l3))), (4, .int (Int32.ofInt (l4))), (5, .int (Int32.ofInt (l5)))] [] cs) (hB32 : ∀ (l3 : Int) (l4 : Int) (l6 : Int) (S : St) (cs : List va_E), B32 l3 l4 l6 S → Wd G sh mT J S cs → Z (RX11, cX11_steps, 10, some .int, false) G d Post 32 [(0, .ref (G.1 + 54)), (3, .int (Int32.ofInt (l3))), (4, .int (Int32.ofInt (l4))), (6, .int (Int32.ofInt (l6)))] [] cs) (hw : wX11_steps_32' l3 l4 l6 S K B8 B32) : Z (RX11, cX11_steps, 10, some .int, false) G d Post 32 [(0, .ref (G.1 + 54)), (3, .int (Int32.ofInt (l3))), (4, .int (Int32.ofInt (l4))), (6, .int (Int32.ofInt (l6)))] [] cs := by
  unfold wX11_steps_32' at hw
  refine z_aload_n dX11_steps_32 rfl rfl ?_
  refine z_iload dX11_steps_33 rfl ?_
  obtain ⟨q1, hw⟩ := hw
  have hX := lX11_pieceAt 0 (Nat.le_refl _) hJ hT hW q1 hw
  refine z_callV (As := [_]) eX11_pieceAt sX11_pieceAt lX11_473 rfl dX11_steps_35 (hW.1 _ _ hT.1) hX (Nat.le_trans (by decide) hd) rfl (Nat.le_of_ble_eq_true rfl) (fun r cs hp => ?_)
  obtain ⟨r2, S3, rfl, hw, hW⟩ := hp
  refine z_st (st' := [.int (Int32.ofInt (r2))]) rfl ?_
  obtain ⟨q4, hw⟩ := hw
  have hX := lX11_inName 2 (Nat.le_refl _) hJ hT hW q4 hw
  refine z_callS (As := [_]) eX11_inName sX11_inName lX11_352 dX11_steps_38 hX (Nat.le_trans (by decide) hd) rfl (Nat.le_of_ble_eq_true rfl) (fun r cs hp => ?_)
  obtain ⟨r5, S6, rfl, hw, hW⟩ := hp
  refine z_st (st' := [.int (Int32.ofInt (r5))]) rfl ?_
  obtain ⟨q8, hw⟩ := hw
  refine i_if_eq (tgt := 50) dX11_steps_41 (by decide) q8 (fun h7 => ?_) (fun h7 => ?_)
  · have hw := hw.1 h7
    refine z_iload dX11_steps_50 rfl ?_
    refine z_iload dX11_steps_52 rfl ?_
    refine i_isub dX11_steps_54 ?_
    obtain ⟨x9, hx9⟩ : ∃ x : Int, x = (l6 - l4) := ⟨_, rfl⟩
    have hw := hw x9 hx9
    refine z_st (st' := [.int (Int32.ofInt x9)]) (by rw [hx9]) ?_
    refine z_istore dX11_steps_55 (by decide) ?_
    refine z_loc (L' := [(0, .ref (G.1 + 54)), (3, .int (Int32.ofInt (l3))), (4, .int (Int32.ofInt (l4))), (6, .int (Int32.ofInt (l6))), (7, .int (Int32.ofInt (x9)))]) (List.forall_mem_cons.mpr ⟨rfl, (List.forall_mem_cons.mpr ⟨rfl, (List.forall_mem_cons.mpr ⟨rfl, (List.forall_mem_cons.mpr ⟨rfl, (List.forall_mem_cons.mpr ⟨rfl, (fun _ h => nomatch h)⟩)⟩)⟩)⟩)⟩) ?_
    refine z_iconst (v := Int32.ofInt 1) dX11_steps_57 rfl ?_
    refine z_istore dX11_steps_58 (by decide) ?_
    refine z_loc (L' := [(0, .ref (G.1 + 54)), (3, .int (Int32.ofInt (l3))), (4, .int (Int32.ofInt (l4))), (6, .int (Int32.ofInt (l6))), (7, .int (Int32.ofInt (x9))), (8, .int (Int32.ofInt (1)))]) (List.forall_mem_cons.mpr ⟨rfl, (List.forall_mem_cons.mpr ⟨rfl, (List.forall_mem_cons.mpr ⟨rfl, (List.forall_mem_cons.mpr ⟨rfl, (List.forall_mem_cons.mpr ⟨rfl, (List.forall_mem_cons.mpr ⟨rfl, (fun _ h => nomatch h)⟩)⟩)⟩)⟩)⟩)⟩) ?_
    refine z_aload_n dX11_steps_60 rfl rfl ?_
    refine z_iload dX11_steps_61 rfl ?_
    have hX := lX11_pieceAt 0 (Nat.le_refl _) hJ hT hW q1 hw
    refine z_callV (As := [_]) eX11_pieceAt sX11_pieceAt lX11_473 rfl dX11_steps_63 (hW.1 _ _ hT.1) hX (Nat.le_trans (by decide) hd) rfl (Nat.le_of_ble_eq_true rfl) (fun r cs hp => ?_)
    obtain ⟨r10, S11, rfl, hw, hW⟩ := hp
    refine z_st (st' := [.int (Int32.ofInt (r10))]) rfl ?_
    refine z_bipush (v := Int32.ofInt 91) dX11_steps_66 (by decide) ?_
    obtain ⟨q13, hw⟩ := hw
    refine i_icmp_ne (tgt := 180) dX11_steps_68 (by decide) q13 ⟨by decide, by decide⟩ (fun h12 => ?_) (fun h12 => ?_)
    · have hw := hw.1 h12
      refine z_loc (L' := [(0, .ref (G.1 + 54)), (3, .int (Int32.ofInt (l3))), (4, .int (Int32.ofInt (l4))), (6, .int (Int32.ofInt (l6))), (7, .int (Int32.ofInt (x9))), (8, .int (Int32.ofInt (1)))]) (List.forall_mem_cons.mpr ⟨rfl, (List.forall_mem_cons.mpr ⟨rfl, (List.forall_mem_cons.mpr ⟨rfl, (List.forall_mem_cons.mpr ⟨rfl, (List.forall_mem_cons.mpr ⟨rfl, (List.forall_mem_cons.mpr ⟨rfl, (fun _ h => nomatch h)⟩)⟩)⟩)⟩)⟩)⟩) ?_
      exact bX11_steps_180 hd hJ hT hW hP hB8 hw
    · have hw := hw.2 h12
      refine z_iconst (v := Int32.ofInt 0) dX11_steps_71 rfl ?_
      refine z_istore dX11_steps_72 (by decide) ?_
      refine z_loc (L' := [(0, .ref (G.1 + 54)), (3, .int (Int32.ofInt (l3))), (4, .int (Int32.ofInt (l4))), (6, .int (Int32.ofInt (l6))), (7, .int (Int32.ofInt (x9))), (8, .int (Int32.ofInt (1))), (9, .int (Int32.ofInt (0)))]) (List.forall_mem_cons.mpr ⟨rfl, (List.forall_mem_cons.mpr ⟨rfl, (List.forall_mem_cons.mpr ⟨rfl, (List.forall_mem_cons.mpr ⟨rfl, (List.forall_mem_cons.mpr ⟨rfl, (List.forall_mem_cons.mpr ⟨rfl, (List.forall_mem_cons.mpr ⟨rfl, (fun _ h => nomatch h)⟩)⟩)⟩)⟩)⟩)⟩)⟩) ?_
      refine z_iconst (v := Int32.ofInt 0) dX11_steps_74 rfl ?_
      refine z_istore dX11_steps_75 (by decide) ?_
      refine z_loc (L' := [(0, .ref (G.1 + 54)), (3, .int (Int32.ofInt (l3))), (4, .int (Int32.ofInt (l4))), (6, .int (Int32.ofInt (l6))), (7, .int (Int32.ofInt (x9))), (8, .int (Int32.ofInt (0))), (9, .int (Int32.ofInt (0)))]) (List.forall_mem_cons.mpr ⟨rfl, (List.forall_mem_cons.mpr ⟨rfl, (List.forall_mem_cons.mpr ⟨rfl, (List.forall_mem_cons.mpr ⟨rfl, (List.forall_mem_cons.mpr ⟨rfl, (List.forall_mem_cons.mpr ⟨rfl, (List.forall_mem_cons.mpr ⟨rfl, (fun _ h => nomatch h)⟩)⟩)⟩)⟩)⟩)⟩)⟩) ?_
      refine z_loc (L' := [(0, .ref (G.1 + 54)), (3, .int (Int32.ofInt (l3))), (4, .int (Int32.ofInt (l4))), (6, .int (Int32.ofInt (l6))), (7, .int (Int32.ofInt (x9))), (8, .int (Int32.ofInt (0))), (9, .int (Int32.ofInt (0)))]) (List.forall_mem_cons.mpr ⟨rfl, (List.forall_mem_cons.mpr ⟨rfl, (List.forall_mem_cons.mpr ⟨rfl, (List.forall_mem_cons.mpr ⟨rfl, (List.forall_mem_cons.mpr ⟨rfl, (List.forall_mem_cons.mpr ⟨rfl, (List.forall_mem_cons.mpr ⟨rfl, (fun _ h => nomatch h)⟩)⟩)⟩)⟩)⟩)⟩)⟩) ?_
      exact bX11_steps_77 hd hJ hT hW hP hB8 hw
  · have hw := hw.2 h7
    refine i_iinc (l := l6) dX11_steps_44 rfl (by decide) ?_
    refine z_loc (L' := [(0, .ref (G.1 + 54)), (3, .int (Int32.ofInt (l3))), (4, .int (Int32.ofInt (l4))), (6, .int (Int32.ofInt ((l6 + 1))))]) (List.forall_mem_cons.mpr ⟨rfl, (List.forall_mem_cons.mpr ⟨rfl, (List.forall_mem_cons.mpr ⟨rfl, (List.forall_mem_cons.mpr ⟨rfl, (fun _ h => nomatch h)⟩)⟩)⟩)⟩) ?_
    refine z_goto (tgt := 32) dX11_steps_47 (by decide) ?_
    refine z_loc (L' := [(0, .ref (G.1 + 54)), (3, .int (Int32.ofInt (l3))), (4, .int (Int32.ofInt (l4))), (6, .int (Int32.ofInt ((l6 + 1))))]) (List.forall_mem_cons.mpr ⟨rfl, (List.forall_mem_cons.mpr ⟨rfl, (List.forall_mem_cons.mpr ⟨rfl, (List.forall_mem_cons.mpr ⟨rfl, (fun _ h => nomatch h)⟩)⟩)⟩)⟩) ?_
    exact hB32 _ _ _ _ _ hw hW
def wX11_steps_32 (l3 l4 l6 : Int) (S : St) (K : Int → St → Prop) (B8 : Int → Int → Int → St → Prop) : Prop := ∃ (Iv : Int → Int → Int → St → Prop) (mu : Int → Int → Int → St → Nat), Iv l3 l4 l6 S ∧ ∀ (l3 l4 l6 : Int) (S : St), Iv l3 l4 l6 S → wX11_steps_32' l3 l4 l6 S K B8 (fun ml3 ml4 ml6 T => Iv ml3 ml4 ml6 T ∧ mu ml3 ml4 ml6 T < mu l3 l4 l6 S)
set_option maxRecDepth 100000 in
set_option maxHeartbeats 4000000 in
theorem bX11_steps_32 {G : xG} {sh : Nat → Option Sh} {J : St → List va_E → Prop} {d : Nat} {Post : xP} {l3 l4 l6 : Int} {S : St} {cs : List va_E} {K : Int → St → Prop} {B8 : Int → Int → Int → St → Prop} (hd : 3 ≤ d) (hJ : Stb sh J) (hT : isM sh) (hW : Wd G sh mT J S cs) (hP : ∀ (v : Int) (S : St) (cs : List va_E), K v S → Wd G sh mT J S cs → Post (some (.int (Int32.ofInt v))) cs) (hB8 : ∀ (l3 : Int) (l4 : Int) (l5 : Int) (S : St) (cs : List va_E), B8 l3 l4 l5 S → Wd G sh mT J S cs → Z (RX11, cX11_steps, 10, some .int, false) G d Post 8 [(0, .ref (G.1 + 54)), (3, .int (Int32.ofInt (l3))), (4, .int (Int32.ofInt (l4))), (5, .int (Int32.ofInt (l5)))] [] cs) (hw : wX11_steps_32 l3 l4 l6 S K B8) : Z (RX11, cX11_steps, 10, some .int, false) G d Post 32 [(0, .ref (G.1 + 54)), (3, .int (Int32.ofInt (l3))), (4, .int (Int32.ofInt (l4))), (6, .int (Int32.ofInt (l6)))] [] cs := by
  unfold wX11_steps_32 at hw
  obtain ⟨Iv, mu, h0, hs⟩ := hw
  have key : ∀ (n : Nat) (l3 l4 l6 : Int) (S : St) (cs : List va_E), mu l3 l4 l6 S < n → Iv l3 l4 l6 S → Wd G sh mT J S cs → Z (RX11, cX11_steps, 10, some .int, false) G d Post 32 [(0, .ref (G.1 + 54)), (3, .int (Int32.ofInt (l3))), (4, .int (Int32.ofInt (l4))), (6, .int (Int32.ofInt (l6)))] [] cs := by
    intro n
    induction n with
    | zero => intro l3 l4 l6 S cs hn; exact absurd hn (Nat.not_lt_zero _)
    | succ n ih =>
      intro l3 l4 l6 S cs hn hI hW
      exact bX11_steps_32' hd hJ hT hW hP hB8 (fun l3 l4 l6 S cs hb hW => ih l3 l4 l6 S cs (Nat.lt_of_lt_of_le hb.2 (Nat.le_of_lt_succ hn)) hb.1 hW) (hs l3 l4 l6 S hI)
  exact key _ _ _ _ _ _ (Nat.lt_succ_self _) h0 hW
def wX11_steps_8' (l3 l4 l5 : Int) (S : St) (K : Int → St → Prop) (B8 : Int → Int → Int → St → Prop) : Prop := (rng (l5) ∧ ((l5 = 0 → K (l3) S) ∧ ((¬ (l5 = 0)) → (rng (l4) ∧ (wX11_pieceAt (l4) S (fun r4 S5 => (rng (r4) ∧ (wX11_beginsName (r4) S5 (fun r7 S8 => (rng (r7) ∧ ((¬ r7 = 0 → wX11_steps_32 (l3) (l4) (l4) S8 K B8) ∧ ((¬ (¬ r7 = 0)) → K ((-2)) S8))))))))))))
set_option maxRecDepth 100000 in
set_option maxHeartbeats 4000000 in
theorem bX11_steps_8' {G : xG} {sh : Nat → Option Sh} {J : St → List va_E → Prop} {d : Nat} {Post : xP} {l3 l4 l5 : Int} {S : St} {cs : List va_E} {K : Int → St → Prop} {B8 : Int → Int → Int → St → Prop} (hd : 3 ≤ d) (hJ : Stb sh J) (hT : isM sh) (hW : Wd G sh mT J S cs) (hP : ∀ (v : Int) (S : St) (cs : List va_E), K v S → Wd G sh mT J S cs → Post (some (.int (Int32.ofInt v))) cs) (hB8 : ∀ (l3 : Int) (l4 : Int) (l5 : Int) (S : St) (cs : List va_E), B8 l3 l4 l5 S → Wd G sh mT J S cs → Z (RX11, cX11_steps, 10, some .int, false) G d Post 8 [(0, .ref (G.1 + 54)), (3, .int (Int32.ofInt (l3))), (4, .int (Int32.ofInt (l4))), (5, .int (Int32.ofInt (l5)))] [] cs) (hw : wX11_steps_8' l3 l4 l5 S K B8) : Z (RX11, cX11_steps, 10, some .int, false) G d Post 8 [(0, .ref (G.1 + 54)), (3, .int (Int32.ofInt (l3))), (4, .int (Int32.ofInt (l4))), (5, .int (Int32.ofInt (l5)))] [] cs := by
  unfold wX11_steps_8' at hw
  refine z_iload dX11_steps_8 rfl ?_
  obtain ⟨q2, hw⟩ := hw
  refine i_if_eq (tgt := 245) dX11_steps_10 (by decide) q2 (fun h1 => ?_) (fun h1 => ?_)
  · have hw := hw.1 h1
    refine z_iload_n dX11_steps_245 rfl rfl ?_
    exact z_ireturn dX11_steps_246 rfl rfl (hP _ _ _ hw hW)
  · have hw := hw.2 h1
    refine z_aload_n dX11_steps_13 rfl rfl ?_
    refine z_iload dX11_steps_14 rfl ?_
    obtain ⟨q3, hw⟩ := hw
    have hX := lX11_pieceAt 0 (Nat.le_refl _) hJ hT hW q3 hw
    refine z_callV (As := [_]) eX11_pieceAt sX11_pieceAt lX11_473 rfl dX11_steps_16 (hW.1 _ _ hT.1) hX (Nat.le_trans (by decide) hd) rfl (Nat.le_of_ble_eq_true rfl) (fun r cs hp => ?_)
    obtain ⟨r4, S5, rfl, hw, hW⟩ := hp
    refine z_st (st' := [.int (Int32.ofInt (r4))]) rfl ?_
    obtain ⟨q6, hw⟩ := hw
    have hX := lX11_beginsName 1 (Nat.le_refl _) hJ hT hW q6 hw
    refine z_callS (As := [_]) eX11_beginsName sX11_beginsName lX11_346 dX11_steps_19 hX (Nat.le_trans (by decide) hd) rfl (Nat.le_of_ble_eq_true rfl) (fun r cs hp => ?_)
    obtain ⟨r7, S8, rfl, hw, hW⟩ := hp
    refine z_st (st' := [.int (Int32.ofInt (r7))]) rfl ?_
    obtain ⟨q10, hw⟩ := hw
    refine i_if_ne (tgt := 28) dX11_steps_22 (by decide) q10 (fun h9 => ?_) (fun h9 => ?_)
    · have hw := hw.1 h9
      refine z_iload dX11_steps_28 rfl ?_
      refine z_istore dX11_steps_30 (by decide) ?_
      refine z_loc (L' := [(0, .ref (G.1 + 54)), (3, .int (Int32.ofInt (l3))), (4, .int (Int32.ofInt (l4))), (5, .int (Int32.ofInt (l5))), (6, .int (Int32.ofInt (l4)))]) (List.forall_mem_cons.mpr ⟨rfl, (List.forall_mem_cons.mpr ⟨rfl, (List.forall_mem_cons.mpr ⟨rfl, (List.forall_mem_cons.mpr ⟨rfl, (List.forall_mem_cons.mpr ⟨rfl, (fun _ h => nomatch h)⟩)⟩)⟩)⟩)⟩) ?_
      refine z_loc (L' := [(0, .ref (G.1 + 54)), (3, .int (Int32.ofInt (l3))), (4, .int (Int32.ofInt (l4))), (6, .int (Int32.ofInt (l4)))]) (List.forall_mem_cons.mpr ⟨rfl, (List.forall_mem_cons.mpr ⟨rfl, (List.forall_mem_cons.mpr ⟨rfl, (List.forall_mem_cons.mpr ⟨rfl, (fun _ h => nomatch h)⟩)⟩)⟩)⟩) ?_
      exact bX11_steps_32 hd hJ hT hW hP hB8 hw
    · have hw := hw.2 h9
      refine z_bipush (v := Int32.ofInt (-2)) dX11_steps_25 (by decide) ?_
      exact z_ireturn dX11_steps_27 rfl rfl (hP _ _ _ hw hW)
def wX11_steps_8 (l3 l4 l5 : Int) (S : St) (K : Int → St → Prop) : Prop := ∃ (Iv : Int → Int → Int → St → Prop) (mu : Int → Int → Int → St → Nat), Iv l3 l4 l5 S ∧ ∀ (l3 l4 l5 : Int) (S : St), Iv l3 l4 l5 S → wX11_steps_8' l3 l4 l5 S K  (fun ml3 ml4 ml5 T => Iv ml3 ml4 ml5 T ∧ mu ml3 ml4 ml5 T < mu l3 l4 l5 S)
set_option maxRecDepth 100000 in
set_option maxHeartbeats 4000000 in
theorem bX11_steps_8 {G : xG} {sh : Nat → Option Sh} {J : St → List va_E → Prop} {d : Nat} {Post : xP} {l3 l4 l5 : Int} {S : St} {cs : List va_E} {K : Int → St → Prop} (hd : 3 ≤ d) (hJ : Stb sh J) (hT : isM sh) (hW : Wd G sh mT J S cs) (hP : ∀ (v : Int) (S : St) (cs : List va_E), K v S → Wd G sh mT J S cs → Post (some (.int (Int32.ofInt v))) cs)  (hw : wX11_steps_8 l3 l4 l5 S K ) : Z (RX11, cX11_steps, 10, some .int, false) G d Post 8 [(0, .ref (G.1 + 54)), (3, .int (Int32.ofInt (l3))), (4, .int (Int32.ofInt (l4))), (5, .int (Int32.ofInt (l5)))] [] cs := by
  unfold wX11_steps_8 at hw
  obtain ⟨Iv, mu, h0, hs⟩ := hw
  have key : ∀ (n : Nat) (l3 l4 l5 : Int) (S : St) (cs : List va_E), mu l3 l4 l5 S < n → Iv l3 l4 l5 S → Wd G sh mT J S cs → Z (RX11, cX11_steps, 10, some .int, false) G d Post 8 [(0, .ref (G.1 + 54)), (3, .int (Int32.ofInt (l3))), (4, .int (Int32.ofInt (l4))), (5, .int (Int32.ofInt (l5)))] [] cs := by
    intro n
    induction n with
    | zero => intro l3 l4 l5 S cs hn; exact absurd hn (Nat.not_lt_zero _)
    | succ n ih =>
      intro l3 l4 l5 S cs hn hI hW
      exact bX11_steps_8' hd hJ hT hW hP  (fun l3 l4 l5 S cs hb hW => ih l3 l4 l5 S cs (Nat.lt_of_lt_of_le hb.2 (Nat.le_of_lt_succ hn)) hb.1 hW) (hs l3 l4 l5 S hI)
  exact key _ _ _ _ _ _ (Nat.lt_succ_self _) h0 hW
def wX11_steps (a1 a2 : Int) (S : St) (K : Int → St → Prop) : Prop := rng a1 → rng a2 → wX11_steps_8 (a2) (a1) (1) S K
set_option maxRecDepth 100000 in
set_option maxHeartbeats 4000000 in
theorem lX11_steps {G : xG} {sh : Nat → Option Sh} {J : St → List va_E → Prop} {a1 a2 : Int} {S : St} {cs : List va_E} {K : Int → St → Prop} (d : Nat) (hd : 3 ≤ d) (hJ : Stb sh J) (hT : isM sh) (hW : Wd G sh mT J S cs) (g1 : rng a1) (g2 : rng a2) (hw : wX11_steps a1 a2 S K) : X G yX11_steps cX11_steps 10 (some .int) d [.ref (G.1 + 54), .int (Int32.ofInt a1), .int (Int32.ofInt a2)] cs (qI G sh mT J K) := by
  refine X.of false (by decide +kernel) (by decide) (Nat.le_of_ble_eq_true rfl) ?_
  show Z (RX11, cX11_steps, 10, some .int, false) G d _ 0 [(0, .ref (G.1 + 54)), (1, .int (Int32.ofInt a1)), (2, .int (Int32.ofInt a2))] [] cs
  have hP : ∀ (v : Int) (S : St) (cs : List va_E), K v S → Wd G sh mT J S cs → qI G sh mT J K (some (.int (Int32.ofInt v))) cs := fun v S cs a b => ⟨v, S, rfl, a, b⟩
  unfold wX11_steps at hw
  have hw := hw g1 g2
  refine z_iload_n dX11_steps_0 rfl rfl ?_
  refine z_istore_n dX11_steps_1 rfl (by decide) ?_
  refine z_loc (L' := [(0, .ref (G.1 + 54)), (1, .int (Int32.ofInt (a1))), (2, .int (Int32.ofInt (a2))), (3, .int (Int32.ofInt (a2)))]) (List.forall_mem_cons.mpr ⟨rfl, (List.forall_mem_cons.mpr ⟨rfl, (List.forall_mem_cons.mpr ⟨rfl, (List.forall_mem_cons.mpr ⟨rfl, (fun _ h => nomatch h)⟩)⟩)⟩)⟩) ?_
  refine z_iload_n dX11_steps_2 rfl rfl ?_
  refine z_istore dX11_steps_3 (by decide) ?_
  refine z_loc (L' := [(0, .ref (G.1 + 54)), (1, .int (Int32.ofInt (a1))), (2, .int (Int32.ofInt (a2))), (3, .int (Int32.ofInt (a2))), (4, .int (Int32.ofInt (a1)))]) (List.forall_mem_cons.mpr ⟨rfl, (List.forall_mem_cons.mpr ⟨rfl, (List.forall_mem_cons.mpr ⟨rfl, (List.forall_mem_cons.mpr ⟨rfl, (List.forall_mem_cons.mpr ⟨rfl, (fun _ h => nomatch h)⟩)⟩)⟩)⟩)⟩) ?_
  refine z_iconst (v := Int32.ofInt 1) dX11_steps_5 rfl ?_
  refine z_istore dX11_steps_6 (by decide) ?_
  refine z_loc (L' := [(0, .ref (G.1 + 54)), (1, .int (Int32.ofInt (a1))), (2, .int (Int32.ofInt (a2))), (3, .int (Int32.ofInt (a2))), (4, .int (Int32.ofInt (a1))), (5, .int (Int32.ofInt (1)))]) (List.forall_mem_cons.mpr ⟨rfl, (List.forall_mem_cons.mpr ⟨rfl, (List.forall_mem_cons.mpr ⟨rfl, (List.forall_mem_cons.mpr ⟨rfl, (List.forall_mem_cons.mpr ⟨rfl, (List.forall_mem_cons.mpr ⟨rfl, (fun _ h => nomatch h)⟩)⟩)⟩)⟩)⟩)⟩) ?_
  refine z_loc (L' := [(0, .ref (G.1 + 54)), (3, .int (Int32.ofInt (a2))), (4, .int (Int32.ofInt (a1))), (5, .int (Int32.ofInt (1)))]) (List.forall_mem_cons.mpr ⟨rfl, (List.forall_mem_cons.mpr ⟨rfl, (List.forall_mem_cons.mpr ⟨rfl, (List.forall_mem_cons.mpr ⟨rfl, (fun _ h => nomatch h)⟩)⟩)⟩)⟩) ?_
  exact bX11_steps_8 hd hJ hT hW hP  hw

