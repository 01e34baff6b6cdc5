def wX11_putValue (a1 a2 a3 a4 : Int) (S : St) (K : Int → St → Prop) : Prop := rng a1 → rng a2 → rng a3 → rng a4 → (∀ x1 : Int, x1 = ((4 * a1) + a2) → ((0 : Int) ≤ ((4 * a3) + a2) ∧ ((4 * a3) + a2) < (24 : Int) ∧ (iv 0 3 (S.2 59 (((4 * a3) + a2))) → ((¬ S.2 59 (((4 * a3) + a2)) = 0 → (rng (x1) ∧ (wX11_putText (x1) (a4) S (fun r6 S7 => K 0 S7)))) ∧ ((¬ (¬ S.2 59 (((4 * a3) + a2)) = 0)) → ((0 : Int) ≤ x1 ∧ x1 < (360 : Int) ∧ (iv (-2147483648) 2147483647 (S.2 69 (x1)) → (wX11_putNumber (S.2 69 (x1)) S (fun r10 S11 => K 0 S11)))))))))
set_option maxRecDepth 100000 in
set_option maxHeartbeats 4000000 in
theorem lX11_putValue {G : xG} {sh : Nat → Option Sh} {J : St → List va_E → Prop} {a1 a2 a3 a4 : Int} {S : St} {cs : List va_E} {K : Int → St → Prop} (d : Nat) (hd : 3 ≤ d) (hJ : Stb sh J) (hT : isM sh) (hW : Wd G sh mT J S cs) (g1 : rng a1) (g2 : rng a2) (g3 : rng a3) (g4 : rng a4) (hw : wX11_putValue a1 a2 a3 a4 S K) : X G yX11_putValue cX11_putValue 6 none d [.ref (G.1 + 54), .int (Int32.ofInt a1), .int (Int32.ofInt a2), .int (Int32.ofInt a3), .int (Int32.ofInt a4)] cs (qV G sh mT J K) := by
  refine X.of false (by decide +kernel) (by decide) (Nat.le_of_ble_eq_true rfl) ?_
  show Z (RX11, cX11_putValue, 6, none, false) G d _ 0 [(0, .ref (G.1 + 54)), (1, .int (Int32.ofInt a1)), (2, .int (Int32.ofInt a2)), (3, .int (Int32.ofInt a3)), (4, .int (Int32.ofInt a4))] [] cs
  have hP : ∀ (v : Int) (S : St) (cs : List va_E), K v S → Wd G sh mT J S cs → qV G sh mT J K (none) cs := fun v S cs a b => ⟨v, S, rfl, a, b⟩
  unfold wX11_putValue at hw
  have hw := hw g1 g2 g3 g4
  refine z_iconst (v := Int32.ofInt 4) dX11_putValue_0 rfl ?_
  refine z_iload_n dX11_putValue_1 rfl rfl ?_
  refine i_imul dX11_putValue_2 ?_
  refine z_iload_n dX11_putValue_3 rfl rfl ?_
  refine i_iadd dX11_putValue_4 ?_
  obtain ⟨x1, hx1⟩ : ∃ x : Int, x = ((4 * a1) + a2) := ⟨_, rfl⟩
  have hw := hw x1 hx1
  refine z_st (st' := [.int (Int32.ofInt x1)]) (by rw [hx1]) ?_
  refine z_istore dX11_putValue_5 (by decide) ?_
  refine z_loc (L' := [(0, .ref (G.1 + 54)), (1, .int (Int32.ofInt (a1))), (2, .int (Int32.ofInt (a2))), (3, .int (Int32.ofInt (a3))), (4, .int (Int32.ofInt (a4))), (5, .int (Int32.ofInt (x1)))]) (List.forall_mem_cons.mpr ⟨rfl, (List.forall_mem_cons.mpr ⟨rfl, (List.forall_mem_cons.mpr ⟨rfl, (List.forall_mem_cons.mpr ⟨rfl, (List.forall_mem_cons.mpr ⟨rfl, (List.forall_mem_cons.mpr ⟨rfl, (fun _ h => nomatch h)⟩)⟩)⟩)⟩)⟩)⟩) ?_
  refine z_aload_n dX11_putValue_7 rfl rfl ?_
  refine g_getR hW hT.1 mr6 kX11 fX11_22 dX11_putValue_8 ?_
  refine z_iconst (v := Int32.ofInt 4) dX11_putValue_11 rfl ?_
  refine z_iload_n dX11_putValue_12 rfl rfl ?_
  refine i_imul dX11_putValue_13 ?_
  refine z_iload_n dX11_putValue_14 rfl rfl ?_
  refine i_iadd dX11_putValue_15 ?_
  obtain ⟨q2a, q2b, hw⟩ := hw
  have q3 : iv 0 3 (S.2 59 (((4 * a3) + a2))) := mA59 hW _
  have hw := hw q3
  refine g_iald hW (ma59 hT) q2a q2b (by decide) dX11_putValue_16 ?_
  refine i_if_ne (tgt := 34) dX11_putValue_17 (by decide) (rngq q3 (by decide) (by decide)) (fun h4 => ?_) (fun h4 => ?_)
  · have hw := hw.1 h4
    refine z_aload_n dX11_putValue_34 rfl rfl ?_
    refine z_iload dX11_putValue_35 rfl ?_
    refine z_iload dX11_putValue_37 rfl ?_
    obtain ⟨q5, hw⟩ := hw
    have hX := lX11_putText 2 (Nat.le_refl _) hJ hT hW q5 g4 hw
    refine z_callV (As := [_, _]) eX11_putText sX11_putText lX11_274 rfl dX11_putValue_39 (hW.1 _ _ hT.1) hX (Nat.le_trans (by decide) hd) rfl (Nat.le_of_ble_eq_true rfl) (fun r cs hp => ?_)
    obtain ⟨r6, S7, rfl, hw, hW⟩ := hp
    refine z_st (st' := []) rfl ?_
    exact z_return dX11_putValue_42 rfl (hP 0 _ _ hw hW)
  · have hw := hw.2 h4
    refine z_aload_n dX11_putValue_20 rfl rfl ?_
    refine z_aload_n dX11_putValue_21 rfl rfl ?_
    refine g_getR hW hT.1 mr16 kX11 fX11_53 dX11_putValue_22 ?_
    refine z_iload dX11_putValue_25 rfl ?_
    obtain ⟨q8a, q8b, hw⟩ := hw
    have q9 : iv (-2147483648) 2147483647 (S.2 69 (x1)) := mA69 hW _
    have hw := hw q9
    refine g_iald hW (ma69 hT) q8a q8b (by decide) dX11_putValue_27 ?_
    have hX := lX11_putNumber 1 (Nat.le_refl _) hJ hT hW (rngq q9 (by decide) (by decide)) hw
    refine z_callV (As := [_]) eX11_putNumber sX11_putNumber lX11_271 rfl dX11_putValue_28 (hW.1 _ _ hT.1) hX (Nat.le_trans (by decide) hd) rfl (Nat.le_of_ble_eq_true rfl) (fun r cs hp => ?_)
    obtain ⟨r10, S11, rfl, hw, hW⟩ := hp
    refine z_st (st' := []) rfl ?_
    refine z_goto (tgt := 42) dX11_putValue_31 (by decide) ?_
    exact z_return dX11_putValue_42 rfl (hP 0 _ _ hw hW)

def wX11_begin_232 (l1 l3 l6 l7 l8 : Int) (S : St) (K : Int → St → Prop) (B143 : Int → Int → Int → Int → Int → St → Prop) : Prop := B143 (l1) (l3) (l6) (l7) ((l8 + 1)) S
set_option maxRecDepth 100000 in
set_option maxHeartbeats 4000000 in
theorem bX11_begin_232 {G : xG} {sh : Nat → Option Sh} {J : St → List va_E → Prop} {d : Nat} {Post : xP} {l1 l3 l6 l7 l8 : Int} {S : St} {cs : List va_E} {K : Int → St → Prop} {B143 : Int → Int → Int → Int → Int → St → Prop} (hd : 4 ≤ d) (hJ : Stb sh J) (hT : isM sh) (hW : Wd G sh mT J S cs) (hP : ∀ (v : Int) (S : St) (cs : List va_E), K v S → Wd G sh mT J S cs → Post (none) cs) (hB143 : ∀ (l1 : Int) (l3 : Int) (l6 : Int) (l7 : Int) (l8 : Int) (S : St) (cs : List va_E), B143 l1 l3 l6 l7 l8 S → Wd G sh mT J S cs → Z (RX11, cX11_begin, 9, none, false) G d Post 143 [(0, .ref (G.1 + 54)), (1, .int (Int32.ofInt (l1))), (3, .int (Int32.ofInt (l3))), (6, .int (Int32.ofInt (l6))), (7, .int (Int32.ofInt (l7))), (8, .int (Int32.ofInt (l8)))] [] cs) (hw : wX11_begin_232 l1 l3 l6 l7 l8 S K B143) : Z (RX11, cX11_begin, 9, none, false) G d Post 232 [(0, .ref (G.1 + 54)), (1, .int (Int32.ofInt (l1))), (3, .int (Int32.ofInt (l3))), (6, .int (Int32.ofInt (l6))), (7, .int (Int32.ofInt (l7))), (8, .int (Int32.ofInt (l8)))] [] cs := by
  unfold wX11_begin_232 at hw
  refine i_iinc (l := l8) dX11_begin_232 rfl (by decide) ?_
  refine z_loc (L' := [(0, .ref (G.1 + 54)), (1, .int (Int32.ofInt (l1))), (3, .int (Int32.ofInt (l3))), (6, .int (Int32.ofInt (l6))), (7, .int (Int32.ofInt (l7))), (8, .int (Int32.ofInt ((l8 + 1))))]) (List.forall_mem_cons.mpr ⟨rfl, (List.forall_mem_cons.mpr ⟨rfl, (List.forall_mem_cons.mpr ⟨rfl, (List.forall_mem_cons.mpr ⟨rfl, (List.forall_mem_cons.mpr ⟨rfl, (List.forall_mem_cons.mpr ⟨rfl, (fun _ h => nomatch h)⟩)⟩)⟩)⟩)⟩)⟩) ?_
  refine z_goto (tgt := 143) dX11_begin_235 (by decide) ?_
  refine z_loc (L' := [(0, .ref (G.1 + 54)), (1, .int (Int32.ofInt (l1))), (3, .int (Int32.ofInt (l3))), (6, .int (Int32.ofInt (l6))), (7, .int (Int32.ofInt (l7))), (8, .int (Int32.ofInt ((l8 + 1))))]) (List.forall_mem_cons.mpr ⟨rfl, (List.forall_mem_cons.mpr ⟨rfl, (List.forall_mem_cons.mpr ⟨rfl, (List.forall_mem_cons.mpr ⟨rfl, (List.forall_mem_cons.mpr ⟨rfl, (List.forall_mem_cons.mpr ⟨rfl, (fun _ h => nomatch h)⟩)⟩)⟩)⟩)⟩)⟩) ?_
  exact hB143 _ _ _ _ _ _ _ hw hW
def wX11_begin_143' (l1 l3 l6 l7 l8 : Int) (S : St) (K : Int → St → Prop) (B143 : Int → Int → Int → Int → Int → St → Prop) : Prop := ((0 : Int) ≤ l6 ∧ l6 < (6 : Int) ∧ (iv 0 4 (S.2 56 (l6)) → (rng (l8) ∧ ((S.2 56 (l6) ≤ l8 → (rng (l1) ∧ (rng (l6) ∧ (wX11_hasContent (l1) (l6) S (fun r7 S8 => (rng (r7) ∧ ((¬ r7 = 0 → (wX11_put (62) S8 (fun r11 S12 => (iv 0 20 (S12.1 54 32) → ((0 : Int) ≤ S12.1 54 32 ∧ S12.1 54 32 < (24 : Int) ∧ (iv 0 29 (l1) ∧ (∀ S15, S15 = pA S12 77 (S12.1 54 32) (l1) → (iv 0 20 (S15.1 54 32) → ((0 : Int) ≤ S15.1 54 32 ∧ S15.1 54 32 < (24 : Int) ∧ (iv 0 899 (l7) ∧ (∀ S19, S19 = pA S15 78 (S15.1 54 32) (l7) → (iv 0 20 (S19.1 54 32) → ((0 : Int) ≤ S19.1 54 32 ∧ S19.1 54 32 < (24 : Int) ∧ (iv 0 29 (l3) ∧ (∀ S23, S23 = pA S19 79 (S19.1 54 32) (l3) → (iv 0 20 (S23.1 54 32) → ((0 : Int) ≤ S23.1 54 32 ∧ S23.1 54 32 < (24 : Int) ∧ (∀ S27, S27 = pA S23 80 (S23.1 54 32) (0) → (iv 0 20 (S27.1 54 32) → ((0 : Int) ≤ S27.1 54 32 ∧ S27.1 54 32 < (24 : Int) ∧ (∀ S30, S30 = pA S27 81 (S27.1 54 32) (0) → (iv 0 20 (S30.1 54 32) → ((0 : Int) ≤ S30.1 54 32 ∧ S30.1 54 32 < (24 : Int) ∧ (∀ S33, S33 = pA S30 82 (S30.1 54 32) ((-2)) → (iv 0 20 (S33.1 54 32) → (iv 0 20 ((S33.1 54 32 + 1)) ∧ (∀ S35, S35 = pI S33 54 32 ((S33.1 54 32 + 1)) → K 0 S35))))))))))))))))))))))))))) ∧ ((¬ (¬ r7 = 0)) → (wX11_putWord (47) (62) (0) (0) S8 (fun r37 S38 => K 0 S38)))))))))) ∧ ((¬ (S.2 56 (l6) ≤ l8)) → ((0 : Int) ≤ ((4 * l6) + l8) ∧ ((4 * l6) + l8) < (24 : Int) ∧ (iv 0 3 (S.2 59 (((4 * l6) + l8))) → ((1 < S.2 59 (((4 * l6) + l8)) → wX11_begin_232 (l1) (l3) (l6) (l7) (l8) S K B143) ∧ ((¬ (1 < S.2 59 (((4 * l6) + l8)))) → ((0 : Int) ≤ ((4 * l6) + l8) ∧ ((4 * l6) + l8) < (24 : Int) ∧ (iv 0 1 (S.2 60 (((4 * l6) + l8))) → ((S.2 60 (((4 * l6) + l8)) = 0 → wX11_begin_232 (l1) (l3) (l6) (l7) (l8) S K B143) ∧ ((¬ (S.2 60 (((4 * l6) + l8)) = 0)) → (wX11_put (32) S (fun r45 S46 => (rng (((6 + (4 * l6)) + l8)) ∧ (wX11_putName (((6 + (4 * l6)) + l8)) S46 (fun r48 S49 => (wX11_putWord (61) (34) (0) (0) S49 (fun r50 S51 => (rng (l1) ∧ (rng (l6) ∧ (wX11_putValue (l1) (l8) (l6) (1) S51 (fun r54 S55 => (wX11_put (34) S55 (fun r56 S57 => wX11_begin_232 (l1) (l3) (l6) (l7) (l8) S57 K B143))))))))))))))))))))))))))
set_option maxRecDepth 100000 in
set_option maxHeartbeats 4000000 in
theorem bX11_begin_143' {G : xG} {sh : Nat → Option Sh} {J : St → List va_E → Prop} {d : Nat} {Post : xP} {l1 l3 l6 l7 l8 : Int} {S : St} {cs : List va_E} {K : Int → St → Prop} {B143 : Int → Int → Int → Int → Int → St → Prop} (hd : 4 ≤ d) (hJ : Stb sh J) (hT : isM sh) (hW : Wd G sh mT J S cs) (hP : ∀ (v : Int) (S : St) (cs : List va_E), K v S → Wd G sh mT J S cs → Post (none) cs) (hB143 : ∀ (l1 : Int) (l3 : Int) (l6 : Int) (l7 : Int) (l8 : Int) (S : St) (cs : List va_E), B143 l1 l3 l6 l7 l8 S → Wd G sh mT J S cs → Z (RX11, cX11_begin, 9, none, false) G d Post 143 [(0, .ref (G.1 + 54)), (1, .int (Int32.ofInt (l1))), (3, .int (Int32.ofInt (l3))), (6, .int (Int32.ofInt (l6))), (7, .int (Int32.ofInt (l7))), (8, .int (Int32.ofInt (l8)))] [] cs) (hw : wX11_begin_143' l1 l3 l6 l7 l8 S K B143) : Z (RX11, cX11_begin, 9, none, false) G d Post 143 [(0, .ref (G.1 + 54)), (1, .int (Int32.ofInt (l1))), (3, .int (Int32.ofInt (l3))), (6, .int (Int32.ofInt (l6))), (7, .int (Int32.ofInt (l7))), (8, .int (Int32.ofInt (l8)))] [] cs := by
  unfold wX11_begin_143' at hw
  refine z_iload dX11_begin_143 rfl ?_
  refine z_aload_n dX11_begin_145 rfl rfl ?_
  refine g_getR hW hT.1 mr3 kX11 fX11_13 dX11_begin_146 ?_
  refine z_iload dX11_begin_149 rfl ?_
  obtain ⟨q1a, q1b, hw⟩ := hw
  have q2 : iv 0 4 (S.2 56 (l6)) := mA56 hW _
  have hw := hw q2
  refine g_iald hW (ma56 hT) q1a q1b (by decide) dX11_begin_151 ?_
  obtain ⟨q4, hw⟩ := hw
  refine i_icmp_ge (tgt := 238) dX11_begin_152 (by decide) q4 (rngq q2 (by decide) (by decide)) (fun h3 => ?_) (fun h3 => ?_)
  · have hw := hw.1 h3
    refine z_aload_n dX11_begin_238 rfl rfl ?_
    refine z_iload_n dX11_begin_239 rfl rfl ?_
    refine z_iload dX11_begin_240 rfl ?_
    obtain ⟨q5, hw⟩ := hw
    obtain ⟨q6, hw⟩ := hw
    have hX := lX11_hasContent 0 (Nat.le_refl _) hJ hT hW q5 q6 hw
    refine z_callV (As := [_, _]) eX11_hasContent sX11_hasContent lX11_313 rfl dX11_begin_242 (hW.1 _ _ hT.1) hX (Nat.le_trans (by decide) hd) rfl (Nat.le_of_ble_eq_true rfl) (fun r cs hp => ?_)
    obtain ⟨r7, S8, rfl, hw, hW⟩ := hp
    refine z_st (st' := [.int (Int32.ofInt (r7))]) rfl ?_
    obtain ⟨q10, hw⟩ := hw
    refine i_if_ne (tgt := 259) dX11_begin_245 (by decide) q10 (fun h9 => ?_) (fun h9 => ?_)
    · have hw := hw.1 h9
      refine z_aload_n dX11_begin_259 rfl rfl ?_
      refine z_bipush (v := Int32.ofInt 62) dX11_begin_260 (by decide) ?_
      have hX := lX11_put 0 (Nat.le_refl _) hJ hT hW ⟨by decide, by decide⟩ hw
      refine z_callV (As := [_]) eX11_put sX11_put lX11_260 rfl dX11_begin_262 (hW.1 _ _ hT.1) hX (Nat.le_trans (by decide) hd) rfl (Nat.le_of_ble_eq_true rfl) (fun r cs hp => ?_)
      obtain ⟨r11, S12, rfl, hw, hW⟩ := hp
      refine z_st (st' := []) rfl ?_
      refine z_aload_n dX11_begin_265 rfl rfl ?_
      refine g_getR hW hT.1 mr33 kX11 fX11_81 dX11_begin_266 ?_
      refine z_aload_n dX11_begin_269 rfl rfl ?_
      have q13 : iv 0 20 (S12.1 54 32) := mI32 hW
      have hw := hw q13
      refine g_getI hW hT.1 mr32 kX11 fX11_316 dX11_begin_270 ?_
      refine z_iload_n dX11_begin_273 rfl rfl ?_
      obtain ⟨q14a, q14b, hw⟩ := hw
      obtain ⟨q16, hw⟩ := hw
      refine g_iast hJ hW (ma77 hT) q14a q14b (by decide) q16 dX11_begin_274 (fun cs hW => ?_)
      obtain ⟨S15, hS15⟩ : ∃ x, x = pA S12 77 (S12.1 54 32) (l1) := ⟨_, rfl⟩
      rw [← hS15] at hW
      have hw := hw S15 hS15
      refine z_aload_n dX11_begin_275 rfl rfl ?_
      refine g_getR hW hT.1 mr34 kX11 fX11_84 dX11_begin_276 ?_
      refine z_aload_n dX11_begin_279 rfl rfl ?_
      have q17 : iv 0 20 (S15.1 54 32) := mI32 hW
      have hw := hw q17
      refine g_getI hW hT.1 mr32 kX11 fX11_316 dX11_begin_280 ?_
      refine z_iload dX11_begin_283 rfl ?_
      obtain ⟨q18a, q18b, hw⟩ := hw
      obtain ⟨q20, hw⟩ := hw
      refine g_iast hJ hW (ma78 hT) q18a q18b (by decide) q20 dX11_begin_285 (fun cs hW => ?_)
      obtain ⟨S19, hS19⟩ : ∃ x, x = pA S15 78 (S15.1 54 32) (l7) := ⟨_, rfl⟩
      rw [← hS19] at hW
      have hw := hw S19 hS19
      refine z_aload_n dX11_begin_286 rfl rfl ?_
      refine g_getR hW hT.1 mr35 kX11 fX11_87 dX11_begin_287 ?_
      refine z_aload_n dX11_begin_290 rfl rfl ?_
      have q21 : iv 0 20 (S19.1 54 32) := mI32 hW
      have hw := hw q21
      refine g_getI hW hT.1 mr32 kX11 fX11_316 dX11_begin_291 ?_
      refine z_iload_n dX11_begin_294 rfl rfl ?_
      obtain ⟨q22a, q22b, hw⟩ := hw
      obtain ⟨q24, hw⟩ := hw
      refine g_iast hJ hW (ma79 hT) q22a q22b (by decide) q24 dX11_begin_295 (fun cs hW => ?_)
      obtain ⟨S23, hS23⟩ : ∃ x, x = pA S19 79 (S19.1 54 32) (l3) := ⟨_, rfl⟩
      rw [← hS23] at hW
      have hw := hw S23 hS23
      refine z_aload_n dX11_begin_296 rfl rfl ?_
      refine g_getR hW hT.1 mr36 kX11 fX11_90 dX11_begin_297 ?_
      refine z_aload_n dX11_begin_300 rfl rfl ?_
      have q25 : iv 0 20 (S23.1 54 32) := mI32 hW
      have hw := hw q25
      refine g_getI hW hT.1 mr32 kX11 fX11_316 dX11_begin_301 ?_
      refine z_iconst (v := Int32.ofInt 0) dX11_begin_304 rfl ?_
      obtain ⟨q26a, q26b, hw⟩ := hw
      refine g_iast hJ hW (ma80 hT) q26a q26b (by decide) ⟨by decide, by decide⟩ dX11_begin_305 (fun cs hW => ?_)
      obtain ⟨S27, hS27⟩ : ∃ x, x = pA S23 80 (S23.1 54 32) (0) := ⟨_, rfl⟩
      rw [← hS27] at hW
      have hw := hw S27 hS27
      refine z_aload_n dX11_begin_306 rfl rfl ?_
      refine g_getR hW hT.1 mr37 kX11 fX11_93 dX11_begin_307 ?_
      refine z_aload_n dX11_begin_310 rfl rfl ?_
      have q28 : iv 0 20 (S27.1 54 32) := mI32 hW
      have hw := hw q28
      refine g_getI hW hT.1 mr32 kX11 fX11_316 dX11_begin_311 ?_
      refine z_iconst (v := Int32.ofInt 0) dX11_begin_314 rfl ?_
      obtain ⟨q29a, q29b, hw⟩ := hw
      refine g_iast hJ hW (ma81 hT) q29a q29b (by decide) ⟨by decide, by decide⟩ dX11_begin_315 (fun cs hW => ?_)
      obtain ⟨S30, hS30⟩ : ∃ x, x = pA S27 81 (S27.1 54 32) (0) := ⟨_, rfl⟩
      rw [← hS30] at hW
      have hw := hw S30 hS30
      refine z_aload_n dX11_begin_316 rfl rfl ?_
      refine g_getR hW hT.1 mr38 kX11 fX11_96 dX11_begin_317 ?_
      refine z_aload_n dX11_begin_320 rfl rfl ?_
      have q31 : iv 0 20 (S30.1 54 32) := mI32 hW
      have hw := hw q31
      refine g_getI hW hT.1 mr32 kX11 fX11_316 dX11_begin_321 ?_
      refine z_bipush (v := Int32.ofInt (-2)) dX11_begin_324 (by decide) ?_
      obtain ⟨q32a, q32b, hw⟩ := hw
      refine g_iast hJ hW (ma82 hT) q32a q32b (by decide) ⟨by decide, by decide⟩ dX11_begin_326 (fun cs hW => ?_)
      obtain ⟨S33, hS33⟩ : ∃ x, x = pA S30 82 (S30.1 54 32) ((-2)) := ⟨_, rfl⟩
      rw [← hS33] at hW
      have hw := hw S33 hS33
      refine z_aload_n dX11_begin_327 rfl rfl ?_
      refine z_dup dX11_begin_328 rfl ?_
      have q34 : iv 0 20 (S33.1 54 32) := mI32 hW
      have hw := hw q34
      refine g_getI hW hT.1 mr32 kX11 fX11_316 dX11_begin_329 ?_
      refine z_iconst (v := Int32.ofInt 1) dX11_begin_332 rfl ?_
      refine i_iadd dX11_begin_333 ?_
      obtain ⟨q36, hw⟩ := hw
      refine g_putI hJ hW hT.1 mr32 kX11 fX11_316 dX11_begin_334 rfl rfl rfl q36 (fun cs hW => ?_)
      obtain ⟨S35, hS35⟩ : ∃ x, x = pI S33 54 32 ((S33.1 54 32 + 1)) := ⟨_, rfl⟩
      rw [← hS35] at hW
      have hw := hw S35 hS35
      exact z_return dX11_begin_337 rfl (hP 0 _ _ hw hW)
    · have hw := hw.2 h9
      refine z_aload_n dX11_begin_248 rfl rfl ?_
      refine z_bipush (v := Int32.ofInt 47) dX11_begin_249 (by decide) ?_
      refine z_bipush (v := Int32.ofInt 62) dX11_begin_251 (by decide) ?_
      refine z_iconst (v := Int32.ofInt 0) dX11_begin_253 rfl ?_
      refine z_iconst (v := Int32.ofInt 0) dX11_begin_254 rfl ?_
      have hX := lX11_putWord 1 (Nat.le_refl _) hJ hT hW ⟨by decide, by decide⟩ ⟨by decide, by decide⟩ ⟨by decide, by decide⟩ ⟨by decide, by decide⟩ hw
      refine z_callV (As := [_, _, _, _]) eX11_putWord sX11_putWord lX11_267 rfl dX11_begin_255 (hW.1 _ _ hT.1) hX (Nat.le_trans (by decide) hd) rfl (Nat.le_of_ble_eq_true rfl) (fun r cs hp => ?_)
      obtain ⟨r37, S38, rfl, hw, hW⟩ := hp
      refine z_st (st' := []) rfl ?_
      exact z_return dX11_begin_258 rfl (hP 0 _ _ hw hW)
  · have hw := hw.2 h3
    refine z_aload_n dX11_begin_155 rfl rfl ?_
    refine g_getR hW hT.1 mr6 kX11 fX11_22 dX11_begin_156 ?_
    refine z_iconst (v := Int32.ofInt 4) dX11_begin_159 rfl ?_
    refine z_iload dX11_begin_160 rfl ?_
    refine i_imul dX11_begin_162 ?_
    refine z_iload dX11_begin_163 rfl ?_
    refine i_iadd dX11_begin_165 ?_
    obtain ⟨q39a, q39b, hw⟩ := hw
    have q40 : iv 0 3 (S.2 59 (((4 * l6) + l8))) := mA59 hW _
    have hw := hw q40
    refine g_iald hW (ma59 hT) q39a q39b (by decide) dX11_begin_166 ?_
    refine z_iconst (v := Int32.ofInt 1) dX11_begin_167 rfl ?_
    refine i_icmp_gt (tgt := 232) dX11_begin_168 (by decide) (rngq q40 (by decide) (by decide)) ⟨by decide, by decide⟩ (fun h41 => ?_) (fun h41 => ?_)
    · have hw := hw.1 h41
      refine z_loc (L' := [(0, .ref (G.1 + 54)), (1, .int (Int32.ofInt (l1))), (3, .int (Int32.ofInt (l3))), (6, .int (Int32.ofInt (l6))), (7, .int (Int32.ofInt (l7))), (8, .int (Int32.ofInt (l8)))]) (List.forall_mem_cons.mpr ⟨rfl, (List.forall_mem_cons.mpr ⟨rfl, (List.forall_mem_cons.mpr ⟨rfl, (List.forall_mem_cons.mpr ⟨rfl, (List.forall_mem_cons.mpr ⟨rfl, (List.forall_mem_cons.mpr ⟨rfl, (fun _ h => nomatch h)⟩)⟩)⟩)⟩)⟩)⟩) ?_
      exact bX11_begin_232 hd hJ hT hW hP hB143 hw
    · have hw := hw.2 h41
      refine z_aload_n dX11_begin_171 rfl rfl ?_
      refine g_getR hW hT.1 mr7 kX11 fX11_25 dX11_begin_172 ?_
      refine z_iconst (v := Int32.ofInt 4) dX11_begin_175 rfl ?_
      refine z_iload dX11_begin_176 rfl ?_
      refine i_imul dX11_begin_178 ?_
      refine z_iload dX11_begin_179 rfl ?_
      refine i_iadd dX11_begin_181 ?_
      obtain ⟨q42a, q42b, hw⟩ := hw
      have q43 : iv 0 1 (S.2 60 (((4 * l6) + l8))) := mA60 hW _
      have hw := hw q43
      refine g_zald hW (ma60 hT) q42a q42b (by decide) dX11_begin_182 ?_
      refine i_if_eq (tgt := 232) dX11_begin_183 (by decide) (rngq q43 (by decide) (by decide)) (fun h44 => ?_) (fun h44 => ?_)
      · have hw := hw.1 h44
        refine z_loc (L' := [(0, .ref (G.1 + 54)), (1, .int (Int32.ofInt (l1))), (3, .int (Int32.ofInt (l3))), (6, .int (Int32.ofInt (l6))), (7, .int (Int32.ofInt (l7))), (8, .int (Int32.ofInt (l8)))]) (List.forall_mem_cons.mpr ⟨rfl, (List.forall_mem_cons.mpr ⟨rfl, (List.forall_mem_cons.mpr ⟨rfl, (List.forall_mem_cons.mpr ⟨rfl, (List.forall_mem_cons.mpr ⟨rfl, (List.forall_mem_cons.mpr ⟨rfl, (fun _ h => nomatch h)⟩)⟩)⟩)⟩)⟩)⟩) ?_
        exact bX11_begin_232 hd hJ hT hW hP hB143 hw
      · have hw := hw.2 h44
        refine z_aload_n dX11_begin_186 rfl rfl ?_
        refine z_bipush (v := Int32.ofInt 32) dX11_begin_187 (by decide) ?_
        have hX := lX11_put 0 (Nat.le_refl _) hJ hT hW ⟨by decide, by decide⟩ hw
        refine z_callV (As := [_]) eX11_put sX11_put lX11_260 rfl dX11_begin_189 (hW.1 _ _ hT.1) hX (Nat.le_trans (by decide) hd) rfl (Nat.le_of_ble_eq_true rfl) (fun r cs hp => ?_)
        obtain ⟨r45, S46, rfl, hw, hW⟩ := hp
        refine z_st (st' := []) rfl ?_
        refine z_aload_n dX11_begin_192 rfl rfl ?_
        refine z_bipush (v := Int32.ofInt 6) dX11_begin_193 (by decide) ?_
        refine z_iconst (v := Int32.ofInt 4) dX11_begin_195 rfl ?_
        refine z_iload dX11_begin_196 rfl ?_
        refine i_imul dX11_begin_198 ?_
        refine i_iadd dX11_begin_199 ?_
        refine z_iload dX11_begin_200 rfl ?_
        refine i_iadd dX11_begin_202 ?_
        obtain ⟨q47, hw⟩ := hw
        have hX := lX11_putName 1 (Nat.le_refl _) hJ hT hW q47 hw
        refine z_callV (As := [_]) eX11_putName sX11_putName lX11_284 rfl dX11_begin_203 (hW.1 _ _ hT.1) hX (Nat.le_trans (by decide) hd) rfl (Nat.le_of_ble_eq_true rfl) (fun r cs hp => ?_)
        obtain ⟨r48, S49, rfl, hw, hW⟩ := hp
        refine z_st (st' := []) rfl ?_
        refine z_aload_n dX11_begin_206 rfl rfl ?_
        refine z_bipush (v := Int32.ofInt 61) dX11_begin_207 (by decide) ?_
        refine z_bipush (v := Int32.ofInt 34) dX11_begin_209 (by decide) ?_
        refine z_iconst (v := Int32.ofInt 0) dX11_begin_211 rfl ?_
        refine z_iconst (v := Int32.ofInt 0) dX11_begin_212 rfl ?_
        have hX := lX11_putWord 1 (Nat.le_refl _) hJ hT hW ⟨by decide, by decide⟩ ⟨by decide, by decide⟩ ⟨by decide, by decide⟩ ⟨by decide, by decide⟩ hw
        refine z_callV (As := [_, _, _, _]) eX11_putWord sX11_putWord lX11_267 rfl dX11_begin_213 (hW.1 _ _ hT.1) hX (Nat.le_trans (by decide) hd) rfl (Nat.le_of_ble_eq_true rfl) (fun r cs hp => ?_)
        obtain ⟨r50, S51, rfl, hw, hW⟩ := hp
        refine z_st (st' := []) rfl ?_
        refine z_aload_n dX11_begin_216 rfl rfl ?_
        refine z_iload_n dX11_begin_217 rfl rfl ?_
        refine z_iload dX11_begin_218 rfl ?_
        refine z_iload dX11_begin_220 rfl ?_
        refine z_iconst (v := Int32.ofInt 1) dX11_begin_222 rfl ?_
        obtain ⟨q52, hw⟩ := hw
        obtain ⟨q53, hw⟩ := hw
        have hX := lX11_putValue 3 (Nat.le_refl _) hJ hT hW q52 q4 q53 ⟨by decide, by decide⟩ hw
        refine z_callV (As := [_, _, _, _]) eX11_putValue sX11_putValue lX11_309 rfl dX11_begin_223 (hW.1 _ _ hT.1) hX (Nat.le_trans (by decide) hd) rfl (Nat.le_of_ble_eq_true rfl) (fun r cs hp => ?_)
        obtain ⟨r54, S55, rfl, hw, hW⟩ := hp
        refine z_st (st' := []) rfl ?_
        refine z_aload_n dX11_begin_226 rfl rfl ?_
        refine z_bipush (v := Int32.ofInt 34) dX11_begin_227 (by decide) ?_
        have hX := lX11_put 0 (Nat.le_refl _) hJ hT hW ⟨by decide, by decide⟩ hw
        refine z_callV (As := [_]) eX11_put sX11_put lX11_260 rfl dX11_begin_229 (hW.1 _ _ hT.1) hX (Nat.le_trans (by decide) hd) rfl (Nat.le_of_ble_eq_true rfl) (fun r cs hp => ?_)
        obtain ⟨r56, S57, rfl, hw, hW⟩ := hp
        refine z_st (st' := []) rfl ?_
        refine z_loc (L' := [(0, .ref (G.1 + 54)), (1, .int (Int32.ofInt (l1))), (3, .int (Int32.ofInt (l3))), (6, .int (Int32.ofInt (l6))), (7, .int (Int32.ofInt (l7))), (8, .int (Int32.ofInt (l8)))]) (List.forall_mem_cons.mpr ⟨rfl, (List.forall_mem_cons.mpr ⟨rfl, (List.forall_mem_cons.mpr ⟨rfl, (List.forall_mem_cons.mpr ⟨rfl, (List.forall_mem_cons.mpr ⟨rfl, (List.forall_mem_cons.mpr ⟨rfl, (fun _ h => nomatch h)⟩)⟩)⟩)⟩)⟩)⟩) ?_
        exact bX11_begin_232 hd hJ hT hW hP hB143 hw
def wX11_begin_143 (l1 l3 l6 l7 l8 : Int) (S : St) (K : Int → St → Prop) : Prop := ∃ (Iv : Int → Int → Int → Int → Int → St → Prop) (mu : Int → Int → Int → Int → Int → St → Nat), Iv l1 l3 l6 l7 l8 S ∧ ∀ (l1 l3 l6 l7 l8 : Int) (S : St), Iv l1 l3 l6 l7 l8 S → wX11_begin_143' l1 l3 l6 l7 l8 S K  (fun ml1 ml3 ml6 ml7 ml8 T => Iv ml1 ml3 ml6 ml7 ml8 T ∧ mu ml1 ml3 ml6 ml7 ml8 T < mu l1 l3 l6 l7 l8 S)
set_option maxRecDepth 100000 in
set_option maxHeartbeats 4000000 in
theorem bX11_begin_143 {G : xG} {sh : Nat → Option Sh} {J : St → List va_E → Prop} {d : Nat} {Post : xP} {l1 l3 l6 l7 l8 : Int} {S : St} {cs : List va_E} {K : Int → St → Prop} (hd : 4 ≤ d) (hJ : Stb sh J) (hT : isM sh) (hW : Wd G sh mT J S cs) (hP : ∀ (v : Int) (S : St) (cs : List va_E), K v S → Wd G sh mT J S cs → Post (none) cs)  (hw : wX11_begin_143 l1 l3 l6 l7 l8 S K ) : Z (RX11, cX11_begin, 9, none, false) G d Post 143 [(0, .ref (G.1 + 54)), (1, .int (Int32.ofInt (l1))), (3, .int (Int32.ofInt (l3))), (6, .int (Int32.ofInt (l6))), (7, .int (Int32.ofInt (l7))), (8, .int (Int32.ofInt (l8)))] [] cs := by
  unfold wX11_begin_143 at hw
  obtain ⟨Iv, mu, h0, hs⟩ := hw
  have key : ∀ (n : Nat) (l1 l3 l6 l7 l8 : Int) (S : St) (cs : List va_E), mu l1 l3 l6 l7 l8 S < n → Iv l1 l3 l6 l7 l8 S → Wd G sh mT J S cs → Z (RX11, cX11_begin, 9, none, false) G d Post 143 [(0, .ref (G.1 + 54)), (1, .int (Int32.ofInt (l1))), (3, .int (Int32.ofInt (l3))), (6, .int (Int32.ofInt (l6))), (7, .int (Int32.ofInt (l7))), (8, .int (Int32.ofInt (l8)))] [] cs := by
    intro n
    induction n with
    | zero => intro l1 l3 l6 l7 l8 S cs hn; exact absurd hn (Nat.not_lt_zero _)
    | succ n ih =>
      intro l1 l3 l6 l7 l8 S cs hn hI hW
      exact bX11_begin_143' hd hJ hT hW hP  (fun l1 l3 l6 l7 l8 S cs hb hW => ih l1 l3 l6 l7 l8 S cs (Nat.lt_of_lt_of_le hb.2 (Nat.le_of_lt_succ hn)) hb.1 hW) (hs l1 l3 l6 l7 l8 S hI)
  exact key _ _ _ _ _ _ _ _ (Nat.lt_succ_self _) h0 hW
def wX11_begin_140 (l1 l3 l6 l7 : Int) (S : St) (K : Int → St → Prop) : Prop := wX11_begin_143 (l1) (l3) (l6) (l7) (0) S K
set_option maxRecDepth 100000 in
set_option maxHeartbeats 4000000 in
theorem bX11_begin_140 {G : xG} {sh : Nat → Option Sh} {J : St → List va_E → Prop} {d : Nat} {Post : xP} {l1 l3 l6 l7 : Int} {S : St} {cs : List va_E} {K : Int → St → Prop} (hd : 4 ≤ d) (hJ : Stb sh J) (hT : isM sh) (hW : Wd G sh mT J S cs) (hP : ∀ (v : Int) (S : St) (cs : List va_E), K v S → Wd G sh mT J S cs → Post (none) cs)  (hw : wX11_begin_140 l1 l3 l6 l7 S K ) : Z (RX11, cX11_begin, 9, none, false) G d Post 140 [(0, .ref (G.1 + 54)), (1, .int (Int32.ofInt (l1))), (3, .int (Int32.ofInt (l3))), (6, .int (Int32.ofInt (l6))), (7, .int (Int32.ofInt (l7)))] [] cs := by
  unfold wX11_begin_140 at hw
  refine z_iconst (v := Int32.ofInt 0) dX11_begin_140 rfl ?_
  refine z_istore dX11_begin_141 (by decide) ?_
  refine z_loc (L' := [(0, .ref (G.1 + 54)), (1, .int (Int32.ofInt (l1))), (3, .int (Int32.ofInt (l3))), (6, .int (Int32.ofInt (l6))), (7, .int (Int32.ofInt (l7))), (8, .int (Int32.ofInt (0)))]) (List.forall_mem_cons.mpr ⟨rfl, (List.forall_mem_cons.mpr ⟨rfl, (List.forall_mem_cons.mpr ⟨rfl, (List.forall_mem_cons.mpr ⟨rfl, (List.forall_mem_cons.mpr ⟨rfl, (List.forall_mem_cons.mpr ⟨rfl, (fun _ h => nomatch h)⟩)⟩)⟩)⟩)⟩)⟩) ?_
  refine z_loc (L' := [(0, .ref (G.1 + 54)), (1, .int (Int32.ofInt (l1))), (3, .int (Int32.ofInt (l3))), (6, .int (Int32.ofInt (l6))), (7, .int (Int32.ofInt (l7))), (8, .int (Int32.ofInt (0)))]) (List.forall_mem_cons.mpr ⟨rfl, (List.forall_mem_cons.mpr ⟨rfl, (List.forall_mem_cons.mpr ⟨rfl, (List.forall_mem_cons.mpr ⟨rfl, (List.forall_mem_cons.mpr ⟨rfl, (List.forall_mem_cons.mpr ⟨rfl, (fun _ h => nomatch h)⟩)⟩)⟩)⟩)⟩)⟩) ?_
  exact bX11_begin_143 hd hJ hT hW hP  hw
def wX11_begin_106 (l1 l3 l5 l6 l7 : Int) (S : St) (K : Int → St → Prop) : Prop := (rng (l5) ∧ ((¬ l5 = 2 → wX11_begin_140 (l1) (l3) (l6) (l7) S K) ∧ ((¬ (¬ l5 = 2)) → (wX11_putAttribute (105) (100) (61) (34) S (fun r3 S4 => ((0 : Int) ≤ l1 ∧ l1 < (30 : Int) ∧ (iv 0 900 (S4.2 76 (l1)) → (wX11_putNumber (S4.2 76 (l1)) S4 (fun r7 S8 => (wX11_put (34) S8 (fun r9 S10 => wX11_begin_140 (l1) (l3) (l6) (l7) S10 K)))))))))))
set_option maxRecDepth 100000 in
set_option maxHeartbeats 4000000 in
theorem bX11_begin_106 {G : xG} {sh : Nat → Option Sh} {J : St → List va_E → Prop} {d : Nat} {Post : xP} {l1 l3 l5 l6 l7 : Int} {S : St} {cs : List va_E} {K : Int → St → Prop} (hd : 4 ≤ d) (hJ : Stb sh J) (hT : isM sh) (hW : Wd G sh mT J S cs) (hP : ∀ (v : Int) (S : St) (cs : List va_E), K v S → Wd G sh mT J S cs → Post (none) cs)  (hw : wX11_begin_106 l1 l3 l5 l6 l7 S K ) : Z (RX11, cX11_begin, 9, none, false) G d Post 106 [(0, .ref (G.1 + 54)), (1, .int (Int32.ofInt (l1))), (3, .int (Int32.ofInt (l3))), (5, .int (Int32.ofInt (l5))), (6, .int (Int32.ofInt (l6))), (7, .int (Int32.ofInt (l7)))] [] cs := by
  unfold wX11_begin_106 at hw
  refine z_iload dX11_begin_106 rfl ?_
  refine z_iconst (v := Int32.ofInt 2) dX11_begin_108 rfl ?_
  obtain ⟨q2, hw⟩ := hw
  refine i_icmp_ne (tgt := 140) dX11_begin_109 (by decide) q2 ⟨by decide, by decide⟩ (fun h1 => ?_) (fun h1 => ?_)
  · have hw := hw.1 h1
    refine z_loc (L' := [(0, .ref (G.1 + 54)), (1, .int (Int32.ofInt (l1))), (3, .int (Int32.ofInt (l3))), (6, .int (Int32.ofInt (l6))), (7, .int (Int32.ofInt (l7)))]) (List.forall_mem_cons.mpr ⟨rfl, (List.forall_mem_cons.mpr ⟨rfl, (List.forall_mem_cons.mpr ⟨rfl, (List.forall_mem_cons.mpr ⟨rfl, (List.forall_mem_cons.mpr ⟨rfl, (fun _ h => nomatch h)⟩)⟩)⟩)⟩)⟩) ?_
    exact bX11_begin_140 hd hJ hT hW hP  hw
  · have hw := hw.2 h1
    refine z_aload_n dX11_begin_112 rfl rfl ?_
    refine z_bipush (v := Int32.ofInt 105) dX11_begin_113 (by decide) ?_
    refine z_bipush (v := Int32.ofInt 100) dX11_begin_115 (by decide) ?_
    refine z_bipush (v := Int32.ofInt 61) dX11_begin_117 (by decide) ?_
    refine z_bipush (v := Int32.ofInt 34) dX11_begin_119 (by decide) ?_
    have hX := lX11_putAttribute 2 (Nat.le_refl _) hJ hT hW ⟨by decide, by decide⟩ ⟨by decide, by decide⟩ ⟨by decide, by decide⟩ ⟨by decide, by decide⟩ hw
    refine z_callV (As := [_, _, _, _]) eX11_putAttribute sX11_putAttribute lX11_300 rfl dX11_begin_121 (hW.1 _ _ hT.1) hX (Nat.le_trans (by decide) hd) rfl (Nat.le_of_ble_eq_true rfl) (fun r cs hp => ?_)
    obtain ⟨r3, S4, rfl, hw, hW⟩ := hp
    refine z_st (st' := []) rfl ?_
    refine z_aload_n dX11_begin_124 rfl rfl ?_
    refine z_aload_n dX11_begin_125 rfl rfl ?_
    refine g_getR hW hT.1 mr31 kX11 fX11_78 dX11_begin_126 ?_
    refine z_iload_n dX11_begin_129 rfl rfl ?_
    obtain ⟨q5a, q5b, hw⟩ := hw
    have q6 : iv 0 900 (S4.2 76 (l1)) := mA76 hW _
    have hw := hw q6
    refine g_iald hW (ma76 hT) q5a q5b (by decide) dX11_begin_130 ?_
    have hX := lX11_putNumber 1 (Nat.le_refl _) hJ hT hW (rngq q6 (by decide) (by decide)) hw
    refine z_callV (As := [_]) eX11_putNumber sX11_putNumber lX11_271 rfl dX11_begin_131 (hW.1 _ _ hT.1) hX (Nat.le_trans (by decide) hd) rfl (Nat.le_of_ble_eq_true rfl) (fun r cs hp => ?_)
    obtain ⟨r7, S8, rfl, hw, hW⟩ := hp
    refine z_st (st' := []) rfl ?_
    refine z_aload_n dX11_begin_134 rfl rfl ?_
    refine z_bipush (v := Int32.ofInt 34) dX11_begin_135 (by decide) ?_
    have hX := lX11_put 0 (Nat.le_refl _) hJ hT hW ⟨by decide, by decide⟩ hw
    refine z_callV (As := [_]) eX11_put sX11_put lX11_260 rfl dX11_begin_137 (hW.1 _ _ hT.1) hX (Nat.le_trans (by decide) hd) rfl (Nat.le_of_ble_eq_true rfl) (fun r cs hp => ?_)
    obtain ⟨r9, S10, rfl, hw, hW⟩ := hp
    refine z_st (st' := []) rfl ?_
    refine z_loc (L' := [(0, .ref (G.1 + 54)), (1, .int (Int32.ofInt (l1))), (3, .int (Int32.ofInt (l3))), (6, .int (Int32.ofInt (l6))), (7, .int (Int32.ofInt (l7)))]) (List.forall_mem_cons.mpr ⟨rfl, (List.forall_mem_cons.mpr ⟨rfl, (List.forall_mem_cons.mpr ⟨rfl, (List.forall_mem_cons.mpr ⟨rfl, (List.forall_mem_cons.mpr ⟨rfl, (fun _ h => nomatch h)⟩)⟩)⟩)⟩)⟩) ?_
    exact bX11_begin_140 hd hJ hT hW hP  hw
def wX11_begin_55 (l1 l3 l4 l5 l6 l7 : Int) (S : St) (K : Int → St → Prop) : Prop := (wX11_put (60) S (fun r1 S2 => (rng (l3) ∧ (wX11_putName (l3) S2 (fun r4 S5 => (rng (l4) ∧ ((l4 = 0 → wX11_begin_106 (l1) (l3) (l5) (l6) (l7) S5 K) ∧ ((¬ (l4 = 0)) → (wX11_putAttribute (99) (108) (97) (115) S5 (fun r8 S9 => (wX11_putWord (115) (61) (34) (0) S9 (fun r10 S11 => (rng (l6) ∧ (wX11_putName (l6) S11 (fun r13 S14 => (wX11_put (34) S14 (fun r15 S16 => wX11_begin_106 (l1) (l3) (l5) (l6) (l7) S16 K)))))))))))))))))
set_option maxRecDepth 100000 in
set_option maxHeartbeats 4000000 in
theorem bX11_begin_55 {G : xG} {sh : Nat → Option Sh} {J : St → List va_E → Prop} {d : Nat} {Post : xP} {l1 l3 l4 l5 l6 l7 : Int} {S : St} {cs : List va_E} {K : Int → St → Prop} (hd : 4 ≤ d) (hJ : Stb sh J) (hT : isM sh) (hW : Wd G sh mT J S cs) (hP : ∀ (v : Int) (S : St) (cs : List va_E), K v S → Wd G sh mT J S cs → Post (none) cs)  (hw : wX11_begin_55 l1 l3 l4 l5 l6 l7 S K ) : Z (RX11, cX11_begin, 9, none, false) G d Post 55 [(0, .ref (G.1 + 54)), (1, .int (Int32.ofInt (l1))), (3, .int (Int32.ofInt (l3))), (4, .int (Int32.ofInt (l4))), (5, .int (Int32.ofInt (l5))), (6, .int (Int32.ofInt (l6))), (7, .int (Int32.ofInt (l7)))] [] cs := by
  unfold wX11_begin_55 at hw
  refine z_aload_n dX11_begin_55 rfl rfl ?_
  refine z_bipush (v := Int32.ofInt 60) dX11_begin_56 (by decide) ?_
  have hX := lX11_put 0 (Nat.le_refl _) hJ hT hW ⟨by decide, by decide⟩ hw
  refine z_callV (As := [_]) eX11_put sX11_put lX11_260 rfl dX11_begin_58 (hW.1 _ _ hT.1) hX (Nat.le_trans (by decide) hd) rfl (Nat.le_of_ble_eq_true rfl) (fun r cs hp => ?_)
  obtain ⟨r1, S2, rfl, hw, hW⟩ := hp
  refine z_st (st' := []) rfl ?_
  refine z_aload_n dX11_begin_61 rfl rfl ?_
  refine z_iload_n dX11_begin_62 rfl rfl ?_
  obtain ⟨q3, hw⟩ := hw
  have hX := lX11_putName 1 (Nat.le_refl _) hJ hT hW q3 hw
  refine z_callV (As := [_]) eX11_putName sX11_putName lX11_284 rfl dX11_begin_63 (hW.1 _ _ hT.1) hX (Nat.le_trans (by decide) hd) rfl (Nat.le_of_ble_eq_true rfl) (fun r cs hp => ?_)
  obtain ⟨r4, S5, rfl, hw, hW⟩ := hp
  refine z_st (st' := []) rfl ?_
  refine z_iload dX11_begin_66 rfl ?_
  obtain ⟨q7, hw⟩ := hw
  refine i_if_eq (tgt := 106) dX11_begin_68 (by decide) q7 (fun h6 => ?_) (fun h6 => ?_)
  · have hw := hw.1 h6
    refine z_loc (L' := [(0, .ref (G.1 + 54)), (1, .int (Int32.ofInt (l1))), (3, .int (Int32.ofInt (l3))), (5, .int (Int32.ofInt (l5))), (6, .int (Int32.ofInt (l6))), (7, .int (Int32.ofInt (l7)))]) (List.forall_mem_cons.mpr ⟨rfl, (List.forall_mem_cons.mpr ⟨rfl, (List.forall_mem_cons.mpr ⟨rfl, (List.forall_mem_cons.mpr ⟨rfl, (List.forall_mem_cons.mpr ⟨rfl, (List.forall_mem_cons.mpr ⟨rfl, (fun _ h => nomatch h)⟩)⟩)⟩)⟩)⟩)⟩) ?_
    exact bX11_begin_106 hd hJ hT hW hP  hw
  · have hw := hw.2 h6
    refine z_aload_n dX11_begin_71 rfl rfl ?_
    refine z_bipush (v := Int32.ofInt 99) dX11_begin_72 (by decide) ?_
    refine z_bipush (v := Int32.ofInt 108) dX11_begin_74 (by decide) ?_
    refine z_bipush (v := Int32.ofInt 97) dX11_begin_76 (by decide) ?_
    refine z_bipush (v := Int32.ofInt 115) dX11_begin_78 (by decide) ?_
    have hX := lX11_putAttribute 2 (Nat.le_refl _) hJ hT hW ⟨by decide, by decide⟩ ⟨by decide, by decide⟩ ⟨by decide, by decide⟩ ⟨by decide, by decide⟩ hw
    refine z_callV (As := [_, _, _, _]) eX11_putAttribute sX11_putAttribute lX11_300 rfl dX11_begin_80 (hW.1 _ _ hT.1) hX (Nat.le_trans (by decide) hd) rfl (Nat.le_of_ble_eq_true rfl) (fun r cs hp => ?_)
    obtain ⟨r8, S9, rfl, hw, hW⟩ := hp
    refine z_st (st' := []) rfl ?_
    refine z_aload_n dX11_begin_83 rfl rfl ?_
    refine z_bipush (v := Int32.ofInt 115) dX11_begin_84 (by decide) ?_
    refine z_bipush (v := Int32.ofInt 61) dX11_begin_86 (by decide) ?_
    refine z_bipush (v := Int32.ofInt 34) dX11_begin_88 (by decide) ?_
    refine z_iconst (v := Int32.ofInt 0) dX11_begin_90 rfl ?_
    have hX := lX11_putWord 1 (Nat.le_refl _) hJ hT hW ⟨by decide, by decide⟩ ⟨by decide, by decide⟩ ⟨by decide, by decide⟩ ⟨by decide, by decide⟩ hw
    refine z_callV (As := [_, _, _, _]) eX11_putWord sX11_putWord lX11_267 rfl dX11_begin_91 (hW.1 _ _ hT.1) hX (Nat.le_trans (by decide) hd) rfl (Nat.le_of_ble_eq_true rfl) (fun r cs hp => ?_)
    obtain ⟨r10, S11, rfl, hw, hW⟩ := hp
    refine z_st (st' := []) rfl ?_
    refine z_aload_n dX11_begin_94 rfl rfl ?_
    refine z_iload dX11_begin_95 rfl ?_
    obtain ⟨q12, hw⟩ := hw
    have hX := lX11_putName 1 (Nat.le_refl _) hJ hT hW q12 hw
    refine z_callV (As := [_]) eX11_putName sX11_putName lX11_284 rfl dX11_begin_97 (hW.1 _ _ hT.1) hX (Nat.le_trans (by decide) hd) rfl (Nat.le_of_ble_eq_true rfl) (fun r cs hp => ?_)
    obtain ⟨r13, S14, rfl, hw, hW⟩ := hp
    refine z_st (st' := []) rfl ?_
    refine z_aload_n dX11_begin_100 rfl rfl ?_
    refine z_bipush (v := Int32.ofInt 34) dX11_begin_101 (by decide) ?_
    have hX := lX11_put 0 (Nat.le_refl _) hJ hT hW ⟨by decide, by decide⟩ hw
    refine z_callV (As := [_]) eX11_put sX11_put lX11_260 rfl dX11_begin_103 (hW.1 _ _ hT.1) hX (Nat.le_trans (by decide) hd) rfl (Nat.le_of_ble_eq_true rfl) (fun r cs hp => ?_)
    obtain ⟨r15, S16, rfl, hw, hW⟩ := hp
    refine z_st (st' := []) rfl ?_
    refine z_loc (L' := [(0, .ref (G.1 + 54)), (1, .int (Int32.ofInt (l1))), (3, .int (Int32.ofInt (l3))), (5, .int (Int32.ofInt (l5))), (6, .int (Int32.ofInt (l6))), (7, .int (Int32.ofInt (l7)))]) (List.forall_mem_cons.mpr ⟨rfl, (List.forall_mem_cons.mpr ⟨rfl, (List.forall_mem_cons.mpr ⟨rfl, (List.forall_mem_cons.mpr ⟨rfl, (List.forall_mem_cons.mpr ⟨rfl, (List.forall_mem_cons.mpr ⟨rfl, (fun _ h => nomatch h)⟩)⟩)⟩)⟩)⟩)⟩) ?_
    exact bX11_begin_106 hd hJ hT hW hP  hw
def wX11_begin (a1 a2 a3 a4 a5 : Int) (S : St) (K : Int → St → Prop) : Prop := rng a1 → rng a2 → rng a3 → rng a4 → rng a5 → ((0 : Int) ≤ a1 ∧ a1 < (90 : Int) ∧ (iv 0 5 (S.2 68 (a1)) → (∀ x3 : Int, x3 = S.2 68 (a1) → (wX11_element (a2) (a3) S (fun r6 S7 => (iv 0 900 (S7.1 54 30) → (iv 0 900 ((S7.1 54 30 + 1)) ∧ (∀ S9, S9 = pI S7 54 30 ((S7.1 54 30 + 1)) → ((0 : Int) ≤ a1 ∧ a1 < (30 : Int) ∧ (iv (-2) 899 (S9.2 75 (a1)) → ((¬ S9.2 75 (a1) = (-2) → wX11_begin_55 (a1) (a3) (a4) (a5) (x3) (r6) S9 K) ∧ ((¬ (¬ S9.2 75 (a1) = (-2))) → ((0 : Int) ≤ a1 ∧ a1 < (30 : Int) ∧ (iv (-2) 899 (r6) ∧ (∀ S15, S15 = pA S9 75 (a1) (r6) → (iv 0 900 (S15.1 54 30) → ((0 : Int) ≤ a1 ∧ a1 < (30 : Int) ∧ (∀ S19, S19 = pA S15 76 (a1) (S15.1 54 30) → wX11_begin_55 (a1) (a3) (a4) (a5) (x3) (r6) S19 K))))))))))))))))))
set_option maxRecDepth 100000 in
set_option maxHeartbeats 4000000 in
theorem lX11_begin {G : xG} {sh : Nat → Option Sh} {J : St → List va_E → Prop} {a1 a2 a3 a4 a5 : Int} {S : St} {cs : List va_E} {K : Int → St → Prop} (d : Nat) (hd : 4 ≤ d) (hJ : Stb sh J) (hT : isM sh) (hW : Wd G sh mT J S cs) (g1 : rng a1) (g2 : rng a2) (g3 : rng a3) (g4 : rng a4) (g5 : rng a5) (hw : wX11_begin a1 a2 a3 a4 a5 S K) : X G yX11_begin cX11_begin 9 none d [.ref (G.1 + 54), .int (Int32.ofInt a1), .int (Int32.ofInt a2), .int (Int32.ofInt a3), .int (Int32.ofInt a4), .int (Int32.ofInt a5)] cs (qV G sh mT J K) := by
  refine X.of false (by decide +kernel) (by decide) (Nat.le_of_ble_eq_true rfl) ?_
  show Z (RX11, cX11_begin, 9, none, false) G d _ 0 [(0, .ref (G.1 + 54)), (1, .int (Int32.ofInt a1)), (2, .int (Int32.ofInt a2)), (3, .int (Int32.ofInt a3)), (4, .int (Int32.ofInt a4)), (5, .int (Int32.ofInt a5))] [] cs
  have hP : ∀ (v : Int) (S : St) (cs : List va_E), K v S → Wd G sh mT J S cs → qV G sh mT J K (none) cs := fun v S cs a b => ⟨v, S, rfl, a, b⟩
  unfold wX11_begin at hw
  have hw := hw g1 g2 g3 g4 g5
  refine z_aload_n dX11_begin_0 rfl rfl ?_
  refine g_getR hW hT.1 mr15 kX11 fX11_50 dX11_begin_1 ?_
  refine z_iload_n dX11_begin_4 rfl rfl ?_
  obtain ⟨q1a, q1b, hw⟩ := hw
  have q2 : iv 0 5 (S.2 68 (a1)) := mA68 hW _
  have hw := hw q2
  refine g_iald hW (ma68 hT) q1a q1b (by decide) dX11_begin_5 ?_
  obtain ⟨x3, hx3⟩ : ∃ x : Int, x = S.2 68 (a1) := ⟨_, rfl⟩
  have hw := hw x3 hx3
  refine z_st (st' := [.int (Int32.ofInt x3)]) (by rw [hx3]) ?_
  have q4 : rng x3 := by rw [hx3]; exact (rngq q2 (by decide) (by decide))
  have q5 : iv 0 5 x3 := by rw [hx3]; exact q2
  refine z_istore dX11_begin_6 (by decide) ?_
  refine z_loc (L' := [(0, .ref (G.1 + 54)), (1, .int (Int32.ofInt (a1))), (2, .int (Int32.ofInt (a2))), (3, .int (Int32.ofInt (a3))), (4, .int (Int32.ofInt (a4))), (5, .int (Int32.ofInt (a5))), (6, .int (Int32.ofInt (x3)))]) (List.forall_mem_cons.mpr ⟨rfl, (List.forall_mem_cons.mpr ⟨rfl, (List.forall_mem_cons.mpr ⟨rfl, (List.forall_mem_cons.mpr ⟨rfl, (List.forall_mem_cons.mpr ⟨rfl, (List.forall_mem_cons.mpr ⟨rfl, (List.forall_mem_cons.mpr ⟨rfl, (fun _ h => nomatch h)⟩)⟩)⟩)⟩)⟩)⟩)⟩) ?_
  refine z_aload_n dX11_begin_8 rfl rfl ?_
  refine z_iload_n dX11_begin_9 rfl rfl ?_
  refine z_iload_n dX11_begin_10 rfl rfl ?_
  have hX := lX11_element 1 (Nat.le_refl _) hJ hT hW g2 g3 hw
  refine z_callV (As := [_, _]) eX11_element sX11_element lX11_297 rfl dX11_begin_11 (hW.1 _ _ hT.1) hX (Nat.le_trans (by decide) hd) rfl (Nat.le_of_ble_eq_true rfl) (fun r cs hp => ?_)
  obtain ⟨r6, S7, rfl, hw, hW⟩ := hp
  refine z_st (st' := [.int (Int32.ofInt (r6))]) rfl ?_
  refine z_istore dX11_begin_14 (by decide) ?_
  refine z_loc (L' := [(0, .ref (G.1 + 54)), (1, .int (Int32.ofInt (a1))), (2, .int (Int32.ofInt (a2))), (3, .int (Int32.ofInt (a3))), (4, .int (Int32.ofInt (a4))), (5, .int (Int32.ofInt (a5))), (6, .int (Int32.ofInt (x3))), (7, .int (Int32.ofInt (r6)))]) (List.forall_mem_cons.mpr ⟨rfl, (List.forall_mem_cons.mpr ⟨rfl, (List.forall_mem_cons.mpr ⟨rfl, (List.forall_mem_cons.mpr ⟨rfl, (List.forall_mem_cons.mpr ⟨rfl, (List.forall_mem_cons.mpr ⟨rfl, (List.forall_mem_cons.mpr ⟨rfl, (List.forall_mem_cons.mpr ⟨rfl, (fun _ h => nomatch h)⟩)⟩)⟩)⟩)⟩)⟩)⟩)⟩) ?_
  refine z_aload_n dX11_begin_16 rfl rfl ?_
  refine z_dup dX11_begin_17 rfl ?_
  have q8 : iv 0 900 (S7.1 54 30) := mI30 hW
  have hw := hw q8
  refine g_getI hW hT.1 mr30 kX11 fX11_306 dX11_begin_18 ?_
  refine z_iconst (v := Int32.ofInt 1) dX11_begin_21 rfl ?_
  refine i_iadd dX11_begin_22 ?_
  obtain ⟨q10, hw⟩ := hw
  refine g_putI hJ hW hT.1 mr30 kX11 fX11_306 dX11_begin_23 rfl rfl rfl q10 (fun cs hW => ?_)
  obtain ⟨S9, hS9⟩ : ∃ x, x = pI S7 54 30 ((S7.1 54 30 + 1)) := ⟨_, rfl⟩
  rw [← hS9] at hW
  have hw := hw S9 hS9
  refine z_aload_n dX11_begin_26 rfl rfl ?_
  refine g_getR hW hT.1 mr29 kX11 fX11_75 dX11_begin_27 ?_
  refine z_iload_n dX11_begin_30 rfl rfl ?_
  obtain ⟨q11a, q11b, hw⟩ := hw
  have q12 : iv (-2) 899 (S9.2 75 (a1)) := mA75 hW _
  have hw := hw q12
  refine g_iald hW (ma75 hT) q11a q11b (by decide) dX11_begin_31 ?_
  refine z_bipush (v := Int32.ofInt (-2)) dX11_begin_32 (by decide) ?_
  refine i_icmp_ne (tgt := 55) dX11_begin_34 (by decide) (rngq q12 (by decide) (by decide)) ⟨by decide, by decide⟩ (fun h13 => ?_) (fun h13 => ?_)
  · have hw := hw.1 h13
    refine z_loc (L' := [(0, .ref (G.1 + 54)), (1, .int (Int32.ofInt (a1))), (3, .int (Int32.ofInt (a3))), (4, .int (Int32.ofInt (a4))), (5, .int (Int32.ofInt (a5))), (6, .int (Int32.ofInt (x3))), (7, .int (Int32.ofInt (r6)))]) (List.forall_mem_cons.mpr ⟨rfl, (List.forall_mem_cons.mpr ⟨rfl, (List.forall_mem_cons.mpr ⟨rfl, (List.forall_mem_cons.mpr ⟨rfl, (List.forall_mem_cons.mpr ⟨rfl, (List.forall_mem_cons.mpr ⟨rfl, (List.forall_mem_cons.mpr ⟨rfl, (fun _ h => nomatch h)⟩)⟩)⟩)⟩)⟩)⟩)⟩) ?_
    exact bX11_begin_55 hd hJ hT hW hP  hw
  · have hw := hw.2 h13
    refine z_aload_n dX11_begin_37 rfl rfl ?_
    refine g_getR hW hT.1 mr29 kX11 fX11_75 dX11_begin_38 ?_
    refine z_iload_n dX11_begin_41 rfl rfl ?_
    refine z_iload dX11_begin_42 rfl ?_
    obtain ⟨q14a, q14b, hw⟩ := hw
    obtain ⟨q16, hw⟩ := hw
    refine g_iast hJ hW (ma75 hT) q14a q14b (by decide) q16 dX11_begin_44 (fun cs hW => ?_)
    obtain ⟨S15, hS15⟩ : ∃ x, x = pA S9 75 (a1) (r6) := ⟨_, rfl⟩
    rw [← hS15] at hW
    have hw := hw S15 hS15
    refine z_aload_n dX11_begin_45 rfl rfl ?_
    refine g_getR hW hT.1 mr31 kX11 fX11_78 dX11_begin_46 ?_
    refine z_iload_n dX11_begin_49 rfl rfl ?_
    refine z_aload_n dX11_begin_50 rfl rfl ?_
    have q17 : iv 0 900 (S15.1 54 30) := mI30 hW
    have hw := hw q17
    refine g_getI hW hT.1 mr30 kX11 fX11_306 dX11_begin_51 ?_
    obtain ⟨q18a, q18b, hw⟩ := hw
    refine g_iast hJ hW (ma76 hT) q18a q18b (by decide) q17 dX11_begin_54 (fun cs hW => ?_)
    obtain ⟨S19, hS19⟩ : ∃ x, x = pA S15 76 (a1) (S15.1 54 30) := ⟨_, rfl⟩
    rw [← hS19] at hW
    have hw := hw S19 hS19
    refine z_loc (L' := [(0, .ref (G.1 + 54)), (1, .int (Int32.ofInt (a1))), (3, .int (Int32.ofInt (a3))), (4, .int (Int32.ofInt (a4))), (5, .int (Int32.ofInt (a5))), (6, .int (Int32.ofInt (x3))), (7, .int (Int32.ofInt (r6)))]) (List.forall_mem_cons.mpr ⟨rfl, (List.forall_mem_cons.mpr ⟨rfl, (List.forall_mem_cons.mpr ⟨rfl, (List.forall_mem_cons.mpr ⟨rfl, (List.forall_mem_cons.mpr ⟨rfl, (List.forall_mem_cons.mpr ⟨rfl, (List.forall_mem_cons.mpr ⟨rfl, (fun _ h => nomatch h)⟩)⟩)⟩)⟩)⟩)⟩)⟩) ?_
    exact bX11_begin_55 hd hJ hT hW hP  hw

def wX11_isBlank (a1 : Int) (S : St) (K : Int → St → Prop) : Prop := rng a1 → ((a1 = 32 → K (1) S) ∧ ((¬ (a1 = 32)) → ((a1 = 9 → K (1) S) ∧ ((¬ (a1 = 9)) → ((a1 = 10 → K (1) S) ∧ ((¬ (a1 = 10)) → ((¬ a1 = 13 → K (0) S) ∧ ((¬ (¬ a1 = 13)) → K (1) S))))))))
set_option maxRecDepth 100000 in
set_option maxHeartbeats 4000000 in
theorem lX11_isBlank {G : xG} {sh : Nat → Option Sh} {J : St → List va_E → Prop} {a1 : Int} {S : St} {cs : List va_E} {K : Int → St → Prop} (d : Nat) (hd : 0 ≤ d) (hJ : Stb sh J) (hT : isM sh) (hW : Wd G sh mT J S cs) (g1 : rng a1) (hw : wX11_isBlank a1 S K) : X G yX11_isBlank cX11_isBlank 1 (some .boolean) d [.int (Int32.ofInt a1)] cs (qI G sh mT J K) := by
  refine X.of false (by decide +kernel) (by decide) (Nat.le_of_ble_eq_true rfl) ?_
  show Z (RX11, cX11_isBlank, 1, some .boolean, false) G d _ 0 [(0, .int (Int32.ofInt a1))] [] cs
  have hP : ∀ (v : Int) (S : St) (cs : List va_E), K v S → Wd G sh mT J S cs → qI G sh mT J K (some (.int (Int32.ofInt v))) cs := fun v S cs a b => ⟨v, S, rfl, a, b⟩
  unfold wX11_isBlank at hw
  have hw := hw g1
  refine z_iload_n dX11_isBlank_0 rfl rfl ?_
  refine z_bipush (v := Int32.ofInt 32) dX11_isBlank_1 (by decide) ?_
  refine i_icmp_eq (tgt := 24) dX11_isBlank_3 (by decide) g1 ⟨by decide, by decide⟩ (fun h1 => ?_) (fun h1 => ?_)
  · have hw := hw.1 h1
    refine z_iconst (v := Int32.ofInt 1) dX11_isBlank_24 rfl ?_
    refine z_goto (tgt := 29) dX11_isBlank_25 (by decide) ?_
    exact z_ireturn dX11_isBlank_29 rfl (nar01 (by decide)) (hP _ _ _ hw hW)
  · have hw := hw.2 h1
    refine z_iload_n dX11_isBlank_6 rfl rfl ?_
    refine z_bipush (v := Int32.ofInt 9) dX11_isBlank_7 (by decide) ?_
    refine i_icmp_eq (tgt := 24) dX11_isBlank_9 (by decide) g1 ⟨by decide, by decide⟩ (fun h2 => ?_) (fun h2 => ?_)
    · have hw := hw.1 h2
      refine z_iconst (v := Int32.ofInt 1) dX11_isBlank_24 rfl ?_
      refine z_goto (tgt := 29) dX11_isBlank_25 (by decide) ?_
      exact z_ireturn dX11_isBlank_29 rfl (nar01 (by decide)) (hP _ _ _ hw hW)
    · have hw := hw.2 h2
      refine z_iload_n dX11_isBlank_12 rfl rfl ?_
      refine z_bipush (v := Int32.ofInt 10) dX11_isBlank_13 (by decide) ?_
      refine i_icmp_eq (tgt := 24) dX11_isBlank_15 (by decide) g1 ⟨by decide, by decide⟩ (fun h3 => ?_) (fun h3 => ?_)
      · have hw := hw.1 h3
        refine z_iconst (v := Int32.ofInt 1) dX11_isBlank_24 rfl ?_
        refine z_goto (tgt := 29) dX11_isBlank_25 (by decide) ?_
        exact z_ireturn dX11_isBlank_29 rfl (nar01 (by decide)) (hP _ _ _ hw hW)
      · have hw := hw.2 h3
        refine z_iload_n dX11_isBlank_18 rfl rfl ?_
        refine z_bipush (v := Int32.ofInt 13) dX11_isBlank_19 (by decide) ?_
        refine i_icmp_ne (tgt := 28) dX11_isBlank_21 (by decide) g1 ⟨by decide, by decide⟩ (fun h4 => ?_) (fun h4 => ?_)
        · have hw := hw.1 h4
          refine z_iconst (v := Int32.ofInt 0) dX11_isBlank_28 rfl ?_
          exact z_ireturn dX11_isBlank_29 rfl (nar01 (by decide)) (hP _ _ _ hw hW)
        · have hw := hw.2 h4
          refine z_iconst (v := Int32.ofInt 1) dX11_isBlank_24 rfl ?_
          refine z_goto (tgt := 29) dX11_isBlank_25 (by decide) ?_
          exact z_ireturn dX11_isBlank_29 rfl (nar01 (by decide)) (hP _ _ _ hw hW)

