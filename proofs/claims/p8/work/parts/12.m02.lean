def wX11_put (a1 : Int) (S : St) (K : Int → St → Prop) : Prop := rng a1 → (iv 0 3001 (S.1 54 39) → ((3000 < S.1 54 39 → K 0 S) ∧ ((¬ (3000 < S.1 54 39)) → ((0 : Int) ≤ S.1 54 39 ∧ S.1 54 39 < (3001 : Int) ∧ (iv (-2147483648) 2147483647 (a1) ∧ (∀ S4, S4 = pA S 83 (S.1 54 39) (a1) → (iv 0 3001 (S4.1 54 39) → (iv 0 3001 ((S4.1 54 39 + 1)) ∧ (∀ S7, S7 = pI S4 54 39 ((S4.1 54 39 + 1)) → K 0 S7)))))))))
set_option maxRecDepth 100000 in
set_option maxHeartbeats 4000000 in
theorem lX11_put {G : xG} {sh : Nat → Option Sh} {J : St → List va_E → Prop} {a1 : Int} {S : St} {cs : List va_E} {K : Int → St → Prop} (d : Nat) (hd : 0 ≤ d) (hJ : Stb sh J) (hT : isM sh) (hW : Wd G sh mT J S cs) (g1 : rng a1) (hw : wX11_put a1 S K) : X G yX11_put cX11_put 2 none d [.ref (G.1 + 54), .int (Int32.ofInt a1)] cs (qV G sh mT J K) := by
  refine X.of false (by decide +kernel) (by decide) (Nat.le_of_ble_eq_true rfl) ?_
  show Z (RX11, cX11_put, 2, none, false) G d _ 0 [(0, .ref (G.1 + 54)), (1, .int (Int32.ofInt a1))] [] cs
  have hP : ∀ (v : Int) (S : St) (cs : List va_E), K v S → Wd G sh mT J S cs → qV G sh mT J K (none) cs := fun v S cs a b => ⟨v, S, rfl, a, b⟩
  unfold wX11_put at hw
  have hw := hw g1
  refine z_aload_n dX11_put_0 rfl rfl ?_
  have q1 : iv 0 3001 (S.1 54 39) := mI39 hW
  have hw := hw q1
  refine g_getI hW hT.1 mr39 kX11 fX11_257 dX11_put_1 ?_
  refine z_sipush (v := Int32.ofInt 3000) dX11_put_4 (by decide) ?_
  refine i_icmp_gt (tgt := 30) dX11_put_7 (by decide) (rngq q1 (by decide) (by decide)) ⟨by decide, by decide⟩ (fun h2 => ?_) (fun h2 => ?_)
  · have hw := hw.1 h2
    exact z_return dX11_put_30 rfl (hP 0 _ _ hw hW)
  · have hw := hw.2 h2
    refine z_aload_n dX11_put_10 rfl rfl ?_
    refine g_getR hW hT.1 mr40 kX11 fX11_99 dX11_put_11 ?_
    refine z_aload_n dX11_put_14 rfl rfl ?_
    refine g_getI hW hT.1 mr39 kX11 fX11_257 dX11_put_15 ?_
    refine z_iload_n dX11_put_18 rfl rfl ?_
    obtain ⟨q3a, q3b, hw⟩ := hw
    obtain ⟨q5, hw⟩ := hw
    refine g_iast hJ hW (ma83 hT) q3a q3b (by decide) q5 dX11_put_19 (fun cs hW => ?_)
    obtain ⟨S4, hS4⟩ : ∃ x, x = pA S 83 (S.1 54 39) (a1) := ⟨_, rfl⟩
    rw [← hS4] at hW
    have hw := hw S4 hS4
    refine z_aload_n dX11_put_20 rfl rfl ?_
    refine z_dup dX11_put_21 rfl ?_
    have q6 : iv 0 3001 (S4.1 54 39) := mI39 hW
    have hw := hw q6
    refine g_getI hW hT.1 mr39 kX11 fX11_257 dX11_put_22 ?_
    refine z_iconst (v := Int32.ofInt 1) dX11_put_25 rfl ?_
    refine i_iadd dX11_put_26 ?_
    obtain ⟨q8, hw⟩ := hw
    refine g_putI hJ hW hT.1 mr39 kX11 fX11_257 dX11_put_27 rfl rfl rfl q8 (fun cs hW => ?_)
    obtain ⟨S7, hS7⟩ : ∃ x, x = pI S4 54 39 ((S4.1 54 39 + 1)) := ⟨_, rfl⟩
    rw [← hS7] at hW
    have hw := hw S7 hS7
    exact z_return dX11_put_30 rfl (hP 0 _ _ hw hW)

def wX11_putWord_19 (l4 : Int) (S : St) (K : Int → St → Prop) : Prop := (rng (l4) ∧ ((l4 ≤ 0 → K 0 S) ∧ ((¬ (l4 ≤ 0)) → (wX11_put (l4) S (fun r3 S4 => K 0 S4)))))
set_option maxRecDepth 100000 in
set_option maxHeartbeats 4000000 in
theorem bX11_putWord_19 {G : xG} {sh : Nat → Option Sh} {J : St → List va_E → Prop} {d : Nat} {Post : xP} {l4 : Int} {S : St} {cs : List va_E} {K : Int → St → Prop} (hd : 1 ≤ d) (hJ : Stb sh J) (hT : isM sh) (hW : Wd G sh mT J S cs) (hP : ∀ (v : Int) (S : St) (cs : List va_E), K v S → Wd G sh mT J S cs → Post (none) cs)  (hw : wX11_putWord_19 l4 S K ) : Z (RX11, cX11_putWord, 5, none, false) G d Post 19 [(0, .ref (G.1 + 54)), (4, .int (Int32.ofInt (l4)))] [] cs := by
  unfold wX11_putWord_19 at hw
  refine z_iload dX11_putWord_19 rfl ?_
  obtain ⟨q2, hw⟩ := hw
  refine i_if_le (tgt := 30) dX11_putWord_21 (by decide) q2 (fun h1 => ?_) (fun h1 => ?_)
  · have hw := hw.1 h1
    exact z_return dX11_putWord_30 rfl (hP 0 _ _ hw hW)
  · have hw := hw.2 h1
    refine z_aload_n dX11_putWord_24 rfl rfl ?_
    refine z_iload dX11_putWord_25 rfl ?_
    have hX := lX11_put 0 (Nat.le_refl _) hJ hT hW q2 hw
    refine z_callV (As := [_]) eX11_put sX11_put lX11_260 rfl dX11_putWord_27 (hW.1 _ _ hT.1) hX (Nat.le_trans (by decide) hd) rfl (Nat.le_of_ble_eq_true rfl) (fun r cs hp => ?_)
    obtain ⟨r3, S4, rfl, hw, hW⟩ := hp
    refine z_st (st' := []) rfl ?_
    exact z_return dX11_putWord_30 rfl (hP 0 _ _ hw hW)
def wX11_putWord (a1 a2 a3 a4 : Int) (S : St) (K : Int → St → Prop) : Prop := rng a1 → rng a2 → rng a3 → rng a4 → (wX11_put (a1) S (fun r1 S2 => (wX11_put (a2) S2 (fun r3 S4 => ((a3 ≤ 0 → wX11_putWord_19 (a4) S4 K) ∧ ((¬ (a3 ≤ 0)) → (wX11_put (a3) S4 (fun r6 S7 => wX11_putWord_19 (a4) S7 K))))))))
set_option maxRecDepth 100000 in
set_option maxHeartbeats 4000000 in
theorem lX11_putWord {G : xG} {sh : Nat → Option Sh} {J : St → List va_E → Prop} {a1 a2 a3 a4 : Int} {S : St} {cs : List va_E} {K : Int → St → Prop} (d : Nat) (hd : 1 ≤ d) (hJ : Stb sh J) (hT : isM sh) (hW : Wd G sh mT J S cs) (g1 : rng a1) (g2 : rng a2) (g3 : rng a3) (g4 : rng a4) (hw : wX11_putWord a1 a2 a3 a4 S K) : X G yX11_putWord cX11_putWord 5 none d [.ref (G.1 + 54), .int (Int32.ofInt a1), .int (Int32.ofInt a2), .int (Int32.ofInt a3), .int (Int32.ofInt a4)] cs (qV G sh mT J K) := by
  refine X.of false (by decide +kernel) (by decide) (Nat.le_of_ble_eq_true rfl) ?_
  show Z (RX11, cX11_putWord, 5, none, false) G d _ 0 [(0, .ref (G.1 + 54)), (1, .int (Int32.ofInt a1)), (2, .int (Int32.ofInt a2)), (3, .int (Int32.ofInt a3)), (4, .int (Int32.ofInt a4))] [] cs
  have hP : ∀ (v : Int) (S : St) (cs : List va_E), K v S → Wd G sh mT J S cs → qV G sh mT J K (none) cs := fun v S cs a b => ⟨v, S, rfl, a, b⟩
  unfold wX11_putWord at hw
  have hw := hw g1 g2 g3 g4
  refine z_aload_n dX11_putWord_0 rfl rfl ?_
  refine z_iload_n dX11_putWord_1 rfl rfl ?_
  have hX := lX11_put 0 (Nat.le_refl _) hJ hT hW g1 hw
  refine z_callV (As := [_]) eX11_put sX11_put lX11_260 rfl dX11_putWord_2 (hW.1 _ _ hT.1) hX (Nat.le_trans (by decide) hd) rfl (Nat.le_of_ble_eq_true rfl) (fun r cs hp => ?_)
  obtain ⟨r1, S2, rfl, hw, hW⟩ := hp
  refine z_st (st' := []) rfl ?_
  refine z_aload_n dX11_putWord_5 rfl rfl ?_
  refine z_iload_n dX11_putWord_6 rfl rfl ?_
  have hX := lX11_put 0 (Nat.le_refl _) hJ hT hW g2 hw
  refine z_callV (As := [_]) eX11_put sX11_put lX11_260 rfl dX11_putWord_7 (hW.1 _ _ hT.1) hX (Nat.le_trans (by decide) hd) rfl (Nat.le_of_ble_eq_true rfl) (fun r cs hp => ?_)
  obtain ⟨r3, S4, rfl, hw, hW⟩ := hp
  refine z_st (st' := []) rfl ?_
  refine z_iload_n dX11_putWord_10 rfl rfl ?_
  refine i_if_le (tgt := 19) dX11_putWord_11 (by decide) g3 (fun h5 => ?_) (fun h5 => ?_)
  · have hw := hw.1 h5
    refine z_loc (L' := [(0, .ref (G.1 + 54)), (4, .int (Int32.ofInt (a4)))]) (List.forall_mem_cons.mpr ⟨rfl, (List.forall_mem_cons.mpr ⟨rfl, (fun _ h => nomatch h)⟩)⟩) ?_
    exact bX11_putWord_19 hd hJ hT hW hP  hw
  · have hw := hw.2 h5
    refine z_aload_n dX11_putWord_14 rfl rfl ?_
    refine z_iload_n dX11_putWord_15 rfl rfl ?_
    have hX := lX11_put 0 (Nat.le_refl _) hJ hT hW g3 hw
    refine z_callV (As := [_]) eX11_put sX11_put lX11_260 rfl dX11_putWord_16 (hW.1 _ _ hT.1) hX (Nat.le_trans (by decide) hd) rfl (Nat.le_of_ble_eq_true rfl) (fun r cs hp => ?_)
    obtain ⟨r6, S7, rfl, hw, hW⟩ := hp
    refine z_st (st' := []) rfl ?_
    refine z_loc (L' := [(0, .ref (G.1 + 54)), (4, .int (Int32.ofInt (a4)))]) (List.forall_mem_cons.mpr ⟨rfl, (List.forall_mem_cons.mpr ⟨rfl, (fun _ h => nomatch h)⟩)⟩) ?_
    exact bX11_putWord_19 hd hJ hT hW hP  hw

def wX11_putAttribute (a1 a2 a3 a4 : Int) (S : St) (K : Int → St → Prop) : Prop := rng a1 → rng a2 → rng a3 → rng a4 → (wX11_put (32) S (fun r1 S2 => (wX11_putWord (a1) (a2) (a3) (a4) S2 (fun r3 S4 => K 0 S4))))
set_option maxRecDepth 100000 in
set_option maxHeartbeats 4000000 in
theorem lX11_putAttribute {G : xG} {sh : Nat → Option Sh} {J : St → List va_E → Prop} {a1 a2 a3 a4 : Int} {S : St} {cs : List va_E} {K : Int → St → Prop} (d : Nat) (hd : 2 ≤ d) (hJ : Stb sh J) (hT : isM sh) (hW : Wd G sh mT J S cs) (g1 : rng a1) (g2 : rng a2) (g3 : rng a3) (g4 : rng a4) (hw : wX11_putAttribute a1 a2 a3 a4 S K) : X G yX11_putAttribute cX11_putAttribute 5 none d [.ref (G.1 + 54), .int (Int32.ofInt a1), .int (Int32.ofInt a2), .int (Int32.ofInt a3), .int (Int32.ofInt a4)] cs (qV G sh mT J K) := by
  refine X.of false (by decide +kernel) (by decide) (Nat.le_of_ble_eq_true rfl) ?_
  show Z (RX11, cX11_putAttribute, 5, none, false) G d _ 0 [(0, .ref (G.1 + 54)), (1, .int (Int32.ofInt a1)), (2, .int (Int32.ofInt a2)), (3, .int (Int32.ofInt a3)), (4, .int (Int32.ofInt a4))] [] cs
  have hP : ∀ (v : Int) (S : St) (cs : List va_E), K v S → Wd G sh mT J S cs → qV G sh mT J K (none) cs := fun v S cs a b => ⟨v, S, rfl, a, b⟩
  unfold wX11_putAttribute at hw
  have hw := hw g1 g2 g3 g4
  refine z_aload_n dX11_putAttribute_0 rfl rfl ?_
  refine z_bipush (v := Int32.ofInt 32) dX11_putAttribute_1 (by decide) ?_
  have hX := lX11_put 0 (Nat.le_refl _) hJ hT hW ⟨by decide, by decide⟩ hw
  refine z_callV (As := [_]) eX11_put sX11_put lX11_260 rfl dX11_putAttribute_3 (hW.1 _ _ hT.1) hX (Nat.le_trans (by decide) hd) rfl (Nat.le_of_ble_eq_true rfl) (fun r cs hp => ?_)
  obtain ⟨r1, S2, rfl, hw, hW⟩ := hp
  refine z_st (st' := []) rfl ?_
  refine z_aload_n dX11_putAttribute_6 rfl rfl ?_
  refine z_iload_n dX11_putAttribute_7 rfl rfl ?_
  refine z_iload_n dX11_putAttribute_8 rfl rfl ?_
  refine z_iload_n dX11_putAttribute_9 rfl rfl ?_
  refine z_iload dX11_putAttribute_10 rfl ?_
  have hX := lX11_putWord 1 (Nat.le_refl _) hJ hT hW g1 g2 g3 g4 hw
  refine z_callV (As := [_, _, _, _]) eX11_putWord sX11_putWord lX11_267 rfl dX11_putAttribute_12 (hW.1 _ _ hT.1) hX (Nat.le_trans (by decide) hd) rfl (Nat.le_of_ble_eq_true rfl) (fun r cs hp => ?_)
  obtain ⟨r3, S4, rfl, hw, hW⟩ := hp
  refine z_st (st' := []) rfl ?_
  exact z_return dX11_putAttribute_15 rfl (hP 0 _ _ hw hW)

def wX11_putName_64 (l1 l2 : Int) (S : St) (K : Int → St → Prop) (B2 : Int → Int → St → Prop) : Prop := B2 (l1) ((l2 + 1)) S
set_option maxRecDepth 100000 in
set_option maxHeartbeats 4000000 in
theorem bX11_putName_64 {G : xG} {sh : Nat → Option Sh} {J : St → List va_E → Prop} {d : Nat} {Post : xP} {l1 l2 : Int} {S : St} {cs : List va_E} {K : Int → St → Prop} {B2 : Int → Int → St → Prop} (hd : 1 ≤ d) (hJ : Stb sh J) (hT : isM sh) (hW : Wd G sh mT J S cs) (hP : ∀ (v : Int) (S : St) (cs : List va_E), K v S → Wd G sh mT J S cs → Post (none) cs) (hB2 : ∀ (l1 : Int) (l2 : Int) (S : St) (cs : List va_E), B2 l1 l2 S → Wd G sh mT J S cs → Z (RX11, cX11_putName, 4, none, false) G d Post 2 [(0, .ref (G.1 + 54)), (1, .int (Int32.ofInt (l1))), (2, .int (Int32.ofInt (l2)))] [] cs) (hw : wX11_putName_64 l1 l2 S K B2) : Z (RX11, cX11_putName, 4, none, false) G d Post 64 [(0, .ref (G.1 + 54)), (1, .int (Int32.ofInt (l1))), (2, .int (Int32.ofInt (l2)))] [] cs := by
  unfold wX11_putName_64 at hw
  refine i_iinc (l := l2) dX11_putName_64 rfl (by decide) ?_
  refine z_goto (tgt := 2) dX11_putName_67 (by decide) ?_
  refine z_loc (L' := [(0, .ref (G.1 + 54)), (1, .int (Int32.ofInt (l1))), (2, .int (Int32.ofInt ((l2 + 1))))]) (List.forall_mem_cons.mpr ⟨rfl, (List.forall_mem_cons.mpr ⟨rfl, (List.forall_mem_cons.mpr ⟨rfl, (fun _ h => nomatch h)⟩)⟩)⟩) ?_
  exact hB2 _ _ _ _ hw hW
def wX11_putName_52 (l1 l2 l3 : Int) (S : St) (K : Int → St → Prop) (B2 : Int → Int → St → Prop) : Prop := (rng (l3) ∧ ((¬ l3 = 36 → wX11_putName_64 (l1) (l2) S K B2) ∧ ((¬ (¬ l3 = 36)) → (wX11_put (45) S (fun r3 S4 => wX11_putName_64 (l1) (l2) S4 K B2)))))
set_option maxRecDepth 100000 in
set_option maxHeartbeats 4000000 in
theorem bX11_putName_52 {G : xG} {sh : Nat → Option Sh} {J : St → List va_E → Prop} {d : Nat} {Post : xP} {l1 l2 l3 : Int} {S : St} {cs : List va_E} {K : Int → St → Prop} {B2 : Int → Int → St → Prop} (hd : 1 ≤ d) (hJ : Stb sh J) (hT : isM sh) (hW : Wd G sh mT J S cs) (hP : ∀ (v : Int) (S : St) (cs : List va_E), K v S → Wd G sh mT J S cs → Post (none) cs) (hB2 : ∀ (l1 : Int) (l2 : Int) (S : St) (cs : List va_E), B2 l1 l2 S → Wd G sh mT J S cs → Z (RX11, cX11_putName, 4, none, false) G d Post 2 [(0, .ref (G.1 + 54)), (1, .int (Int32.ofInt (l1))), (2, .int (Int32.ofInt (l2)))] [] cs) (hw : wX11_putName_52 l1 l2 l3 S K B2) : Z (RX11, cX11_putName, 4, none, false) G d Post 52 [(0, .ref (G.1 + 54)), (1, .int (Int32.ofInt (l1))), (2, .int (Int32.ofInt (l2))), (3, .int (Int32.ofInt (l3)))] [] cs := by
  unfold wX11_putName_52 at hw
  refine z_iload_n dX11_putName_52 rfl rfl ?_
  refine z_bipush (v := Int32.ofInt 36) dX11_putName_53 (by decide) ?_
  obtain ⟨q2, hw⟩ := hw
  refine i_icmp_ne (tgt := 64) dX11_putName_55 (by decide) q2 ⟨by decide, by decide⟩ (fun h1 => ?_) (fun h1 => ?_)
  · have hw := hw.1 h1
    refine z_loc (L' := [(0, .ref (G.1 + 54)), (1, .int (Int32.ofInt (l1))), (2, .int (Int32.ofInt (l2)))]) (List.forall_mem_cons.mpr ⟨rfl, (List.forall_mem_cons.mpr ⟨rfl, (List.forall_mem_cons.mpr ⟨rfl, (fun _ h => nomatch h)⟩)⟩)⟩) ?_
    exact bX11_putName_64 hd hJ hT hW hP hB2 hw
  · have hw := hw.2 h1
    refine z_aload_n dX11_putName_58 rfl rfl ?_
    refine z_bipush (v := Int32.ofInt 45) dX11_putName_59 (by decide) ?_
    have hX := lX11_put 0 (Nat.le_refl _) hJ hT hW ⟨by decide, by decide⟩ hw
    refine z_callV (As := [_]) eX11_put sX11_put lX11_260 rfl dX11_putName_61 (hW.1 _ _ hT.1) hX (Nat.le_trans (by decide) hd) rfl (Nat.le_of_ble_eq_true rfl) (fun r cs hp => ?_)
    obtain ⟨r3, S4, rfl, hw, hW⟩ := hp
    refine z_st (st' := []) rfl ?_
    refine z_loc (L' := [(0, .ref (G.1 + 54)), (1, .int (Int32.ofInt (l1))), (2, .int (Int32.ofInt (l2)))]) (List.forall_mem_cons.mpr ⟨rfl, (List.forall_mem_cons.mpr ⟨rfl, (List.forall_mem_cons.mpr ⟨rfl, (fun _ h => nomatch h)⟩)⟩)⟩) ?_
    exact bX11_putName_64 hd hJ hT hW hP hB2 hw
def wX11_putName_37 (l1 l2 l3 s0 : Int) (S : St) (K : Int → St → Prop) (B2 : Int → Int → St → Prop) : Prop := (rng (s0) ∧ (wX11_put (s0) S (fun r2 S3 => (rng (l3) ∧ ((¬ l3 = 95 → wX11_putName_52 (l1) (l2) (l3) S3 K B2) ∧ ((¬ (¬ l3 = 95)) → (wX11_put (95) S3 (fun r6 S7 => wX11_putName_52 (l1) (l2) (l3) S7 K B2))))))))
set_option maxRecDepth 100000 in
set_option maxHeartbeats 4000000 in
theorem bX11_putName_37 {G : xG} {sh : Nat → Option Sh} {J : St → List va_E → Prop} {d : Nat} {Post : xP} {l1 l2 l3 s0 : Int} {S : St} {cs : List va_E} {K : Int → St → Prop} {B2 : Int → Int → St → Prop} (hd : 1 ≤ d) (hJ : Stb sh J) (hT : isM sh) (hW : Wd G sh mT J S cs) (hP : ∀ (v : Int) (S : St) (cs : List va_E), K v S → Wd G sh mT J S cs → Post (none) cs) (hB2 : ∀ (l1 : Int) (l2 : Int) (S : St) (cs : List va_E), B2 l1 l2 S → Wd G sh mT J S cs → Z (RX11, cX11_putName, 4, none, false) G d Post 2 [(0, .ref (G.1 + 54)), (1, .int (Int32.ofInt (l1))), (2, .int (Int32.ofInt (l2)))] [] cs) (hw : wX11_putName_37 l1 l2 l3 s0 S K B2) : Z (RX11, cX11_putName, 4, none, false) G d Post 37 [(0, .ref (G.1 + 54)), (1, .int (Int32.ofInt (l1))), (2, .int (Int32.ofInt (l2))), (3, .int (Int32.ofInt (l3)))] [.int (Int32.ofInt (s0)), .ref (G.1 + 54)] cs := by
  unfold wX11_putName_37 at hw
  obtain ⟨q1, hw⟩ := hw
  have hX := lX11_put 0 (Nat.le_refl _) hJ hT hW q1 hw
  refine z_callV (As := [_]) eX11_put sX11_put lX11_260 rfl dX11_putName_37 (hW.1 _ _ hT.1) hX (Nat.le_trans (by decide) hd) rfl (Nat.le_of_ble_eq_true rfl) (fun r cs hp => ?_)
  obtain ⟨r2, S3, rfl, hw, hW⟩ := hp
  refine z_st (st' := []) rfl ?_
  refine z_iload_n dX11_putName_40 rfl rfl ?_
  refine z_bipush (v := Int32.ofInt 95) dX11_putName_41 (by decide) ?_
  obtain ⟨q5, hw⟩ := hw
  refine i_icmp_ne (tgt := 52) dX11_putName_43 (by decide) q5 ⟨by decide, by decide⟩ (fun h4 => ?_) (fun h4 => ?_)
  · have hw := hw.1 h4
    refine z_loc (L' := [(0, .ref (G.1 + 54)), (1, .int (Int32.ofInt (l1))), (2, .int (Int32.ofInt (l2))), (3, .int (Int32.ofInt (l3)))]) (List.forall_mem_cons.mpr ⟨rfl, (List.forall_mem_cons.mpr ⟨rfl, (List.forall_mem_cons.mpr ⟨rfl, (List.forall_mem_cons.mpr ⟨rfl, (fun _ h => nomatch h)⟩)⟩)⟩)⟩) ?_
    exact bX11_putName_52 hd hJ hT hW hP hB2 hw
  · have hw := hw.2 h4
    refine z_aload_n dX11_putName_46 rfl rfl ?_
    refine z_bipush (v := Int32.ofInt 95) dX11_putName_47 (by decide) ?_
    have hX := lX11_put 0 (Nat.le_refl _) hJ hT hW ⟨by decide, by decide⟩ hw
    refine z_callV (As := [_]) eX11_put sX11_put lX11_260 rfl dX11_putName_49 (hW.1 _ _ hT.1) hX (Nat.le_trans (by decide) hd) rfl (Nat.le_of_ble_eq_true rfl) (fun r cs hp => ?_)
    obtain ⟨r6, S7, rfl, hw, hW⟩ := hp
    refine z_st (st' := []) rfl ?_
    refine z_loc (L' := [(0, .ref (G.1 + 54)), (1, .int (Int32.ofInt (l1))), (2, .int (Int32.ofInt (l2))), (3, .int (Int32.ofInt (l3)))]) (List.forall_mem_cons.mpr ⟨rfl, (List.forall_mem_cons.mpr ⟨rfl, (List.forall_mem_cons.mpr ⟨rfl, (List.forall_mem_cons.mpr ⟨rfl, (fun _ h => nomatch h)⟩)⟩)⟩)⟩) ?_
    exact bX11_putName_52 hd hJ hT hW hP hB2 hw
def wX11_putName_2' (l1 l2 : Int) (S : St) (K : Int → St → Prop) (B2 : Int → Int → St → Prop) : Prop := ((0 : Int) ≤ l1 ∧ l1 < (30 : Int) ∧ (iv 0 8 (S.2 57 (l1)) → (rng (l2) ∧ ((S.2 57 (l1) ≤ l2 → K 0 S) ∧ ((¬ (S.2 57 (l1) ≤ l2)) → ((0 : Int) ≤ ((8 * l1) + l2) ∧ ((8 * l1) + l2) < (240 : Int) ∧ (iv (-2147483648) 2147483647 (S.2 58 (((8 * l1) + l2))) → ((¬ S.2 58 (((8 * l1) + l2)) = 36 → wX11_putName_37 (l1) (l2) (S.2 58 (((8 * l1) + l2))) (S.2 58 (((8 * l1) + l2))) S K B2) ∧ ((¬ (¬ S.2 58 (((8 * l1) + l2)) = 36)) → wX11_putName_37 (l1) (l2) (S.2 58 (((8 * l1) + l2))) (95) S K B2)))))))))
set_option maxRecDepth 100000 in
set_option maxHeartbeats 4000000 in
theorem bX11_putName_2' {G : xG} {sh : Nat → Option Sh} {J : St → List va_E → Prop} {d : Nat} {Post : xP} {l1 l2 : Int} {S : St} {cs : List va_E} {K : Int → St → Prop} {B2 : Int → Int → St → Prop} (hd : 1 ≤ d) (hJ : Stb sh J) (hT : isM sh) (hW : Wd G sh mT J S cs) (hP : ∀ (v : Int) (S : St) (cs : List va_E), K v S → Wd G sh mT J S cs → Post (none) cs) (hB2 : ∀ (l1 : Int) (l2 : Int) (S : St) (cs : List va_E), B2 l1 l2 S → Wd G sh mT J S cs → Z (RX11, cX11_putName, 4, none, false) G d Post 2 [(0, .ref (G.1 + 54)), (1, .int (Int32.ofInt (l1))), (2, .int (Int32.ofInt (l2)))] [] cs) (hw : wX11_putName_2' l1 l2 S K B2) : Z (RX11, cX11_putName, 4, none, false) G d Post 2 [(0, .ref (G.1 + 54)), (1, .int (Int32.ofInt (l1))), (2, .int (Int32.ofInt (l2)))] [] cs := by
  unfold wX11_putName_2' at hw
  refine z_iload_n dX11_putName_2 rfl rfl ?_
  refine z_aload_n dX11_putName_3 rfl rfl ?_
  refine g_getR hW hT.1 mr4 kX11 fX11_16 dX11_putName_4 ?_
  refine z_iload_n dX11_putName_7 rfl rfl ?_
  obtain ⟨q1a, q1b, hw⟩ := hw
  have q2 : iv 0 8 (S.2 57 (l1)) := mA57 hW _
  have hw := hw q2
  refine g_iald hW (ma57 hT) q1a q1b (by decide) dX11_putName_8 ?_
  obtain ⟨q4, hw⟩ := hw
  refine i_icmp_ge (tgt := 70) dX11_putName_9 (by decide) q4 (rngq q2 (by decide) (by decide)) (fun h3 => ?_) (fun h3 => ?_)
  · have hw := hw.1 h3
    exact z_return dX11_putName_70 rfl (hP 0 _ _ hw hW)
  · have hw := hw.2 h3
    refine z_aload_n dX11_putName_12 rfl rfl ?_
    refine g_getR hW hT.1 mr5 kX11 fX11_19 dX11_putName_13 ?_
    refine z_bipush (v := Int32.ofInt 8) dX11_putName_16 (by decide) ?_
    refine z_iload_n dX11_putName_18 rfl rfl ?_
    refine i_imul dX11_putName_19 ?_
    refine z_iload_n dX11_putName_20 rfl rfl ?_
    refine i_iadd dX11_putName_21 ?_
    obtain ⟨q5a, q5b, hw⟩ := hw
    have q6 : iv (-2147483648) 2147483647 (S.2 58 (((8 * l1) + l2))) := mA58 hW _
    have hw := hw q6
    refine g_iald hW (ma58 hT) q5a q5b (by decide) dX11_putName_22 ?_
    refine z_istore_n dX11_putName_23 rfl (by decide) ?_
    refine z_aload_n dX11_putName_24 rfl rfl ?_
    refine z_iload_n dX11_putName_25 rfl rfl ?_
    refine z_bipush (v := Int32.ofInt 36) dX11_putName_26 (by decide) ?_
    refine i_icmp_ne (tgt := 36) dX11_putName_28 (by decide) (rngq q6 (by decide) (by decide)) ⟨by decide, by decide⟩ (fun h7 => ?_) (fun h7 => ?_)
    · have hw := hw.1 h7
      refine z_iload_n dX11_putName_36 rfl rfl ?_
      refine z_loc (L' := [(0, .ref (G.1 + 54)), (1, .int (Int32.ofInt (l1))), (2, .int (Int32.ofInt (l2))), (3, .int (Int32.ofInt (S.2 58 (((8 * l1) + l2)))))]) (List.forall_mem_cons.mpr ⟨rfl, (List.forall_mem_cons.mpr ⟨rfl, (List.forall_mem_cons.mpr ⟨rfl, (List.forall_mem_cons.mpr ⟨rfl, (fun _ h => nomatch h)⟩)⟩)⟩)⟩) ?_
      exact bX11_putName_37 hd hJ hT hW hP hB2 hw
    · have hw := hw.2 h7
      refine z_bipush (v := Int32.ofInt 95) dX11_putName_31 (by decide) ?_
      refine z_goto (tgt := 37) dX11_putName_33 (by decide) ?_
      refine z_loc (L' := [(0, .ref (G.1 + 54)), (1, .int (Int32.ofInt (l1))), (2, .int (Int32.ofInt (l2))), (3, .int (Int32.ofInt (S.2 58 (((8 * l1) + l2)))))]) (List.forall_mem_cons.mpr ⟨rfl, (List.forall_mem_cons.mpr ⟨rfl, (List.forall_mem_cons.mpr ⟨rfl, (List.forall_mem_cons.mpr ⟨rfl, (fun _ h => nomatch h)⟩)⟩)⟩)⟩) ?_
      exact bX11_putName_37 hd hJ hT hW hP hB2 hw
def wX11_putName_2 (l1 l2 : Int) (S : St) (K : Int → St → Prop) : Prop := ∃ (Iv : Int → Int → St → Prop) (mu : Int → Int → St → Nat), Iv l1 l2 S ∧ ∀ (l1 l2 : Int) (S : St), Iv l1 l2 S → wX11_putName_2' l1 l2 S K  (fun ml1 ml2 T => Iv ml1 ml2 T ∧ mu ml1 ml2 T < mu l1 l2 S)
set_option maxRecDepth 100000 in
set_option maxHeartbeats 4000000 in
theorem bX11_putName_2 {G : xG} {sh : Nat → Option Sh} {J : St → List va_E → Prop} {d : Nat} {Post : xP} {l1 l2 : Int} {S : St} {cs : List va_E} {K : Int → St → Prop} (hd : 1 ≤ d) (hJ : Stb sh J) (hT : isM sh) (hW : Wd G sh mT J S cs) (hP : ∀ (v : Int) (S : St) (cs : List va_E), K v S → Wd G sh mT J S cs → Post (none) cs)  (hw : wX11_putName_2 l1 l2 S K ) : Z (RX11, cX11_putName, 4, none, false) G d Post 2 [(0, .ref (G.1 + 54)), (1, .int (Int32.ofInt (l1))), (2, .int (Int32.ofInt (l2)))] [] cs := by
  unfold wX11_putName_2 at hw
  obtain ⟨Iv, mu, h0, hs⟩ := hw
  have key : ∀ (n : Nat) (l1 l2 : Int) (S : St) (cs : List va_E), mu l1 l2 S < n → Iv l1 l2 S → Wd G sh mT J S cs → Z (RX11, cX11_putName, 4, none, false) G d Post 2 [(0, .ref (G.1 + 54)), (1, .int (Int32.ofInt (l1))), (2, .int (Int32.ofInt (l2)))] [] cs := by
    intro n
    induction n with
    | zero => intro l1 l2 S cs hn; exact absurd hn (Nat.not_lt_zero _)
    | succ n ih =>
      intro l1 l2 S cs hn hI hW
      exact bX11_putName_2' hd hJ hT hW hP  (fun l1 l2 S cs hb hW => ih l1 l2 S cs (Nat.lt_of_lt_of_le hb.2 (Nat.le_of_lt_succ hn)) hb.1 hW) (hs l1 l2 S hI)
  exact key _ _ _ _ _ (Nat.lt_succ_self _) h0 hW
def wX11_putName (a1 : Int) (S : St) (K : Int → St → Prop) : Prop := rng a1 → wX11_putName_2 (a1) (0) S K
set_option maxRecDepth 100000 in
set_option maxHeartbeats 4000000 in
theorem lX11_putName {G : xG} {sh : Nat → Option Sh} {J : St → List va_E → Prop} {a1 : Int} {S : St} {cs : List va_E} {K : Int → St → Prop} (d : Nat) (hd : 1 ≤ d) (hJ : Stb sh J) (hT : isM sh) (hW : Wd G sh mT J S cs) (g1 : rng a1) (hw : wX11_putName a1 S K) : X G yX11_putName cX11_putName 4 none d [.ref (G.1 + 54), .int (Int32.ofInt a1)] cs (qV G sh mT J K) := by
  refine X.of false (by decide +kernel) (by decide) (Nat.le_of_ble_eq_true rfl) ?_
  show Z (RX11, cX11_putName, 4, none, false) G d _ 0 [(0, .ref (G.1 + 54)), (1, .int (Int32.ofInt a1))] [] cs
  have hP : ∀ (v : Int) (S : St) (cs : List va_E), K v S → Wd G sh mT J S cs → qV G sh mT J K (none) cs := fun v S cs a b => ⟨v, S, rfl, a, b⟩
  unfold wX11_putName at hw
  have hw := hw g1
  refine z_iconst (v := Int32.ofInt 0) dX11_putName_0 rfl ?_
  refine z_istore_n dX11_putName_1 rfl (by decide) ?_
  refine z_loc (L' := [(0, .ref (G.1 + 54)), (1, .int (Int32.ofInt (a1))), (2, .int (Int32.ofInt (0)))]) (List.forall_mem_cons.mpr ⟨rfl, (List.forall_mem_cons.mpr ⟨rfl, (List.forall_mem_cons.mpr ⟨rfl, (fun _ h => nomatch h)⟩)⟩)⟩) ?_
  exact bX11_putName_2 hd hJ hT hW hP  hw

def wX11_putNumber_48' (l2 l4 : Int) (S : St) (K : Int → St → Prop) (B48 : Int → Int → St → Prop) : Prop := (rngL (l4) ∧ ((l4 ≤ 0 → K 0 S) ∧ ((¬ (l4 ≤ 0)) → (rngL (l2) ∧ (rngL (l4) ∧ ((¬ l4 = 0) ∧ (rngL ((Int.tdiv (l2) (l4))) ∧ (rng ((48 + ((Int.tdiv (l2) (l4)) - Int.tdiv ((Int.tdiv (l2) (l4))) (10) * 10))) ∧ (wX11_put ((48 + ((Int.tdiv (l2) (l4)) - Int.tdiv ((Int.tdiv (l2) (l4))) (10) * 10))) S (fun r8 S9 => (rngL (l4) ∧ B48 (l2) ((Int.tdiv (l4) (10))) S9)))))))))))
set_option maxRecDepth 100000 in
set_option maxHeartbeats 4000000 in
theorem bX11_putNumber_48' {G : xG} {sh : Nat → Option Sh} {J : St → List va_E → Prop} {d : Nat} {Post : xP} {l2 l4 : Int} {S : St} {cs : List va_E} {K : Int → St → Prop} {B48 : Int → Int → St → Prop} (hd : 1 ≤ d) (hJ : Stb sh J) (hT : isM sh) (hW : Wd G sh mT J S cs) (hP : ∀ (v : Int) (S : St) (cs : List va_E), K v S → Wd G sh mT J S cs → Post (none) cs) (hB48 : ∀ (l2 : Int) (l4 : Int) (S : St) (cs : List va_E), B48 l2 l4 S → Wd G sh mT J S cs → Z (RX11, cX11_putNumber, 6, none, false) G d Post 48 [(0, .ref (G.1 + 54)), (2, .long (Int64.ofInt (l2))), (4, .long (Int64.ofInt (l4)))] [] cs) (hw : wX11_putNumber_48' l2 l4 S K B48) : Z (RX11, cX11_putNumber, 6, none, false) G d Post 48 [(0, .ref (G.1 + 54)), (2, .long (Int64.ofInt (l2))), (4, .long (Int64.ofInt (l4)))] [] cs := by
  unfold wX11_putNumber_48' at hw
  refine z_lload dX11_putNumber_48 rfl ?_
  refine z_lconst (v := Int64.ofInt 0) dX11_putNumber_50 (by decide) ?_
  obtain ⟨q1, hw⟩ := hw
  refine i_lcmp_le (tgt := 82) dX11_putNumber_51 dX11_putNumber_52 (by decide) q1 ⟨by decide, by decide⟩ (fun h2 => ?_) (fun h2 => ?_)
  · have hw := hw.1 h2
    exact z_return dX11_putNumber_82 rfl (hP 0 _ _ hw hW)
  · have hw := hw.2 h2
    refine z_aload_n dX11_putNumber_55 rfl rfl ?_
    refine z_bipush (v := Int32.ofInt 48) dX11_putNumber_56 (by decide) ?_
    refine z_lload_n dX11_putNumber_58 rfl rfl ?_
    refine z_lload dX11_putNumber_59 rfl ?_
    obtain ⟨q3, hw⟩ := hw
    obtain ⟨q4, hw⟩ := hw
    obtain ⟨q5, hw⟩ := hw
    refine i_ldiv dX11_putNumber_61 q5 q3 q4 ?_
    refine i_ldc2 (n := 10) qX11_265 rfl dX11_putNumber_62 ?_
    obtain ⟨q6, hw⟩ := hw
    refine i_lrem dX11_putNumber_65 (by decide) q6 ⟨by decide, by decide⟩ ?_
    refine i_l2i dX11_putNumber_66 ?_
    refine i_iadd dX11_putNumber_67 ?_
    obtain ⟨q7, hw⟩ := hw
    have hX := lX11_put 0 (Nat.le_refl _) hJ hT hW q7 hw
    refine z_callV (As := [_]) eX11_put sX11_put lX11_260 rfl dX11_putNumber_68 (hW.1 _ _ hT.1) hX (Nat.le_trans (by decide) hd) rfl (Nat.le_of_ble_eq_true rfl) (fun r cs hp => ?_)
    obtain ⟨r8, S9, rfl, hw, hW⟩ := hp
    refine z_st (st' := []) rfl ?_
    refine z_lload dX11_putNumber_71 rfl ?_
    refine i_ldc2 (n := 10) qX11_265 rfl dX11_putNumber_73 ?_
    obtain ⟨q10, hw⟩ := hw
    refine i_ldiv dX11_putNumber_76 (by decide) q10 ⟨by decide, by decide⟩ ?_
    refine z_lstore dX11_putNumber_77 (by decide) ?_
    refine z_goto (tgt := 48) dX11_putNumber_79 (by decide) ?_
    refine z_loc (L' := [(0, .ref (G.1 + 54)), (2, .long (Int64.ofInt (l2))), (4, .long (Int64.ofInt ((Int.tdiv (l4) (10)))))]) (List.forall_mem_cons.mpr ⟨rfl, (List.forall_mem_cons.mpr ⟨rfl, (List.forall_mem_cons.mpr ⟨rfl, (fun _ h => nomatch h)⟩)⟩)⟩) ?_
    exact hB48 _ _ _ _ hw hW
def wX11_putNumber_48 (l2 l4 : Int) (S : St) (K : Int → St → Prop) : Prop := ∃ (Iv : Int → Int → St → Prop) (mu : Int → Int → St → Nat), Iv l2 l4 S ∧ ∀ (l2 l4 : Int) (S : St), Iv l2 l4 S → wX11_putNumber_48' l2 l4 S K  (fun ml2 ml4 T => Iv ml2 ml4 T ∧ mu ml2 ml4 T < mu l2 l4 S)
set_option maxRecDepth 100000 in
set_option maxHeartbeats 4000000 in
theorem bX11_putNumber_48 {G : xG} {sh : Nat → Option Sh} {J : St → List va_E → Prop} {d : Nat} {Post : xP} {l2 l4 : Int} {S : St} {cs : List va_E} {K : Int → St → Prop} (hd : 1 ≤ d) (hJ : Stb sh J) (hT : isM sh) (hW : Wd G sh mT J S cs) (hP : ∀ (v : Int) (S : St) (cs : List va_E), K v S → Wd G sh mT J S cs → Post (none) cs)  (hw : wX11_putNumber_48 l2 l4 S K ) : Z (RX11, cX11_putNumber, 6, none, false) G d Post 48 [(0, .ref (G.1 + 54)), (2, .long (Int64.ofInt (l2))), (4, .long (Int64.ofInt (l4)))] [] cs := by
  unfold wX11_putNumber_48 at hw
  obtain ⟨Iv, mu, h0, hs⟩ := hw
  have key : ∀ (n : Nat) (l2 l4 : Int) (S : St) (cs : List va_E), mu l2 l4 S < n → Iv l2 l4 S → Wd G sh mT J S cs → Z (RX11, cX11_putNumber, 6, none, false) G d Post 48 [(0, .ref (G.1 + 54)), (2, .long (Int64.ofInt (l2))), (4, .long (Int64.ofInt (l4)))] [] cs := by
    intro n
    induction n with
    | zero => intro l2 l4 S cs hn; exact absurd hn (Nat.not_lt_zero _)
    | succ n ih =>
      intro l2 l4 S cs hn hI hW
      exact bX11_putNumber_48' hd hJ hT hW hP  (fun l2 l4 S cs hb hW => ih l2 l4 S cs (Nat.lt_of_lt_of_le hb.2 (Nat.le_of_lt_succ hn)) hb.1 hW) (hs l2 l4 S hI)
  exact key _ _ _ _ _ (Nat.lt_succ_self _) h0 hW
def wX11_putNumber_26' (l2 l4 : Int) (S : St) (K : Int → St → Prop) (B26 : Int → Int → St → Prop) : Prop := (rngL (l2) ∧ (rngL (l4) ∧ ((¬ l4 = 0) ∧ (rngL ((Int.tdiv (l2) (l4))) ∧ (((Int.tdiv (l2) (l4)) ≤ 9 → wX11_putNumber_48 (l2) (l4) S K) ∧ ((¬ ((Int.tdiv (l2) (l4)) ≤ 9)) → B26 (l2) ((l4 * 10)) S))))))
set_option maxRecDepth 100000 in
set_option maxHeartbeats 4000000 in
theorem bX11_putNumber_26' {G : xG} {sh : Nat → Option Sh} {J : St → List va_E → Prop} {d : Nat} {Post : xP} {l2 l4 : Int} {S : St} {cs : List va_E} {K : Int → St → Prop} {B26 : Int → Int → St → Prop} (hd : 1 ≤ d) (hJ : Stb sh J) (hT : isM sh) (hW : Wd G sh mT J S cs) (hP : ∀ (v : Int) (S : St) (cs : List va_E), K v S → Wd G sh mT J S cs → Post (none) cs) (hB26 : ∀ (l2 : Int) (l4 : Int) (S : St) (cs : List va_E), B26 l2 l4 S → Wd G sh mT J S cs → Z (RX11, cX11_putNumber, 6, none, false) G d Post 26 [(0, .ref (G.1 + 54)), (2, .long (Int64.ofInt (l2))), (4, .long (Int64.ofInt (l4)))] [] cs) (hw : wX11_putNumber_26' l2 l4 S K B26) : Z (RX11, cX11_putNumber, 6, none, false) G d Post 26 [(0, .ref (G.1 + 54)), (2, .long (Int64.ofInt (l2))), (4, .long (Int64.ofInt (l4)))] [] cs := by
  unfold wX11_putNumber_26' at hw
  refine z_lload_n dX11_putNumber_26 rfl rfl ?_
  refine z_lload dX11_putNumber_27 rfl ?_
  obtain ⟨q1, hw⟩ := hw
  obtain ⟨q2, hw⟩ := hw
  obtain ⟨q3, hw⟩ := hw
  refine i_ldiv dX11_putNumber_29 q3 q1 q2 ?_
  refine i_ldc2 (n := 9) qX11_263 rfl dX11_putNumber_30 ?_
  obtain ⟨q4, hw⟩ := hw
  refine i_lcmp_le (tgt := 48) dX11_putNumber_33 dX11_putNumber_34 (by decide) q4 ⟨by decide, by decide⟩ (fun h5 => ?_) (fun h5 => ?_)
  · have hw := hw.1 h5
    refine z_loc (L' := [(0, .ref (G.1 + 54)), (2, .long (Int64.ofInt (l2))), (4, .long (Int64.ofInt (l4)))]) (List.forall_mem_cons.mpr ⟨rfl, (List.forall_mem_cons.mpr ⟨rfl, (List.forall_mem_cons.mpr ⟨rfl, (fun _ h => nomatch h)⟩)⟩)⟩) ?_
    exact bX11_putNumber_48 hd hJ hT hW hP  hw
  · have hw := hw.2 h5
    refine z_lload dX11_putNumber_37 rfl ?_
    refine i_ldc2 (n := 10) qX11_265 rfl dX11_putNumber_39 ?_
    refine i_lmul dX11_putNumber_42 ?_
    refine z_lstore dX11_putNumber_43 (by decide) ?_
    refine z_goto (tgt := 26) dX11_putNumber_45 (by decide) ?_
    refine z_loc (L' := [(0, .ref (G.1 + 54)), (2, .long (Int64.ofInt (l2))), (4, .long (Int64.ofInt ((l4 * 10))))]) (List.forall_mem_cons.mpr ⟨rfl, (List.forall_mem_cons.mpr ⟨rfl, (List.forall_mem_cons.mpr ⟨rfl, (fun _ h => nomatch h)⟩)⟩)⟩) ?_
    exact hB26 _ _ _ _ hw hW
def wX11_putNumber_26 (l2 l4 : Int) (S : St) (K : Int → St → Prop) : Prop := ∃ (Iv : Int → Int → St → Prop) (mu : Int → Int → St → Nat), Iv l2 l4 S ∧ ∀ (l2 l4 : Int) (S : St), Iv l2 l4 S → wX11_putNumber_26' l2 l4 S K  (fun ml2 ml4 T => Iv ml2 ml4 T ∧ mu ml2 ml4 T < mu l2 l4 S)
set_option maxRecDepth 100000 in
set_option maxHeartbeats 4000000 in
theorem bX11_putNumber_26 {G : xG} {sh : Nat → Option Sh} {J : St → List va_E → Prop} {d : Nat} {Post : xP} {l2 l4 : Int} {S : St} {cs : List va_E} {K : Int → St → Prop} (hd : 1 ≤ d) (hJ : Stb sh J) (hT : isM sh) (hW : Wd G sh mT J S cs) (hP : ∀ (v : Int) (S : St) (cs : List va_E), K v S → Wd G sh mT J S cs → Post (none) cs)  (hw : wX11_putNumber_26 l2 l4 S K ) : Z (RX11, cX11_putNumber, 6, none, false) G d Post 26 [(0, .ref (G.1 + 54)), (2, .long (Int64.ofInt (l2))), (4, .long (Int64.ofInt (l4)))] [] cs := by
  unfold wX11_putNumber_26 at hw
  obtain ⟨Iv, mu, h0, hs⟩ := hw
  have key : ∀ (n : Nat) (l2 l4 : Int) (S : St) (cs : List va_E), mu l2 l4 S < n → Iv l2 l4 S → Wd G sh mT J S cs → Z (RX11, cX11_putNumber, 6, none, false) G d Post 26 [(0, .ref (G.1 + 54)), (2, .long (Int64.ofInt (l2))), (4, .long (Int64.ofInt (l4)))] [] cs := by
    intro n
    induction n with
    | zero => intro l2 l4 S cs hn; exact absurd hn (Nat.not_lt_zero _)
    | succ n ih =>
      intro l2 l4 S cs hn hI hW
      exact bX11_putNumber_26' hd hJ hT hW hP  (fun l2 l4 S cs hb hW => ih l2 l4 S cs (Nat.lt_of_lt_of_le hb.2 (Nat.le_of_lt_succ hn)) hb.1 hW) (hs l2 l4 S hI)
  exact key _ _ _ _ _ (Nat.lt_succ_self _) h0 hW
def wX11_putNumber_23 (l2 : Int) (S : St) (K : Int → St → Prop) : Prop := wX11_putNumber_26 (l2) (1) S K
set_option maxRecDepth 100000 in
set_option maxHeartbeats 4000000 in
theorem bX11_putNumber_23 {G : xG} {sh : Nat → Option Sh} {J : St → List va_E → Prop} {d : Nat} {Post : xP} {l2 : Int} {S : St} {cs : List va_E} {K : Int → St → Prop} (hd : 1 ≤ d) (hJ : Stb sh J) (hT : isM sh) (hW : Wd G sh mT J S cs) (hP : ∀ (v : Int) (S : St) (cs : List va_E), K v S → Wd G sh mT J S cs → Post (none) cs)  (hw : wX11_putNumber_23 l2 S K ) : Z (RX11, cX11_putNumber, 6, none, false) G d Post 23 [(0, .ref (G.1 + 54)), (2, .long (Int64.ofInt (l2)))] [] cs := by
  unfold wX11_putNumber_23 at hw
  refine z_lconst (v := Int64.ofInt 1) dX11_putNumber_23 (by decide) ?_
  refine z_lstore dX11_putNumber_24 (by decide) ?_
  refine z_loc (L' := [(0, .ref (G.1 + 54)), (2, .long (Int64.ofInt (l2))), (4, .long (Int64.ofInt (1)))]) (List.forall_mem_cons.mpr ⟨rfl, (List.forall_mem_cons.mpr ⟨rfl, (List.forall_mem_cons.mpr ⟨rfl, (fun _ h => nomatch h)⟩)⟩)⟩) ?_
  exact bX11_putNumber_26 hd hJ hT hW hP  hw
def wX11_putNumber_12 (l1 s0 : Int) (S : St) (K : Int → St → Prop) : Prop := (rng (l1) ∧ ((0 ≤ l1 → wX11_putNumber_23 (s0) S K) ∧ ((¬ (0 ≤ l1)) → (wX11_put (45) S (fun r3 S4 => wX11_putNumber_23 (s0) S4 K)))))
set_option maxRecDepth 100000 in
set_option maxHeartbeats 4000000 in
theorem bX11_putNumber_12 {G : xG} {sh : Nat → Option Sh} {J : St → List va_E → Prop} {d : Nat} {Post : xP} {l1 s0 : Int} {S : St} {cs : List va_E} {K : Int → St → Prop} (hd : 1 ≤ d) (hJ : Stb sh J) (hT : isM sh) (hW : Wd G sh mT J S cs) (hP : ∀ (v : Int) (S : St) (cs : List va_E), K v S → Wd G sh mT J S cs → Post (none) cs)  (hw : wX11_putNumber_12 l1 s0 S K ) : Z (RX11, cX11_putNumber, 6, none, false) G d Post 12 [(0, .ref (G.1 + 54)), (1, .int (Int32.ofInt (l1)))] [.long (Int64.ofInt (s0))] cs := by
  unfold wX11_putNumber_12 at hw
  refine z_lstore_n dX11_putNumber_12 rfl (by decide) ?_
  refine z_iload_n dX11_putNumber_13 rfl rfl ?_
  obtain ⟨q2, hw⟩ := hw
  refine i_if_ge (tgt := 23) dX11_putNumber_14 (by decide) q2 (fun h1 => ?_) (fun h1 => ?_)
  · have hw := hw.1 h1
    refine z_loc (L' := [(0, .ref (G.1 + 54)), (2, .long (Int64.ofInt (s0)))]) (List.forall_mem_cons.mpr ⟨rfl, (List.forall_mem_cons.mpr ⟨rfl, (fun _ h => nomatch h)⟩)⟩) ?_
    exact bX11_putNumber_23 hd hJ hT hW hP  hw
  · have hw := hw.2 h1
    refine z_aload_n dX11_putNumber_17 rfl rfl ?_
    refine z_bipush (v := Int32.ofInt 45) dX11_putNumber_18 (by decide) ?_
    have hX := lX11_put 0 (Nat.le_refl _) hJ hT hW ⟨by decide, by decide⟩ hw
    refine z_callV (As := [_]) eX11_put sX11_put lX11_260 rfl dX11_putNumber_20 (hW.1 _ _ hT.1) hX (Nat.le_trans (by decide) hd) rfl (Nat.le_of_ble_eq_true rfl) (fun r cs hp => ?_)
    obtain ⟨r3, S4, rfl, hw, hW⟩ := hp
    refine z_st (st' := []) rfl ?_
    refine z_loc (L' := [(0, .ref (G.1 + 54)), (2, .long (Int64.ofInt (s0)))]) (List.forall_mem_cons.mpr ⟨rfl, (List.forall_mem_cons.mpr ⟨rfl, (fun _ h => nomatch h)⟩)⟩) ?_
    exact bX11_putNumber_23 hd hJ hT hW hP  hw
def wX11_putNumber (a1 : Int) (S : St) (K : Int → St → Prop) : Prop := rng a1 → ((0 ≤ a1 → wX11_putNumber_12 (a1) (a1) S K) ∧ ((¬ (0 ≤ a1)) → wX11_putNumber_12 (a1) ((-a1)) S K))
set_option maxRecDepth 100000 in
set_option maxHeartbeats 4000000 in
theorem lX11_putNumber {G : xG} {sh : Nat → Option Sh} {J : St → List va_E → Prop} {a1 : Int} {S : St} {cs : List va_E} {K : Int → St → Prop} (d : Nat) (hd : 1 ≤ d) (hJ : Stb sh J) (hT : isM sh) (hW : Wd G sh mT J S cs) (g1 : rng a1) (hw : wX11_putNumber a1 S K) : X G yX11_putNumber cX11_putNumber 6 none d [.ref (G.1 + 54), .int (Int32.ofInt a1)] cs (qV G sh mT J K) := by
  refine X.of false (by decide +kernel) (by decide) (Nat.le_of_ble_eq_true rfl) ?_
  show Z (RX11, cX11_putNumber, 6, none, false) G d _ 0 [(0, .ref (G.1 + 54)), (1, .int (Int32.ofInt a1))] [] cs
  have hP : ∀ (v : Int) (S : St) (cs : List va_E), K v S → Wd G sh mT J S cs → qV G sh mT J K (none) cs := fun v S cs a b => ⟨v, S, rfl, a, b⟩
  unfold wX11_putNumber at hw
  have hw := hw g1
  refine z_iload_n dX11_putNumber_0 rfl rfl ?_
  refine i_if_ge (tgt := 10) dX11_putNumber_1 (by decide) g1 (fun h1 => ?_) (fun h1 => ?_)
  · have hw := hw.1 h1
    refine z_iload_n dX11_putNumber_10 rfl rfl ?_
    refine i_i2l dX11_putNumber_11 g1 ?_
    refine z_loc (L' := [(0, .ref (G.1 + 54)), (1, .int (Int32.ofInt (a1)))]) (List.forall_mem_cons.mpr ⟨rfl, (List.forall_mem_cons.mpr ⟨rfl, (fun _ h => nomatch h)⟩)⟩) ?_
    exact bX11_putNumber_12 hd hJ hT hW hP  hw
  · have hw := hw.2 h1
    refine z_iload_n dX11_putNumber_4 rfl rfl ?_
    refine i_i2l dX11_putNumber_5 g1 ?_
    refine i_lneg dX11_putNumber_6 ?_
    refine z_goto (tgt := 12) dX11_putNumber_7 (by decide) ?_
    refine z_loc (L' := [(0, .ref (G.1 + 54)), (1, .int (Int32.ofInt (a1)))]) (List.forall_mem_cons.mpr ⟨rfl, (List.forall_mem_cons.mpr ⟨rfl, (fun _ h => nomatch h)⟩)⟩) ?_
    exact bX11_putNumber_12 hd hJ hT hW hP  hw

def wX11_putText_136 (l1 l2 l3 : Int) (S : St) (K : Int → St → Prop) (B2 : Int → Int → Int → St → Prop) : Prop := B2 (l1) (l2) ((l3 + 1)) S
set_option maxRecDepth 100000 in
set_option maxHeartbeats 4000000 in
theorem bX11_putText_136 {G : xG} {sh : Nat → Option Sh} {J : St → List va_E → Prop} {d : Nat} {Post : xP} {l1 l2 l3 : Int} {S : St} {cs : List va_E} {K : Int → St → Prop} {B2 : Int → Int → Int → St → Prop} (hd : 2 ≤ d) (hJ : Stb sh J) (hT : isM sh) (hW : Wd G sh mT J S cs) (hP : ∀ (v : Int) (S : St) (cs : List va_E), K v S → Wd G sh mT J S cs → Post (none) cs) (hB2 : ∀ (l1 : Int) (l2 : Int) (l3 : Int) (S : St) (cs : List va_E), B2 l1 l2 l3 S → Wd G sh mT J S cs → Z (RX11, cX11_putText, 5, none, false) G d Post 2 [(0, .ref (G.1 + 54)), (1, .int (Int32.ofInt (l1))), (2, .int (Int32.ofInt (l2))), (3, .int (Int32.ofInt (l3)))] [] cs) (hw : wX11_putText_136 l1 l2 l3 S K B2) : Z (RX11, cX11_putText, 5, none, false) G d Post 136 [(0, .ref (G.1 + 54)), (1, .int (Int32.ofInt (l1))), (2, .int (Int32.ofInt (l2))), (3, .int (Int32.ofInt (l3)))] [] cs := by
  unfold wX11_putText_136 at hw
  refine i_iinc (l := l3) dX11_putText_136 rfl (by decide) ?_
  refine z_goto (tgt := 2) dX11_putText_139 (by decide) ?_
  refine z_loc (L' := [(0, .ref (G.1 + 54)), (1, .int (Int32.ofInt (l1))), (2, .int (Int32.ofInt (l2))), (3, .int (Int32.ofInt ((l3 + 1))))]) (List.forall_mem_cons.mpr ⟨rfl, (List.forall_mem_cons.mpr ⟨rfl, (List.forall_mem_cons.mpr ⟨rfl, (List.forall_mem_cons.mpr ⟨rfl, (fun _ h => nomatch h)⟩)⟩)⟩)⟩) ?_
  exact hB2 _ _ _ _ _ hw hW
def wX11_putText_84 (l1 l2 l3 s0 s1 : Int) (S : St) (K : Int → St → Prop) (B2 : Int → Int → Int → St → Prop) : Prop := (rng (s1) ∧ (rng (s0) ∧ (wX11_putWord (s1) (s0) (116) (59) S (fun r3 S4 => wX11_putText_136 (l1) (l2) (l3) S4 K B2))))
set_option maxRecDepth 100000 in
set_option maxHeartbeats 4000000 in
theorem bX11_putText_84 {G : xG} {sh : Nat → Option Sh} {J : St → List va_E → Prop} {d : Nat} {Post : xP} {l1 l2 l3 s0 s1 : Int} {S : St} {cs : List va_E} {K : Int → St → Prop} {B2 : Int → Int → Int → St → Prop} (hd : 2 ≤ d) (hJ : Stb sh J) (hT : isM sh) (hW : Wd G sh mT J S cs) (hP : ∀ (v : Int) (S : St) (cs : List va_E), K v S → Wd G sh mT J S cs → Post (none) cs) (hB2 : ∀ (l1 : Int) (l2 : Int) (l3 : Int) (S : St) (cs : List va_E), B2 l1 l2 l3 S → Wd G sh mT J S cs → Z (RX11, cX11_putText, 5, none, false) G d Post 2 [(0, .ref (G.1 + 54)), (1, .int (Int32.ofInt (l1))), (2, .int (Int32.ofInt (l2))), (3, .int (Int32.ofInt (l3)))] [] cs) (hw : wX11_putText_84 l1 l2 l3 s0 s1 S K B2) : Z (RX11, cX11_putText, 5, none, false) G d Post 84 [(0, .ref (G.1 + 54)), (1, .int (Int32.ofInt (l1))), (2, .int (Int32.ofInt (l2))), (3, .int (Int32.ofInt (l3)))] [.int (Int32.ofInt (s0)), .int (Int32.ofInt (s1)), .ref (G.1 + 54)] cs := by
  unfold wX11_putText_84 at hw
  refine z_bipush (v := Int32.ofInt 116) dX11_putText_84 (by decide) ?_
  refine z_bipush (v := Int32.ofInt 59) dX11_putText_86 (by decide) ?_
  obtain ⟨q1, hw⟩ := hw
  obtain ⟨q2, hw⟩ := hw
  have hX := lX11_putWord 1 (Nat.le_refl _) hJ hT hW q1 q2 ⟨by decide, by decide⟩ ⟨by decide, by decide⟩ hw
  refine z_callV (As := [_, _, _, _]) eX11_putWord sX11_putWord lX11_267 rfl dX11_putText_88 (hW.1 _ _ hT.1) hX (Nat.le_trans (by decide) hd) rfl (Nat.le_of_ble_eq_true rfl) (fun r cs hp => ?_)
  obtain ⟨r3, S4, rfl, hw, hW⟩ := hp
  refine z_st (st' := []) rfl ?_
  refine z_goto (tgt := 136) dX11_putText_91 (by decide) ?_
  refine z_loc (L' := [(0, .ref (G.1 + 54)), (1, .int (Int32.ofInt (l1))), (2, .int (Int32.ofInt (l2))), (3, .int (Int32.ofInt (l3)))]) (List.forall_mem_cons.mpr ⟨rfl, (List.forall_mem_cons.mpr ⟨rfl, (List.forall_mem_cons.mpr ⟨rfl, (List.forall_mem_cons.mpr ⟨rfl, (fun _ h => nomatch h)⟩)⟩)⟩)⟩) ?_
  exact bX11_putText_136 hd hJ hT hW hP hB2 hw
def wX11_putText_67 (l1 l2 l3 l4 : Int) (S : St) (K : Int → St → Prop) (B2 : Int → Int → Int → St → Prop) : Prop := (rng (l4) ∧ ((¬ l4 = 60 → wX11_putText_84 (l1) (l2) (l3) (103) (38) S K B2) ∧ ((¬ (¬ l4 = 60)) → wX11_putText_84 (l1) (l2) (l3) (108) (38) S K B2)))
set_option maxRecDepth 100000 in
set_option maxHeartbeats 4000000 in
theorem bX11_putText_67 {G : xG} {sh : Nat → Option Sh} {J : St → List va_E → Prop} {d : Nat} {Post : xP} {l1 l2 l3 l4 : Int} {S : St} {cs : List va_E} {K : Int → St → Prop} {B2 : Int → Int → Int → St → Prop} (hd : 2 ≤ d) (hJ : Stb sh J) (hT : isM sh) (hW : Wd G sh mT J S cs) (hP : ∀ (v : Int) (S : St) (cs : List va_E), K v S → Wd G sh mT J S cs → Post (none) cs) (hB2 : ∀ (l1 : Int) (l2 : Int) (l3 : Int) (S : St) (cs : List va_E), B2 l1 l2 l3 S → Wd G sh mT J S cs → Z (RX11, cX11_putText, 5, none, false) G d Post 2 [(0, .ref (G.1 + 54)), (1, .int (Int32.ofInt (l1))), (2, .int (Int32.ofInt (l2))), (3, .int (Int32.ofInt (l3)))] [] cs) (hw : wX11_putText_67 l1 l2 l3 l4 S K B2) : Z (RX11, cX11_putText, 5, none, false) G d Post 67 [(0, .ref (G.1 + 54)), (1, .int (Int32.ofInt (l1))), (2, .int (Int32.ofInt (l2))), (3, .int (Int32.ofInt (l3))), (4, .int (Int32.ofInt (l4)))] [] cs := by
  unfold wX11_putText_67 at hw
  refine z_aload_n dX11_putText_67 rfl rfl ?_
  refine z_bipush (v := Int32.ofInt 38) dX11_putText_68 (by decide) ?_
  refine z_iload dX11_putText_70 rfl ?_
  refine z_bipush (v := Int32.ofInt 60) dX11_putText_72 (by decide) ?_
  obtain ⟨q2, hw⟩ := hw
  refine i_icmp_ne (tgt := 82) dX11_putText_74 (by decide) q2 ⟨by decide, by decide⟩ (fun h1 => ?_) (fun h1 => ?_)
  · have hw := hw.1 h1
    refine z_bipush (v := Int32.ofInt 103) dX11_putText_82 (by decide) ?_
    refine z_loc (L' := [(0, .ref (G.1 + 54)), (1, .int (Int32.ofInt (l1))), (2, .int (Int32.ofInt (l2))), (3, .int (Int32.ofInt (l3)))]) (List.forall_mem_cons.mpr ⟨rfl, (List.forall_mem_cons.mpr ⟨rfl, (List.forall_mem_cons.mpr ⟨rfl, (List.forall_mem_cons.mpr ⟨rfl, (fun _ h => nomatch h)⟩)⟩)⟩)⟩) ?_
    exact bX11_putText_84 hd hJ hT hW hP hB2 hw
  · have hw := hw.2 h1
    refine z_bipush (v := Int32.ofInt 108) dX11_putText_77 (by decide) ?_
    refine z_goto (tgt := 84) dX11_putText_79 (by decide) ?_
    refine z_loc (L' := [(0, .ref (G.1 + 54)), (1, .int (Int32.ofInt (l1))), (2, .int (Int32.ofInt (l2))), (3, .int (Int32.ofInt (l3)))]) (List.forall_mem_cons.mpr ⟨rfl, (List.forall_mem_cons.mpr ⟨rfl, (List.forall_mem_cons.mpr ⟨rfl, (List.forall_mem_cons.mpr ⟨rfl, (fun _ h => nomatch h)⟩)⟩)⟩)⟩) ?_
    exact bX11_putText_84 hd hJ hT hW hP hB2 hw
def wX11_putText_130 (l1 l2 l3 l4 : Int) (S : St) (K : Int → St → Prop) (B2 : Int → Int → Int → St → Prop) : Prop := (rng (l4) ∧ (wX11_put (l4) S (fun r2 S3 => wX11_putText_136 (l1) (l2) (l3) S3 K B2)))
set_option maxRecDepth 100000 in
set_option maxHeartbeats 4000000 in
theorem bX11_putText_130 {G : xG} {sh : Nat → Option Sh} {J : St → List va_E → Prop} {d : Nat} {Post : xP} {l1 l2 l3 l4 : Int} {S : St} {cs : List va_E} {K : Int → St → Prop} {B2 : Int → Int → Int → St → Prop} (hd : 2 ≤ d) (hJ : Stb sh J) (hT : isM sh) (hW : Wd G sh mT J S cs) (hP : ∀ (v : Int) (S : St) (cs : List va_E), K v S → Wd G sh mT J S cs → Post (none) cs) (hB2 : ∀ (l1 : Int) (l2 : Int) (l3 : Int) (S : St) (cs : List va_E), B2 l1 l2 l3 S → Wd G sh mT J S cs → Z (RX11, cX11_putText, 5, none, false) G d Post 2 [(0, .ref (G.1 + 54)), (1, .int (Int32.ofInt (l1))), (2, .int (Int32.ofInt (l2))), (3, .int (Int32.ofInt (l3)))] [] cs) (hw : wX11_putText_130 l1 l2 l3 l4 S K B2) : Z (RX11, cX11_putText, 5, none, false) G d Post 130 [(0, .ref (G.1 + 54)), (1, .int (Int32.ofInt (l1))), (2, .int (Int32.ofInt (l2))), (3, .int (Int32.ofInt (l3))), (4, .int (Int32.ofInt (l4)))] [] cs := by
  unfold wX11_putText_130 at hw
  refine z_aload_n dX11_putText_130 rfl rfl ?_
  refine z_iload dX11_putText_131 rfl ?_
  obtain ⟨q1, hw⟩ := hw
  have hX := lX11_put 0 (Nat.le_refl _) hJ hT hW q1 hw
  refine z_callV (As := [_]) eX11_put sX11_put lX11_260 rfl dX11_putText_133 (hW.1 _ _ hT.1) hX (Nat.le_trans (by decide) hd) rfl (Nat.le_of_ble_eq_true rfl) (fun r cs hp => ?_)
  obtain ⟨r2, S3, rfl, hw, hW⟩ := hp
  refine z_st (st' := []) rfl ?_
  refine z_loc (L' := [(0, .ref (G.1 + 54)), (1, .int (Int32.ofInt (l1))), (2, .int (Int32.ofInt (l2))), (3, .int (Int32.ofInt (l3)))]) (List.forall_mem_cons.mpr ⟨rfl, (List.forall_mem_cons.mpr ⟨rfl, (List.forall_mem_cons.mpr ⟨rfl, (List.forall_mem_cons.mpr ⟨rfl, (fun _ h => nomatch h)⟩)⟩)⟩)⟩) ?_
  exact bX11_putText_136 hd hJ hT hW hP hB2 hw
def wX11_putText_2' (l1 l2 l3 : Int) (S : St) (K : Int → St → Prop) (B2 : Int → Int → Int → St → Prop) : Prop := ((0 : Int) ≤ l1 ∧ l1 < (360 : Int) ∧ (iv (-2147483648) 2147483647 (S.2 69 (l1)) → (rng (l3) ∧ ((S.2 69 (l1) ≤ l3 → K 0 S) ∧ ((¬ (S.2 69 (l1) ≤ l3)) → ((0 : Int) ≤ ((20 * l1) + l3) ∧ ((20 * l1) + l3) < (7200 : Int) ∧ (iv (-2147483648) 2147483647 (S.2 70 (((20 * l1) + l3))) → ((¬ S.2 70 (((20 * l1) + l3)) = 38 → ((S.2 70 (((20 * l1) + l3)) = 60 → wX11_putText_67 (l1) (l2) (l3) (S.2 70 (((20 * l1) + l3))) S K B2) ∧ ((¬ (S.2 70 (((20 * l1) + l3)) = 60)) → ((¬ S.2 70 (((20 * l1) + l3)) = 62 → ((¬ S.2 70 (((20 * l1) + l3)) = 34 → wX11_putText_130 (l1) (l2) (l3) (S.2 70 (((20 * l1) + l3))) S K B2) ∧ ((¬ (¬ S.2 70 (((20 * l1) + l3)) = 34)) → (rng (l2) ∧ ((l2 = 0 → wX11_putText_130 (l1) (l2) (l3) (S.2 70 (((20 * l1) + l3))) S K B2) ∧ ((¬ (l2 = 0)) → (wX11_putWord (38) (113) (117) (111) S (fun r13 S14 => (wX11_putWord (116) (59) (0) (0) S14 (fun r15 S16 => wX11_putText_136 (l1) (l2) (l3) S16 K B2)))))))))) ∧ ((¬ (¬ S.2 70 (((20 * l1) + l3)) = 62)) → wX11_putText_67 (l1) (l2) (l3) (S.2 70 (((20 * l1) + l3))) S K B2))))) ∧ ((¬ (¬ S.2 70 (((20 * l1) + l3)) = 38)) → (wX11_putWord (38) (97) (109) (112) S (fun r17 S18 => (wX11_put (59) S18 (fun r19 S20 => wX11_putText_136 (l1) (l2) (l3) S20 K B2)))))))))))))
set_option maxRecDepth 100000 in
set_option maxHeartbeats 4000000 in
theorem bX11_putText_2' {G : xG} {sh : Nat → Option Sh} {J : St → List va_E → Prop} {d : Nat} {Post : xP} {l1 l2 l3 : Int} {S : St} {cs : List va_E} {K : Int → St → Prop} {B2 : Int → Int → Int → St → Prop} (hd : 2 ≤ d) (hJ : Stb sh J) (hT : isM sh) (hW : Wd G sh mT J S cs) (hP : ∀ (v : Int) (S : St) (cs : List va_E), K v S → Wd G sh mT J S cs → Post (none) cs) (hB2 : ∀ (l1 : Int) (l2 : Int) (l3 : Int) (S : St) (cs : List va_E), B2 l1 l2 l3 S → Wd G sh mT J S cs → Z (RX11, cX11_putText, 5, none, false) G d Post 2 [(0, .ref (G.1 + 54)), (1, .int (Int32.ofInt (l1))), (2, .int (Int32.ofInt (l2))), (3, .int (Int32.ofInt (l3)))] [] cs) (hw : wX11_putText_2' l1 l2 l3 S K B2) : Z (RX11, cX11_putText, 5, none, false) G d Post 2 [(0, .ref (G.1 + 54)), (1, .int (Int32.ofInt (l1))), (2, .int (Int32.ofInt (l2))), (3, .int (Int32.ofInt (l3)))] [] cs := by
  unfold wX11_putText_2' at hw
  refine z_iload_n dX11_putText_2 rfl rfl ?_
  refine z_aload_n dX11_putText_3 rfl rfl ?_
  refine g_getR hW hT.1 mr16 kX11 fX11_53 dX11_putText_4 ?_
  refine z_iload_n dX11_putText_7 rfl rfl ?_
  obtain ⟨q1a, q1b, hw⟩ := hw
  have q2 : iv (-2147483648) 2147483647 (S.2 69 (l1)) := mA69 hW _
  have hw := hw q2
  refine g_iald hW (ma69 hT) q1a q1b (by decide) dX11_putText_8 ?_
  obtain ⟨q4, hw⟩ := hw
  refine i_icmp_ge (tgt := 142) dX11_putText_9 (by decide) q4 (rngq q2 (by decide) (by decide)) (fun h3 => ?_) (fun h3 => ?_)
  · have hw := hw.1 h3
    exact z_return dX11_putText_142 rfl (hP 0 _ _ hw hW)
  · have hw := hw.2 h3
    refine z_aload_n dX11_putText_12 rfl rfl ?_
    refine g_getR hW hT.1 mr17 kX11 fX11_56 dX11_putText_13 ?_
    refine z_bipush (v := Int32.ofInt 20) dX11_putText_16 (by decide) ?_
    refine z_iload_n dX11_putText_18 rfl rfl ?_
    refine i_imul dX11_putText_19 ?_
    refine z_iload_n dX11_putText_20 rfl rfl ?_
    refine i_iadd dX11_putText_21 ?_
    obtain ⟨q5a, q5b, hw⟩ := hw
    have q6 : iv (-2147483648) 2147483647 (S.2 70 (((20 * l1) + l3))) := mA70 hW _
    have hw := hw q6
    refine g_iald hW (ma70 hT) q5a q5b (by decide) dX11_putText_22 ?_
    refine z_istore dX11_putText_23 (by decide) ?_
    refine z_iload dX11_putText_25 rfl ?_
    refine z_bipush (v := Int32.ofInt 38) dX11_putText_27 (by decide) ?_
    refine i_icmp_ne (tgt := 53) dX11_putText_29 (by decide) (rngq q6 (by decide) (by decide)) ⟨by decide, by decide⟩ (fun h7 => ?_) (fun h7 => ?_)
    · have hw := hw.1 h7
      refine z_iload dX11_putText_53 rfl ?_
      refine z_bipush (v := Int32.ofInt 60) dX11_putText_55 (by decide) ?_
      refine i_icmp_eq (tgt := 67) dX11_putText_57 (by decide) (rngq q6 (by decide) (by decide)) ⟨by decide, by decide⟩ (fun h8 => ?_) (fun h8 => ?_)
      · have hw := hw.1 h8
        refine z_loc (L' := [(0, .ref (G.1 + 54)), (1, .int (Int32.ofInt (l1))), (2, .int (Int32.ofInt (l2))), (3, .int (Int32.ofInt (l3))), (4, .int (Int32.ofInt (S.2 70 (((20 * l1) + l3)))))]) (List.forall_mem_cons.mpr ⟨rfl, (List.forall_mem_cons.mpr ⟨rfl, (List.forall_mem_cons.mpr ⟨rfl, (List.forall_mem_cons.mpr ⟨rfl, (List.forall_mem_cons.mpr ⟨rfl, (fun _ h => nomatch h)⟩)⟩)⟩)⟩)⟩) ?_
        exact bX11_putText_67 hd hJ hT hW hP hB2 hw
      · have hw := hw.2 h8
        refine z_iload dX11_putText_60 rfl ?_
        refine z_bipush (v := Int32.ofInt 62) dX11_putText_62 (by decide) ?_
        refine i_icmp_ne (tgt := 94) dX11_putText_64 (by decide) (rngq q6 (by decide) (by decide)) ⟨by decide, by decide⟩ (fun h9 => ?_) (fun h9 => ?_)
        · have hw := hw.1 h9
          refine z_iload dX11_putText_94 rfl ?_
          refine z_bipush (v := Int32.ofInt 34) dX11_putText_96 (by decide) ?_
          refine i_icmp_ne (tgt := 130) dX11_putText_98 (by decide) (rngq q6 (by decide) (by decide)) ⟨by decide, by decide⟩ (fun h10 => ?_) (fun h10 => ?_)
          · have hw := hw.1 h10
            refine z_loc (L' := [(0, .ref (G.1 + 54)), (1, .int (Int32.ofInt (l1))), (2, .int (Int32.ofInt (l2))), (3, .int (Int32.ofInt (l3))), (4, .int (Int32.ofInt (S.2 70 (((20 * l1) + l3)))))]) (List.forall_mem_cons.mpr ⟨rfl, (List.forall_mem_cons.mpr ⟨rfl, (List.forall_mem_cons.mpr ⟨rfl, (List.forall_mem_cons.mpr ⟨rfl, (List.forall_mem_cons.mpr ⟨rfl, (fun _ h => nomatch h)⟩)⟩)⟩)⟩)⟩) ?_
            exact bX11_putText_130 hd hJ hT hW hP hB2 hw
          · have hw := hw.2 h10
            refine z_iload_n dX11_putText_101 rfl rfl ?_
            obtain ⟨q12, hw⟩ := hw
            refine i_if_eq (tgt := 130) dX11_putText_102 (by decide) q12 (fun h11 => ?_) (fun h11 => ?_)
            · have hw := hw.1 h11
              refine z_loc (L' := [(0, .ref (G.1 + 54)), (1, .int (Int32.ofInt (l1))), (2, .int (Int32.ofInt (l2))), (3, .int (Int32.ofInt (l3))), (4, .int (Int32.ofInt (S.2 70 (((20 * l1) + l3)))))]) (List.forall_mem_cons.mpr ⟨rfl, (List.forall_mem_cons.mpr ⟨rfl, (List.forall_mem_cons.mpr ⟨rfl, (List.forall_mem_cons.mpr ⟨rfl, (List.forall_mem_cons.mpr ⟨rfl, (fun _ h => nomatch h)⟩)⟩)⟩)⟩)⟩) ?_
              exact bX11_putText_130 hd hJ hT hW hP hB2 hw
            · have hw := hw.2 h11
              refine z_aload_n dX11_putText_105 rfl rfl ?_
              refine z_bipush (v := Int32.ofInt 38) dX11_putText_106 (by decide) ?_
              refine z_bipush (v := Int32.ofInt 113) dX11_putText_108 (by decide) ?_
              refine z_bipush (v := Int32.ofInt 117) dX11_putText_110 (by decide) ?_
              refine z_bipush (v := Int32.ofInt 111) dX11_putText_112 (by decide) ?_
              have hX := lX11_putWord 1 (Nat.le_refl _) hJ hT hW ⟨by decide, by decide⟩ ⟨by decide, by decide⟩ ⟨by decide, by decide⟩ ⟨by decide, by decide⟩ hw
              refine z_callV (As := [_, _, _, _]) eX11_putWord sX11_putWord lX11_267 rfl dX11_putText_114 (hW.1 _ _ hT.1) hX (Nat.le_trans (by decide) hd) rfl (Nat.le_of_ble_eq_true rfl) (fun r cs hp => ?_)
              obtain ⟨r13, S14, rfl, hw, hW⟩ := hp
              refine z_st (st' := []) rfl ?_
              refine z_aload_n dX11_putText_117 rfl rfl ?_
              refine z_bipush (v := Int32.ofInt 116) dX11_putText_118 (by decide) ?_
              refine z_bipush (v := Int32.ofInt 59) dX11_putText_120 (by decide) ?_
              refine z_iconst (v := Int32.ofInt 0) dX11_putText_122 rfl ?_
              refine z_iconst (v := Int32.ofInt 0) dX11_putText_123 rfl ?_
              have hX := lX11_putWord 1 (Nat.le_refl _) hJ hT hW ⟨by decide, by decide⟩ ⟨by decide, by decide⟩ ⟨by decide, by decide⟩ ⟨by decide, by decide⟩ hw
              refine z_callV (As := [_, _, _, _]) eX11_putWord sX11_putWord lX11_267 rfl dX11_putText_124 (hW.1 _ _ hT.1) hX (Nat.le_trans (by decide) hd) rfl (Nat.le_of_ble_eq_true rfl) (fun r cs hp => ?_)
              obtain ⟨r15, S16, rfl, hw, hW⟩ := hp
              refine z_st (st' := []) rfl ?_
              refine z_goto (tgt := 136) dX11_putText_127 (by decide) ?_
              refine z_loc (L' := [(0, .ref (G.1 + 54)), (1, .int (Int32.ofInt (l1))), (2, .int (Int32.ofInt (l2))), (3, .int (Int32.ofInt (l3)))]) (List.forall_mem_cons.mpr ⟨rfl, (List.forall_mem_cons.mpr ⟨rfl, (List.forall_mem_cons.mpr ⟨rfl, (List.forall_mem_cons.mpr ⟨rfl, (fun _ h => nomatch h)⟩)⟩)⟩)⟩) ?_
              exact bX11_putText_136 hd hJ hT hW hP hB2 hw
        · have hw := hw.2 h9
          refine z_loc (L' := [(0, .ref (G.1 + 54)), (1, .int (Int32.ofInt (l1))), (2, .int (Int32.ofInt (l2))), (3, .int (Int32.ofInt (l3))), (4, .int (Int32.ofInt (S.2 70 (((20 * l1) + l3)))))]) (List.forall_mem_cons.mpr ⟨rfl, (List.forall_mem_cons.mpr ⟨rfl, (List.forall_mem_cons.mpr ⟨rfl, (List.forall_mem_cons.mpr ⟨rfl, (List.forall_mem_cons.mpr ⟨rfl, (fun _ h => nomatch h)⟩)⟩)⟩)⟩)⟩) ?_
          exact bX11_putText_67 hd hJ hT hW hP hB2 hw
    · have hw := hw.2 h7
      refine z_aload_n dX11_putText_32 rfl rfl ?_
      refine z_bipush (v := Int32.ofInt 38) dX11_putText_33 (by decide) ?_
      refine z_bipush (v := Int32.ofInt 97) dX11_putText_35 (by decide) ?_
      refine z_bipush (v := Int32.ofInt 109) dX11_putText_37 (by decide) ?_
      refine z_bipush (v := Int32.ofInt 112) dX11_putText_39 (by decide) ?_
      have hX := lX11_putWord 1 (Nat.le_refl _) hJ hT hW ⟨by decide, by decide⟩ ⟨by decide, by decide⟩ ⟨by decide, by decide⟩ ⟨by decide, by decide⟩ hw
      refine z_callV (As := [_, _, _, _]) eX11_putWord sX11_putWord lX11_267 rfl dX11_putText_41 (hW.1 _ _ hT.1) hX (Nat.le_trans (by decide) hd) rfl (Nat.le_of_ble_eq_true rfl) (fun r cs hp => ?_)
      obtain ⟨r17, S18, rfl, hw, hW⟩ := hp
      refine z_st (st' := []) rfl ?_
      refine z_aload_n dX11_putText_44 rfl rfl ?_
      refine z_bipush (v := Int32.ofInt 59) dX11_putText_45 (by decide) ?_
      have hX := lX11_put 0 (Nat.le_refl _) hJ hT hW ⟨by decide, by decide⟩ hw
      refine z_callV (As := [_]) eX11_put sX11_put lX11_260 rfl dX11_putText_47 (hW.1 _ _ hT.1) hX (Nat.le_trans (by decide) hd) rfl (Nat.le_of_ble_eq_true rfl) (fun r cs hp => ?_)
      obtain ⟨r19, S20, rfl, hw, hW⟩ := hp
      refine z_st (st' := []) rfl ?_
      refine z_goto (tgt := 136) dX11_putText_50 (by decide) ?_
      refine z_loc (L' := [(0, .ref (G.1 + 54)), (1, .int (Int32.ofInt (l1))), (2, .int (Int32.ofInt (l2))), (3, .int (Int32.ofInt (l3)))]) (List.forall_mem_cons.mpr ⟨rfl, (List.forall_mem_cons.mpr ⟨rfl, (List.forall_mem_cons.mpr ⟨rfl, (List.forall_mem_cons.mpr ⟨rfl, (fun _ h => nomatch h)⟩)⟩)⟩)⟩) ?_
      exact bX11_putText_136 hd hJ hT hW hP hB2 hw
def wX11_putText_2 (l1 l2 l3 : Int) (S : St) (K : Int → St → Prop) : Prop := ∃ (Iv : Int → Int → Int → St → Prop) (mu : Int → Int → Int → St → Nat), Iv l1 l2 l3 S ∧ ∀ (l1 l2 l3 : Int) (S : St), Iv l1 l2 l3 S → wX11_putText_2' l1 l2 l3 S K  (fun ml1 ml2 ml3 T => Iv ml1 ml2 ml3 T ∧ mu ml1 ml2 ml3 T < mu l1 l2 l3 S)
set_option maxRecDepth 100000 in
set_option maxHeartbeats 4000000 in
theorem bX11_putText_2 {G : xG} {sh : Nat → Option Sh} {J : St → List va_E → Prop} {d : Nat} {Post : xP} {l1 l2 l3 : Int} {S : St} {cs : List va_E} {K : Int → St → Prop} (hd : 2 ≤ d) (hJ : Stb sh J) (hT : isM sh) (hW : Wd G sh mT J S cs) (hP : ∀ (v : Int) (S : St) (cs : List va_E), K v S → Wd G sh mT J S cs → Post (none) cs)  (hw : wX11_putText_2 l1 l2 l3 S K ) : Z (RX11, cX11_putText, 5, none, false) G d Post 2 [(0, .ref (G.1 + 54)), (1, .int (Int32.ofInt (l1))), (2, .int (Int32.ofInt (l2))), (3, .int (Int32.ofInt (l3)))] [] cs := by
  unfold wX11_putText_2 at hw
  obtain ⟨Iv, mu, h0, hs⟩ := hw
  have key : ∀ (n : Nat) (l1 l2 l3 : Int) (S : St) (cs : List va_E), mu l1 l2 l3 S < n → Iv l1 l2 l3 S → Wd G sh mT J S cs → Z (RX11, cX11_putText, 5, none, false) G d Post 2 [(0, .ref (G.1 + 54)), (1, .int (Int32.ofInt (l1))), (2, .int (Int32.ofInt (l2))), (3, .int (Int32.ofInt (l3)))] [] cs := by
    intro n
    induction n with
    | zero => intro l1 l2 l3 S cs hn; exact absurd hn (Nat.not_lt_zero _)
    | succ n ih =>
      intro l1 l2 l3 S cs hn hI hW
      exact bX11_putText_2' hd hJ hT hW hP  (fun l1 l2 l3 S cs hb hW => ih l1 l2 l3 S cs (Nat.lt_of_lt_of_le hb.2 (Nat.le_of_lt_succ hn)) hb.1 hW) (hs l1 l2 l3 S hI)
  exact key _ _ _ _ _ _ (Nat.lt_succ_self _) h0 hW
def wX11_putText (a1 a2 : Int) (S : St) (K : Int → St → Prop) : Prop := rng a1 → rng a2 → wX11_putText_2 (a1) (a2) (0) S K
set_option maxRecDepth 100000 in
set_option maxHeartbeats 4000000 in
theorem lX11_putText {G : xG} {sh : Nat → Option Sh} {J : St → List va_E → Prop} {a1 a2 : Int} {S : St} {cs : List va_E} {K : Int → St → Prop} (d : Nat) (hd : 2 ≤ d) (hJ : Stb sh J) (hT : isM sh) (hW : Wd G sh mT J S cs) (g1 : rng a1) (g2 : rng a2) (hw : wX11_putText a1 a2 S K) : X G yX11_putText cX11_putText 5 none d [.ref (G.1 + 54), .int (Int32.ofInt a1), .int (Int32.ofInt a2)] cs (qV G sh mT J K) := by
  refine X.of false (by decide +kernel) (by decide) (Nat.le_of_ble_eq_true rfl) ?_
  show Z (RX11, cX11_putText, 5, none, false) G d _ 0 [(0, .ref (G.1 + 54)), (1, .int (Int32.ofInt a1)), (2, .int (Int32.ofInt a2))] [] cs
  have hP : ∀ (v : Int) (S : St) (cs : List va_E), K v S → Wd G sh mT J S cs → qV G sh mT J K (none) cs := fun v S cs a b => ⟨v, S, rfl, a, b⟩
  unfold wX11_putText at hw
  have hw := hw g1 g2
  refine z_iconst (v := Int32.ofInt 0) dX11_putText_0 rfl ?_
  refine z_istore_n dX11_putText_1 rfl (by decide) ?_
  refine z_loc (L' := [(0, .ref (G.1 + 54)), (1, .int (Int32.ofInt (a1))), (2, .int (Int32.ofInt (a2))), (3, .int (Int32.ofInt (0)))]) (List.forall_mem_cons.mpr ⟨rfl, (List.forall_mem_cons.mpr ⟨rfl, (List.forall_mem_cons.mpr ⟨rfl, (List.forall_mem_cons.mpr ⟨rfl, (fun _ h => nomatch h)⟩)⟩)⟩)⟩) ?_
  exact bX11_putText_2 hd hJ hT hW hP  hw

def wX11_putValue (a1 a2 a3 a4 : Int) (S : St) (K : Int → St → Prop) : Prop := rng a1 → rng a2 → rng a3 → rng a4 → ((0 : Int) ≤ ((4 * a3) + a2) ∧ ((4 * a3) + a2) < (24 : Int) ∧ (iv 0 3 (S.2 59 (((4 * a3) + a2))) → ((¬ S.2 59 (((4 * a3) + a2)) = 0 → (rng (((4 * a1) + a2)) ∧ (wX11_putText (((4 * a1) + a2)) (a4) S (fun r5 S6 => K 0 S6)))) ∧ ((¬ (¬ S.2 59 (((4 * a3) + a2)) = 0)) → ((0 : Int) ≤ ((4 * a1) + a2) ∧ ((4 * a1) + a2) < (360 : Int) ∧ (iv (-2147483648) 2147483647 (S.2 69 (((4 * a1) + a2))) → (wX11_putNumber (S.2 69 (((4 * a1) + a2))) S (fun r9 S10 => K 0 S10))))))))
set_option maxRecDepth 100000 in
set_option maxHeartbeats 4000000 in
theorem lX11_putValue {G : xG} {sh : Nat → Option Sh} {J : St → List va_E → Prop} {a1 a2 a3 a4 : Int} {S : St} {cs : List va_E} {K : Int → St → Prop} (d : Nat) (hd : 3 ≤ d) (hJ : Stb sh J) (hT : isM sh) (hW : Wd G sh mT J S cs) (g1 : rng a1) (g2 : rng a2) (g3 : rng a3) (g4 : rng a4) (hw : wX11_putValue a1 a2 a3 a4 S K) : X G yX11_putValue cX11_putValue 6 none d [.ref (G.1 + 54), .int (Int32.ofInt a1), .int (Int32.ofInt a2), .int (Int32.ofInt a3), .int (Int32.ofInt a4)] cs (qV G sh mT J K) := by
  refine X.of false (by decide +kernel) (by decide) (Nat.le_of_ble_eq_true rfl) ?_
  show Z (RX11, cX11_putValue, 6, none, false) G d _ 0 [(0, .ref (G.1 + 54)), (1, .int (Int32.ofInt a1)), (2, .int (Int32.ofInt a2)), (3, .int (Int32.ofInt a3)), (4, .int (Int32.ofInt a4))] [] cs
  have hP : ∀ (v : Int) (S : St) (cs : List va_E), K v S → Wd G sh mT J S cs → qV G sh mT J K (none) cs := fun v S cs a b => ⟨v, S, rfl, a, b⟩
  unfold wX11_putValue at hw
  have hw := hw g1 g2 g3 g4
  refine z_iconst (v := Int32.ofInt 4) dX11_putValue_0 rfl ?_
  refine z_iload_n dX11_putValue_1 rfl rfl ?_
  refine i_imul dX11_putValue_2 ?_
  refine z_iload_n dX11_putValue_3 rfl rfl ?_
  refine i_iadd dX11_putValue_4 ?_
  refine z_istore dX11_putValue_5 (by decide) ?_
  refine z_aload_n dX11_putValue_7 rfl rfl ?_
  refine g_getR hW hT.1 mr6 kX11 fX11_22 dX11_putValue_8 ?_
  refine z_iconst (v := Int32.ofInt 4) dX11_putValue_11 rfl ?_
  refine z_iload_n dX11_putValue_12 rfl rfl ?_
  refine i_imul dX11_putValue_13 ?_
  refine z_iload_n dX11_putValue_14 rfl rfl ?_
  refine i_iadd dX11_putValue_15 ?_
  obtain ⟨q1a, q1b, hw⟩ := hw
  have q2 : iv 0 3 (S.2 59 (((4 * a3) + a2))) := mA59 hW _
  have hw := hw q2
  refine g_iald hW (ma59 hT) q1a q1b (by decide) dX11_putValue_16 ?_
  refine i_if_ne (tgt := 34) dX11_putValue_17 (by decide) (rngq q2 (by decide) (by decide)) (fun h3 => ?_) (fun h3 => ?_)
  · have hw := hw.1 h3
    refine z_aload_n dX11_putValue_34 rfl rfl ?_
    refine z_iload dX11_putValue_35 rfl ?_
    refine z_iload dX11_putValue_37 rfl ?_
    obtain ⟨q4, hw⟩ := hw
    have hX := lX11_putText 2 (Nat.le_refl _) hJ hT hW q4 g4 hw
    refine z_callV (As := [_, _]) eX11_putText sX11_putText lX11_274 rfl dX11_putValue_39 (hW.1 _ _ hT.1) hX (Nat.le_trans (by decide) hd) rfl (Nat.le_of_ble_eq_true rfl) (fun r cs hp => ?_)
    obtain ⟨r5, S6, rfl, hw, hW⟩ := hp
    refine z_st (st' := []) rfl ?_
    exact z_return dX11_putValue_42 rfl (hP 0 _ _ hw hW)
  · have hw := hw.2 h3
    refine z_aload_n dX11_putValue_20 rfl rfl ?_
    refine z_aload_n dX11_putValue_21 rfl rfl ?_
    refine g_getR hW hT.1 mr16 kX11 fX11_53 dX11_putValue_22 ?_
    refine z_iload dX11_putValue_25 rfl ?_
    obtain ⟨q7a, q7b, hw⟩ := hw
    have q8 : iv (-2147483648) 2147483647 (S.2 69 (((4 * a1) + a2))) := mA69 hW _
    have hw := hw q8
    refine g_iald hW (ma69 hT) q7a q7b (by decide) dX11_putValue_27 ?_
    have hX := lX11_putNumber 1 (Nat.le_refl _) hJ hT hW (rngq q8 (by decide) (by decide)) hw
    refine z_callV (As := [_]) eX11_putNumber sX11_putNumber lX11_271 rfl dX11_putValue_28 (hW.1 _ _ hT.1) hX (Nat.le_trans (by decide) hd) rfl (Nat.le_of_ble_eq_true rfl) (fun r cs hp => ?_)
    obtain ⟨r9, S10, rfl, hw, hW⟩ := hp
    refine z_st (st' := []) rfl ?_
    refine z_goto (tgt := 42) dX11_putValue_31 (by decide) ?_
    exact z_return dX11_putValue_42 rfl (hP 0 _ _ hw hW)

def wX11_begin_232 (l1 l3 l6 l7 l8 : Int) (S : St) (K : Int → St → Prop) (B143 : Int → Int → Int → Int → Int → St → Prop) : Prop := B143 (l1) (l3) (l6) (l7) ((l8 + 1)) S
set_option maxRecDepth 100000 in
set_option maxHeartbeats 4000000 in
theorem bX11_begin_232 {G : xG} {sh : Nat → Option Sh} {J : St → List va_E → Prop} {d : Nat} {Post : xP} {l1 l3 l6 l7 l8 : Int} {S : St} {cs : List va_E} {K : Int → St → Prop} {B143 : Int → Int → Int → Int → Int → St → Prop} (hd : 4 ≤ d) (hJ : Stb sh J) (hT : isM sh) (hW : Wd G sh mT J S cs) (hP : ∀ (v : Int) (S : St) (cs : List va_E), K v S → Wd G sh mT J S cs → Post (none) cs) (hB143 : ∀ (l1 : Int) (l3 : Int) (l6 : Int) (l7 : Int) (l8 : Int) (S : St) (cs : List va_E), B143 l1 l3 l6 l7 l8 S → Wd G sh mT J S cs → Z (RX11, cX11_begin, 9, none, false) G d Post 143 [(0, .ref (G.1 + 54)), (1, .int (Int32.ofInt (l1))), (3, .int (Int32.ofInt (l3))), (6, .int (Int32.ofInt (l6))), (7, .int (Int32.ofInt (l7))), (8, .int (Int32.ofInt (l8)))] [] cs) (hw : wX11_begin_232 l1 l3 l6 l7 l8 S K B143) : Z (RX11, cX11_begin, 9, none, false) G d Post 232 [(0, .ref (G.1 + 54)), (1, .int (Int32.ofInt (l1))), (3, .int (Int32.ofInt (l3))), (6, .int (Int32.ofInt (l6))), (7, .int (Int32.ofInt (l7))), (8, .int (Int32.ofInt (l8)))] [] cs := by
  unfold wX11_begin_232 at hw
  refine i_iinc (l := l8) dX11_begin_232 rfl (by decide) ?_
  refine z_goto (tgt := 143) dX11_begin_235 (by decide) ?_
  refine z_loc (L' := [(0, .ref (G.1 + 54)), (1, .int (Int32.ofInt (l1))), (3, .int (Int32.ofInt (l3))), (6, .int (Int32.ofInt (l6))), (7, .int (Int32.ofInt (l7))), (8, .int (Int32.ofInt ((l8 + 1))))]) (List.forall_mem_cons.mpr ⟨rfl, (List.forall_mem_cons.mpr ⟨rfl, (List.forall_mem_cons.mpr ⟨rfl, (List.forall_mem_cons.mpr ⟨rfl, (List.forall_mem_cons.mpr ⟨rfl, (List.forall_mem_cons.mpr ⟨rfl, (fun _ h => nomatch h)⟩)⟩)⟩)⟩)⟩)⟩) ?_
  exact hB143 _ _ _ _ _ _ _ hw hW
def wX11_begin_143' (l1 l3 l6 l7 l8 : Int) (S : St) (K : Int → St → Prop) (B143 : Int → Int → Int → Int → Int → St → Prop) : Prop := ((0 : Int) ≤ l6 ∧ l6 < (6 : Int) ∧ (iv 0 4 (S.2 56 (l6)) → (rng (l8) ∧ ((S.2 56 (l6) ≤ l8 → (rng (l1) ∧ (rng (l6) ∧ (wX11_hasContent (l1) (l6) S (fun r7 S8 => (rng (r7) ∧ ((¬ r7 = 0 → (wX11_put (62) S8 (fun r11 S12 => (iv 0 20 (S12.1 54 32) → ((0 : Int) ≤ S12.1 54 32 ∧ S12.1 54 32 < (24 : Int) ∧ (iv 0 29 (l1) ∧ (∀ S15, S15 = pA S12 77 (S12.1 54 32) (l1) → (iv 0 20 (S15.1 54 32) → ((0 : Int) ≤ S15.1 54 32 ∧ S15.1 54 32 < (24 : Int) ∧ (iv 0 899 (l7) ∧ (∀ S19, S19 = pA S15 78 (S15.1 54 32) (l7) → (iv 0 20 (S19.1 54 32) → ((0 : Int) ≤ S19.1 54 32 ∧ S19.1 54 32 < (24 : Int) ∧ (iv 0 29 (l3) ∧ (∀ S23, S23 = pA S19 79 (S19.1 54 32) (l3) → (iv 0 20 (S23.1 54 32) → ((0 : Int) ≤ S23.1 54 32 ∧ S23.1 54 32 < (24 : Int) ∧ (∀ S27, S27 = pA S23 80 (S23.1 54 32) (0) → (iv 0 20 (S27.1 54 32) → ((0 : Int) ≤ S27.1 54 32 ∧ S27.1 54 32 < (24 : Int) ∧ (∀ S30, S30 = pA S27 81 (S27.1 54 32) (0) → (iv 0 20 (S30.1 54 32) → ((0 : Int) ≤ S30.1 54 32 ∧ S30.1 54 32 < (24 : Int) ∧ (∀ S33, S33 = pA S30 82 (S30.1 54 32) ((-2)) → (iv 0 20 (S33.1 54 32) → (iv 0 20 ((S33.1 54 32 + 1)) ∧ (∀ S35, S35 = pI S33 54 32 ((S33.1 54 32 + 1)) → K 0 S35))))))))))))))))))))))))))) ∧ ((¬ (¬ r7 = 0)) → (wX11_putWord (47) (62) (0) (0) S8 (fun r37 S38 => K 0 S38)))))))))) ∧ ((¬ (S.2 56 (l6) ≤ l8)) → ((0 : Int) ≤ ((4 * l6) + l8) ∧ ((4 * l6) + l8) < (24 : Int) ∧ (iv 0 3 (S.2 59 (((4 * l6) + l8))) → ((1 < S.2 59 (((4 * l6) + l8)) → wX11_begin_232 (l1) (l3) (l6) (l7) (l8) S K B143) ∧ ((¬ (1 < S.2 59 (((4 * l6) + l8)))) → ((0 : Int) ≤ ((4 * l6) + l8) ∧ ((4 * l6) + l8) < (24 : Int) ∧ (iv 0 1 (S.2 60 (((4 * l6) + l8))) → ((S.2 60 (((4 * l6) + l8)) = 0 → wX11_begin_232 (l1) (l3) (l6) (l7) (l8) S K B143) ∧ ((¬ (S.2 60 (((4 * l6) + l8)) = 0)) → (wX11_put (32) S (fun r45 S46 => (rng (((6 + (4 * l6)) + l8)) ∧ (wX11_putName (((6 + (4 * l6)) + l8)) S46 (fun r48 S49 => (wX11_putWord (61) (34) (0) (0) S49 (fun r50 S51 => (rng (l1) ∧ (rng (l6) ∧ (wX11_putValue (l1) (l8) (l6) (1) S51 (fun r54 S55 => (wX11_put (34) S55 (fun r56 S57 => wX11_begin_232 (l1) (l3) (l6) (l7) (l8) S57 K B143))))))))))))))))))))))))))
set_option maxRecDepth 100000 in
set_option maxHeartbeats 4000000 in
theorem bX11_begin_143' {G : xG} {sh : Nat → Option Sh} {J : St → List va_E → Prop} {d : Nat} {Post : xP} {l1 l3 l6 l7 l8 : Int} {S : St} {cs : List va_E} {K : Int → St → Prop} {B143 : Int → Int → Int → Int → Int → St → Prop} (hd : 4 ≤ d) (hJ : Stb sh J) (hT : isM sh) (hW : Wd G sh mT J S cs) (hP : ∀ (v : Int) (S : St) (cs : List va_E), K v S → Wd G sh mT J S cs → Post (none) cs) (hB143 : ∀ (l1 : Int) (l3 : Int) (l6 : Int) (l7 : Int) (l8 : Int) (S : St) (cs : List va_E), B143 l1 l3 l6 l7 l8 S → Wd G sh mT J S cs → Z (RX11, cX11_begin, 9, none, false) G d Post 143 [(0, .ref (G.1 + 54)), (1, .int (Int32.ofInt (l1))), (3, .int (Int32.ofInt (l3))), (6, .int (Int32.ofInt (l6))), (7, .int (Int32.ofInt (l7))), (8, .int (Int32.ofInt (l8)))] [] cs) (hw : wX11_begin_143' l1 l3 l6 l7 l8 S K B143) : Z (RX11, cX11_begin, 9, none, false) G d Post 143 [(0, .ref (G.1 + 54)), (1, .int (Int32.ofInt (l1))), (3, .int (Int32.ofInt (l3))), (6, .int (Int32.ofInt (l6))), (7, .int (Int32.ofInt (l7))), (8, .int (Int32.ofInt (l8)))] [] cs := by
  unfold wX11_begin_143' at hw
  refine z_iload dX11_begin_143 rfl ?_
  refine z_aload_n dX11_begin_145 rfl rfl ?_
  refine g_getR hW hT.1 mr3 kX11 fX11_13 dX11_begin_146 ?_
  refine z_iload dX11_begin_149 rfl ?_
  obtain ⟨q1a, q1b, hw⟩ := hw
  have q2 : iv 0 4 (S.2 56 (l6)) := mA56 hW _
  have hw := hw q2
  refine g_iald hW (ma56 hT) q1a q1b (by decide) dX11_begin_151 ?_
  obtain ⟨q4, hw⟩ := hw
  refine i_icmp_ge (tgt := 238) dX11_begin_152 (by decide) q4 (rngq q2 (by decide) (by decide)) (fun h3 => ?_) (fun h3 => ?_)
  · have hw := hw.1 h3
    refine z_aload_n dX11_begin_238 rfl rfl ?_
    refine z_iload_n dX11_begin_239 rfl rfl ?_
    refine z_iload dX11_begin_240 rfl ?_
    obtain ⟨q5, hw⟩ := hw
    obtain ⟨q6, hw⟩ := hw
    have hX := lX11_hasContent 0 (Nat.le_refl _) hJ hT hW q5 q6 hw
    refine z_callV (As := [_, _]) eX11_hasContent sX11_hasContent lX11_313 rfl dX11_begin_242 (hW.1 _ _ hT.1) hX (Nat.le_trans (by decide) hd) rfl (Nat.le_of_ble_eq_true rfl) (fun r cs hp => ?_)
    obtain ⟨r7, S8, rfl, hw, hW⟩ := hp
    refine z_st (st' := [.int (Int32.ofInt (r7))]) rfl ?_
    obtain ⟨q10, hw⟩ := hw
    refine i_if_ne (tgt := 259) dX11_begin_245 (by decide) q10 (fun h9 => ?_) (fun h9 => ?_)
    · have hw := hw.1 h9
      refine z_aload_n dX11_begin_259 rfl rfl ?_
      refine z_bipush (v := Int32.ofInt 62) dX11_begin_260 (by decide) ?_
      have hX := lX11_put 0 (Nat.le_refl _) hJ hT hW ⟨by decide, by decide⟩ hw
      refine z_callV (As := [_]) eX11_put sX11_put lX11_260 rfl dX11_begin_262 (hW.1 _ _ hT.1) hX (Nat.le_trans (by decide) hd) rfl (Nat.le_of_ble_eq_true rfl) (fun r cs hp => ?_)
      obtain ⟨r11, S12, rfl, hw, hW⟩ := hp
      refine z_st (st' := []) rfl ?_
      refine z_aload_n dX11_begin_265 rfl rfl ?_
      refine g_getR hW hT.1 mr33 kX11 fX11_81 dX11_begin_266 ?_
      refine z_aload_n dX11_begin_269 rfl rfl ?_
      have q13 : iv 0 20 (S12.1 54 32) := mI32 hW
      have hw := hw q13
      refine g_getI hW hT.1 mr32 kX11 fX11_316 dX11_begin_270 ?_
      refine z_iload_n dX11_begin_273 rfl rfl ?_
      obtain ⟨q14a, q14b, hw⟩ := hw
      obtain ⟨q16, hw⟩ := hw
      refine g_iast hJ hW (ma77 hT) q14a q14b (by decide) q16 dX11_begin_274 (fun cs hW => ?_)
      obtain ⟨S15, hS15⟩ : ∃ x, x = pA S12 77 (S12.1 54 32) (l1) := ⟨_, rfl⟩
      rw [← hS15] at hW
      have hw := hw S15 hS15
      refine z_aload_n dX11_begin_275 rfl rfl ?_
      refine g_getR hW hT.1 mr34 kX11 fX11_84 dX11_begin_276 ?_
      refine z_aload_n dX11_begin_279 rfl rfl ?_
      have q17 : iv 0 20 (S15.1 54 32) := mI32 hW
      have hw := hw q17
      refine g_getI hW hT.1 mr32 kX11 fX11_316 dX11_begin_280 ?_
      refine z_iload dX11_begin_283 rfl ?_
      obtain ⟨q18a, q18b, hw⟩ := hw
      obtain ⟨q20, hw⟩ := hw
      refine g_iast hJ hW (ma78 hT) q18a q18b (by decide) q20 dX11_begin_285 (fun cs hW => ?_)
      obtain ⟨S19, hS19⟩ : ∃ x, x = pA S15 78 (S15.1 54 32) (l7) := ⟨_, rfl⟩
      rw [← hS19] at hW
      have hw := hw S19 hS19
      refine z_aload_n dX11_begin_286 rfl rfl ?_
      refine g_getR hW hT.1 mr35 kX11 fX11_87 dX11_begin_287 ?_
      refine z_aload_n dX11_begin_290 rfl rfl ?_
      have q21 : iv 0 20 (S19.1 54 32) := mI32 hW
      have hw := hw q21
      refine g_getI hW hT.1 mr32 kX11 fX11_316 dX11_begin_291 ?_
      refine z_iload_n dX11_begin_294 rfl rfl ?_
      obtain ⟨q22a, q22b, hw⟩ := hw
      obtain ⟨q24, hw⟩ := hw
      refine g_iast hJ hW (ma79 hT) q22a q22b (by decide) q24 dX11_begin_295 (fun cs hW => ?_)
      obtain ⟨S23, hS23⟩ : ∃ x, x = pA S19 79 (S19.1 54 32) (l3) := ⟨_, rfl⟩
      rw [← hS23] at hW
      have hw := hw S23 hS23
      refine z_aload_n dX11_begin_296 rfl rfl ?_
      refine g_getR hW hT.1 mr36 kX11 fX11_90 dX11_begin_297 ?_
      refine z_aload_n dX11_begin_300 rfl rfl ?_
      have q25 : iv 0 20 (S23.1 54 32) := mI32 hW
      have hw := hw q25
      refine g_getI hW hT.1 mr32 kX11 fX11_316 dX11_begin_301 ?_
      refine z_iconst (v := Int32.ofInt 0) dX11_begin_304 rfl ?_
      obtain ⟨q26a, q26b, hw⟩ := hw
      refine g_iast hJ hW (ma80 hT) q26a q26b (by decide) ⟨by decide, by decide⟩ dX11_begin_305 (fun cs hW => ?_)
      obtain ⟨S27, hS27⟩ : ∃ x, x = pA S23 80 (S23.1 54 32) (0) := ⟨_, rfl⟩
      rw [← hS27] at hW
      have hw := hw S27 hS27
      refine z_aload_n dX11_begin_306 rfl rfl ?_
      refine g_getR hW hT.1 mr37 kX11 fX11_93 dX11_begin_307 ?_
      refine z_aload_n dX11_begin_310 rfl rfl ?_
      have q28 : iv 0 20 (S27.1 54 32) := mI32 hW
      have hw := hw q28
      refine g_getI hW hT.1 mr32 kX11 fX11_316 dX11_begin_311 ?_
      refine z_iconst (v := Int32.ofInt 0) dX11_begin_314 rfl ?_
      obtain ⟨q29a, q29b, hw⟩ := hw
      refine g_iast hJ hW (ma81 hT) q29a q29b (by decide) ⟨by decide, by decide⟩ dX11_begin_315 (fun cs hW => ?_)
      obtain ⟨S30, hS30⟩ : ∃ x, x = pA S27 81 (S27.1 54 32) (0) := ⟨_, rfl⟩
      rw [← hS30] at hW
      have hw := hw S30 hS30
      refine z_aload_n dX11_begin_316 rfl rfl ?_
      refine g_getR hW hT.1 mr38 kX11 fX11_96 dX11_begin_317 ?_
      refine z_aload_n dX11_begin_320 rfl rfl ?_
      have q31 : iv 0 20 (S30.1 54 32) := mI32 hW
      have hw := hw q31
      refine g_getI hW hT.1 mr32 kX11 fX11_316 dX11_begin_321 ?_
      refine z_bipush (v := Int32.ofInt (-2)) dX11_begin_324 (by decide) ?_
      obtain ⟨q32a, q32b, hw⟩ := hw
      refine g_iast hJ hW (ma82 hT) q32a q32b (by decide) ⟨by decide, by decide⟩ dX11_begin_326 (fun cs hW => ?_)
      obtain ⟨S33, hS33⟩ : ∃ x, x = pA S30 82 (S30.1 54 32) ((-2)) := ⟨_, rfl⟩
      rw [← hS33] at hW
      have hw := hw S33 hS33
      refine z_aload_n dX11_begin_327 rfl rfl ?_
      refine z_dup dX11_begin_328 rfl ?_
      have q34 : iv 0 20 (S33.1 54 32) := mI32 hW
      have hw := hw q34
      refine g_getI hW hT.1 mr32 kX11 fX11_316 dX11_begin_329 ?_
      refine z_iconst (v := Int32.ofInt 1) dX11_begin_332 rfl ?_
      refine i_iadd dX11_begin_333 ?_
      obtain ⟨q36, hw⟩ := hw
      refine g_putI hJ hW hT.1 mr32 kX11 fX11_316 dX11_begin_334 rfl rfl rfl q36 (fun cs hW => ?_)
      obtain ⟨S35, hS35⟩ : ∃ x, x = pI S33 54 32 ((S33.1 54 32 + 1)) := ⟨_, rfl⟩
      rw [← hS35] at hW
      have hw := hw S35 hS35
      exact z_return dX11_begin_337 rfl (hP 0 _ _ hw hW)
    · have hw := hw.2 h9
      refine z_aload_n dX11_begin_248 rfl rfl ?_
      refine z_bipush (v := Int32.ofInt 47) dX11_begin_249 (by decide) ?_
      refine z_bipush (v := Int32.ofInt 62) dX11_begin_251 (by decide) ?_
      refine z_iconst (v := Int32.ofInt 0) dX11_begin_253 rfl ?_
      refine z_iconst (v := Int32.ofInt 0) dX11_begin_254 rfl ?_
      have hX := lX11_putWord 1 (Nat.le_refl _) hJ hT hW ⟨by decide, by decide⟩ ⟨by decide, by decide⟩ ⟨by decide, by decide⟩ ⟨by decide, by decide⟩ hw
      refine z_callV (As := [_, _, _, _]) eX11_putWord sX11_putWord lX11_267 rfl dX11_begin_255 (hW.1 _ _ hT.1) hX (Nat.le_trans (by decide) hd) rfl (Nat.le_of_ble_eq_true rfl) (fun r cs hp => ?_)
      obtain ⟨r37, S38, rfl, hw, hW⟩ := hp
      refine z_st (st' := []) rfl ?_
      exact z_return dX11_begin_258 rfl (hP 0 _ _ hw hW)
  · have hw := hw.2 h3
    refine z_aload_n dX11_begin_155 rfl rfl ?_
    refine g_getR hW hT.1 mr6 kX11 fX11_22 dX11_begin_156 ?_
    refine z_iconst (v := Int32.ofInt 4) dX11_begin_159 rfl ?_
    refine z_iload dX11_begin_160 rfl ?_
    refine i_imul dX11_begin_162 ?_
    refine z_iload dX11_begin_163 rfl ?_
    refine i_iadd dX11_begin_165 ?_
    obtain ⟨q39a, q39b, hw⟩ := hw
    have q40 : iv 0 3 (S.2 59 (((4 * l6) + l8))) := mA59 hW _
    have hw := hw q40
    refine g_iald hW (ma59 hT) q39a q39b (by decide) dX11_begin_166 ?_
    refine z_iconst (v := Int32.ofInt 1) dX11_begin_167 rfl ?_
    refine i_icmp_gt (tgt := 232) dX11_begin_168 (by decide) (rngq q40 (by decide) (by decide)) ⟨by decide, by decide⟩ (fun h41 => ?_) (fun h41 => ?_)
    · have hw := hw.1 h41
      refine z_loc (L' := [(0, .ref (G.1 + 54)), (1, .int (Int32.ofInt (l1))), (3, .int (Int32.ofInt (l3))), (6, .int (Int32.ofInt (l6))), (7, .int (Int32.ofInt (l7))), (8, .int (Int32.ofInt (l8)))]) (List.forall_mem_cons.mpr ⟨rfl, (List.forall_mem_cons.mpr ⟨rfl, (List.forall_mem_cons.mpr ⟨rfl, (List.forall_mem_cons.mpr ⟨rfl, (List.forall_mem_cons.mpr ⟨rfl, (List.forall_mem_cons.mpr ⟨rfl, (fun _ h => nomatch h)⟩)⟩)⟩)⟩)⟩)⟩) ?_
      exact bX11_begin_232 hd hJ hT hW hP hB143 hw
    · have hw := hw.2 h41
      refine z_aload_n dX11_begin_171 rfl rfl ?_
      refine g_getR hW hT.1 mr7 kX11 fX11_25 dX11_begin_172 ?_
      refine z_iconst (v := Int32.ofInt 4) dX11_begin_175 rfl ?_
      refine z_iload dX11_begin_176 rfl ?_
      refine i_imul dX11_begin_178 ?_
      refine z_iload dX11_begin_179 rfl ?_
      refine i_iadd dX11_begin_181 ?_
      obtain ⟨q42a, q42b, hw⟩ := hw
      have q43 : iv 0 1 (S.2 60 (((4 * l6) + l8))) := mA60 hW _
      have hw := hw q43
      refine g_zald hW (ma60 hT) q42a q42b (by decide) dX11_begin_182 ?_
      refine i_if_eq (tgt := 232) dX11_begin_183 (by decide) (rngq q43 (by decide) (by decide)) (fun h44 => ?_) (fun h44 => ?_)
      · have hw := hw.1 h44
        refine z_loc (L' := [(0, .ref (G.1 + 54)), (1, .int (Int32.ofInt (l1))), (3, .int (Int32.ofInt (l3))), (6, .int (Int32.ofInt (l6))), (7, .int (Int32.ofInt (l7))), (8, .int (Int32.ofInt (l8)))]) (List.forall_mem_cons.mpr ⟨rfl, (List.forall_mem_cons.mpr ⟨rfl, (List.forall_mem_cons.mpr ⟨rfl, (List.forall_mem_cons.mpr ⟨rfl, (List.forall_mem_cons.mpr ⟨rfl, (List.forall_mem_cons.mpr ⟨rfl, (fun _ h => nomatch h)⟩)⟩)⟩)⟩)⟩)⟩) ?_
        exact bX11_begin_232 hd hJ hT hW hP hB143 hw
      · have hw := hw.2 h44
        refine z_aload_n dX11_begin_186 rfl rfl ?_
        refine z_bipush (v := Int32.ofInt 32) dX11_begin_187 (by decide) ?_
        have hX := lX11_put 0 (Nat.le_refl _) hJ hT hW ⟨by decide, by decide⟩ hw
        refine z_callV (As := [_]) eX11_put sX11_put lX11_260 rfl dX11_begin_189 (hW.1 _ _ hT.1) hX (Nat.le_trans (by decide) hd) rfl (Nat.le_of_ble_eq_true rfl) (fun r cs hp => ?_)
        obtain ⟨r45, S46, rfl, hw, hW⟩ := hp
        refine z_st (st' := []) rfl ?_
        refine z_aload_n dX11_begin_192 rfl rfl ?_
        refine z_bipush (v := Int32.ofInt 6) dX11_begin_193 (by decide) ?_
        refine z_iconst (v := Int32.ofInt 4) dX11_begin_195 rfl ?_
        refine z_iload dX11_begin_196 rfl ?_
        refine i_imul dX11_begin_198 ?_
        refine i_iadd dX11_begin_199 ?_
        refine z_iload dX11_begin_200 rfl ?_
        refine i_iadd dX11_begin_202 ?_
        obtain ⟨q47, hw⟩ := hw
        have hX := lX11_putName 1 (Nat.le_refl _) hJ hT hW q47 hw
        refine z_callV (As := [_]) eX11_putName sX11_putName lX11_284 rfl dX11_begin_203 (hW.1 _ _ hT.1) hX (Nat.le_trans (by decide) hd) rfl (Nat.le_of_ble_eq_true rfl) (fun r cs hp => ?_)
        obtain ⟨r48, S49, rfl, hw, hW⟩ := hp
        refine z_st (st' := []) rfl ?_
        refine z_aload_n dX11_begin_206 rfl rfl ?_
        refine z_bipush (v := Int32.ofInt 61) dX11_begin_207 (by decide) ?_
        refine z_bipush (v := Int32.ofInt 34) dX11_begin_209 (by decide) ?_
        refine z_iconst (v := Int32.ofInt 0) dX11_begin_211 rfl ?_
        refine z_iconst (v := Int32.ofInt 0) dX11_begin_212 rfl ?_
        have hX := lX11_putWord 1 (Nat.le_refl _) hJ hT hW ⟨by decide, by decide⟩ ⟨by decide, by decide⟩ ⟨by decide, by decide⟩ ⟨by decide, by decide⟩ hw
        refine z_callV (As := [_, _, _, _]) eX11_putWord sX11_putWord lX11_267 rfl dX11_begin_213 (hW.1 _ _ hT.1) hX (Nat.le_trans (by decide) hd) rfl (Nat.le_of_ble_eq_true rfl) (fun r cs hp => ?_)
        obtain ⟨r50, S51, rfl, hw, hW⟩ := hp
        refine z_st (st' := []) rfl ?_
        refine z_aload_n dX11_begin_216 rfl rfl ?_
        refine z_iload_n dX11_begin_217 rfl rfl ?_
        refine z_iload dX11_begin_218 rfl ?_
        refine z_iload dX11_begin_220 rfl ?_
        refine z_iconst (v := Int32.ofInt 1) dX11_begin_222 rfl ?_
        obtain ⟨q52, hw⟩ := hw
        obtain ⟨q53, hw⟩ := hw
        have hX := lX11_putValue 3 (Nat.le_refl _) hJ hT hW q52 q4 q53 ⟨by decide, by decide⟩ hw
        refine z_callV (As := [_, _, _, _]) eX11_putValue sX11_putValue lX11_309 rfl dX11_begin_223 (hW.1 _ _ hT.1) hX (Nat.le_trans (by decide) hd) rfl (Nat.le_of_ble_eq_true rfl) (fun r cs hp => ?_)
        obtain ⟨r54, S55, rfl, hw, hW⟩ := hp
        refine z_st (st' := []) rfl ?_
        refine z_aload_n dX11_begin_226 rfl rfl ?_
        refine z_bipush (v := Int32.ofInt 34) dX11_begin_227 (by decide) ?_
        have hX := lX11_put 0 (Nat.le_refl _) hJ hT hW ⟨by decide, by decide⟩ hw
        refine z_callV (As := [_]) eX11_put sX11_put lX11_260 rfl dX11_begin_229 (hW.1 _ _ hT.1) hX (Nat.le_trans (by decide) hd) rfl (Nat.le_of_ble_eq_true rfl) (fun r cs hp => ?_)
        obtain ⟨r56, S57, rfl, hw, hW⟩ := hp
        refine z_st (st' := []) rfl ?_
        refine z_loc (L' := [(0, .ref (G.1 + 54)), (1, .int (Int32.ofInt (l1))), (3, .int (Int32.ofInt (l3))), (6, .int (Int32.ofInt (l6))), (7, .int (Int32.ofInt (l7))), (8, .int (Int32.ofInt (l8)))]) (List.forall_mem_cons.mpr ⟨rfl, (List.forall_mem_cons.mpr ⟨rfl, (List.forall_mem_cons.mpr ⟨rfl, (List.forall_mem_cons.mpr ⟨rfl, (List.forall_mem_cons.mpr ⟨rfl, (List.forall_mem_cons.mpr ⟨rfl, (fun _ h => nomatch h)⟩)⟩)⟩)⟩)⟩)⟩) ?_
        exact bX11_begin_232 hd hJ hT hW hP hB143 hw
def wX11_begin_143 (l1 l3 l6 l7 l8 : Int) (S : St) (K : Int → St → Prop) : Prop := ∃ (Iv : Int → Int → Int → Int → Int → St → Prop) (mu : Int → Int → Int → Int → Int → St → Nat), Iv l1 l3 l6 l7 l8 S ∧ ∀ (l1 l3 l6 l7 l8 : Int) (S : St), Iv l1 l3 l6 l7 l8 S → wX11_begin_143' l1 l3 l6 l7 l8 S K  (fun ml1 ml3 ml6 ml7 ml8 T => Iv ml1 ml3 ml6 ml7 ml8 T ∧ mu ml1 ml3 ml6 ml7 ml8 T < mu l1 l3 l6 l7 l8 S)
set_option maxRecDepth 100000 in
set_option maxHeartbeats 4000000 in
theorem bX11_begin_143 {G : xG} {sh : Nat → Option Sh} {J : St → List va_E → Prop} {d : Nat} {Post : xP} {l1 l3 l6 l7 l8 : Int} {S : St} {cs : List va_E} {K : Int → St → Prop} (hd : 4 ≤ d) (hJ : Stb sh J) (hT : isM sh) (hW : Wd G sh mT J S cs) (hP : ∀ (v : Int) (S : St) (cs : List va_E), K v S → Wd G sh mT J S cs → Post (none) cs)  (hw : wX11_begin_143 l1 l3 l6 l7 l8 S K ) : Z (RX11, cX11_begin, 9, none, false) G d Post 143 [(0, .ref (G.1 + 54)), (1, .int (Int32.ofInt (l1))), (3, .int (Int32.ofInt (l3))), (6, .int (Int32.ofInt (l6))), (7, .int (Int32.ofInt (l7))), (8, .int (Int32.ofInt (l8)))] [] cs := by
  unfold wX11_begin_143 at hw
  obtain ⟨Iv, mu, h0, hs⟩ := hw
  have key : ∀ (n : Nat) (l1 l3 l6 l7 l8 : Int) (S : St) (cs : List va_E), mu l1 l3 l6 l7 l8 S < n → Iv l1 l3 l6 l7 l8 S → Wd G sh mT J S cs → Z (RX11, cX11_begin, 9, none, false) G d Post 143 [(0, .ref (G.1 + 54)), (1, .int (Int32.ofInt (l1))), (3, .int (Int32.ofInt (l3))), (6, .int (Int32.ofInt (l6))), (7, .int (Int32.ofInt (l7))), (8, .int (Int32.ofInt (l8)))] [] cs := by
    intro n
    induction n with
    | zero => intro l1 l3 l6 l7 l8 S cs hn; exact absurd hn (Nat.not_lt_zero _)
    | succ n ih =>
      intro l1 l3 l6 l7 l8 S cs hn hI hW
      exact bX11_begin_143' hd hJ hT hW hP  (fun l1 l3 l6 l7 l8 S cs hb hW => ih l1 l3 l6 l7 l8 S cs (Nat.lt_of_lt_of_le hb.2 (Nat.le_of_lt_succ hn)) hb.1 hW) (hs l1 l3 l6 l7 l8 S hI)
  exact key _ _ _ _ _ _ _ _ (Nat.lt_succ_self _) h0 hW
def wX11_begin_140 (l1 l3 l6 l7 : Int) (S : St) (K : Int → St → Prop) : Prop := wX11_begin_143 (l1) (l3) (l6) (l7) (0) S K
set_option maxRecDepth 100000 in
set_option maxHeartbeats 4000000 in
theorem bX11_begin_140 {G : xG} {sh : Nat → Option Sh} {J : St → List va_E → Prop} {d : Nat} {Post : xP} {l1 l3 l6 l7 : Int} {S : St} {cs : List va_E} {K : Int → St → Prop} (hd : 4 ≤ d) (hJ : Stb sh J) (hT : isM sh) (hW : Wd G sh mT J S cs) (hP : ∀ (v : Int) (S : St) (cs : List va_E), K v S → Wd G sh mT J S cs → Post (none) cs)  (hw : wX11_begin_140 l1 l3 l6 l7 S K ) : Z (RX11, cX11_begin, 9, none, false) G d Post 140 [(0, .ref (G.1 + 54)), (1, .int (Int32.ofInt (l1))), (3, .int (Int32.ofInt (l3))), (6, .int (Int32.ofInt (l6))), (7, .int (Int32.ofInt (l7)))] [] cs := by
  unfold wX11_begin_140 at hw
  refine z_iconst (v := Int32.ofInt 0) dX11_begin_140 rfl ?_
  refine z_istore dX11_begin_141 (by decide) ?_
  refine z_loc (L' := [(0, .ref (G.1 + 54)), (1, .int (Int32.ofInt (l1))), (3, .int (Int32.ofInt (l3))), (6, .int (Int32.ofInt (l6))), (7, .int (Int32.ofInt (l7))), (8, .int (Int32.ofInt (0)))]) (List.forall_mem_cons.mpr ⟨rfl, (List.forall_mem_cons.mpr ⟨rfl, (List.forall_mem_cons.mpr ⟨rfl, (List.forall_mem_cons.mpr ⟨rfl, (List.forall_mem_cons.mpr ⟨rfl, (List.forall_mem_cons.mpr ⟨rfl, (fun _ h => nomatch h)⟩)⟩)⟩)⟩)⟩)⟩) ?_
  exact bX11_begin_143 hd hJ hT hW hP  hw
def wX11_begin_106 (l1 l3 l5 l6 l7 : Int) (S : St) (K : Int → St → Prop) : Prop := (rng (l5) ∧ ((¬ l5 = 2 → wX11_begin_140 (l1) (l3) (l6) (l7) S K) ∧ ((¬ (¬ l5 = 2)) → (wX11_putAttribute (105) (100) (61) (34) S (fun r3 S4 => ((0 : Int) ≤ l1 ∧ l1 < (30 : Int) ∧ (iv 0 900 (S4.2 76 (l1)) → (wX11_putNumber (S4.2 76 (l1)) S4 (fun r7 S8 => (wX11_put (34) S8 (fun r9 S10 => wX11_begin_140 (l1) (l3) (l6) (l7) S10 K)))))))))))
set_option maxRecDepth 100000 in
set_option maxHeartbeats 4000000 in
theorem bX11_begin_106 {G : xG} {sh : Nat → Option Sh} {J : St → List va_E → Prop} {d : Nat} {Post : xP} {l1 l3 l5 l6 l7 : Int} {S : St} {cs : List va_E} {K : Int → St → Prop} (hd : 4 ≤ d) (hJ : Stb sh J) (hT : isM sh) (hW : Wd G sh mT J S cs) (hP : ∀ (v : Int) (S : St) (cs : List va_E), K v S → Wd G sh mT J S cs → Post (none) cs)  (hw : wX11_begin_106 l1 l3 l5 l6 l7 S K ) : Z (RX11, cX11_begin, 9, none, false) G d Post 106 [(0, .ref (G.1 + 54)), (1, .int (Int32.ofInt (l1))), (3, .int (Int32.ofInt (l3))), (5, .int (Int32.ofInt (l5))), (6, .int (Int32.ofInt (l6))), (7, .int (Int32.ofInt (l7)))] [] cs := by
  unfold wX11_begin_106 at hw
  refine z_iload dX11_begin_106 rfl ?_
  refine z_iconst (v := Int32.ofInt 2) dX11_begin_108 rfl ?_
  obtain ⟨q2, hw⟩ := hw
  refine i_icmp_ne (tgt := 140) dX11_begin_109 (by decide) q2 ⟨by decide, by decide⟩ (fun h1 => ?_) (fun h1 => ?_)
  · have hw := hw.1 h1
    refine z_loc (L' := [(0, .ref (G.1 + 54)), (1, .int (Int32.ofInt (l1))), (3, .int (Int32.ofInt (l3))), (6, .int (Int32.ofInt (l6))), (7, .int (Int32.ofInt (l7)))]) (List.forall_mem_cons.mpr ⟨rfl, (List.forall_mem_cons.mpr ⟨rfl, (List.forall_mem_cons.mpr ⟨rfl, (List.forall_mem_cons.mpr ⟨rfl, (List.forall_mem_cons.mpr ⟨rfl, (fun _ h => nomatch h)⟩)⟩)⟩)⟩)⟩) ?_
    exact bX11_begin_140 hd hJ hT hW hP  hw
  · have hw := hw.2 h1
    refine z_aload_n dX11_begin_112 rfl rfl ?_
    refine z_bipush (v := Int32.ofInt 105) dX11_begin_113 (by decide) ?_
    refine z_bipush (v := Int32.ofInt 100) dX11_begin_115 (by decide) ?_
    refine z_bipush (v := Int32.ofInt 61) dX11_begin_117 (by decide) ?_
    refine z_bipush (v := Int32.ofInt 34) dX11_begin_119 (by decide) ?_
    have hX := lX11_putAttribute 2 (Nat.le_refl _) hJ hT hW ⟨by decide, by decide⟩ ⟨by decide, by decide⟩ ⟨by decide, by decide⟩ ⟨by decide, by decide⟩ hw
    refine z_callV (As := [_, _, _, _]) eX11_putAttribute sX11_putAttribute lX11_300 rfl dX11_begin_121 (hW.1 _ _ hT.1) hX (Nat.le_trans (by decide) hd) rfl (Nat.le_of_ble_eq_true rfl) (fun r cs hp => ?_)
    obtain ⟨r3, S4, rfl, hw, hW⟩ := hp
    refine z_st (st' := []) rfl ?_
    refine z_aload_n dX11_begin_124 rfl rfl ?_
    refine z_aload_n dX11_begin_125 rfl rfl ?_
    refine g_getR hW hT.1 mr31 kX11 fX11_78 dX11_begin_126 ?_
    refine z_iload_n dX11_begin_129 rfl rfl ?_
    obtain ⟨q5a, q5b, hw⟩ := hw
    have q6 : iv 0 900 (S4.2 76 (l1)) := mA76 hW _
    have hw := hw q6
    refine g_iald hW (ma76 hT) q5a q5b (by decide) dX11_begin_130 ?_
    have hX := lX11_putNumber 1 (Nat.le_refl _) hJ hT hW (rngq q6 (by decide) (by decide)) hw
    refine z_callV (As := [_]) eX11_putNumber sX11_putNumber lX11_271 rfl dX11_begin_131 (hW.1 _ _ hT.1) hX (Nat.le_trans (by decide) hd) rfl (Nat.le_of_ble_eq_true rfl) (fun r cs hp => ?_)
    obtain ⟨r7, S8, rfl, hw, hW⟩ := hp
    refine z_st (st' := []) rfl ?_
    refine z_aload_n dX11_begin_134 rfl rfl ?_
    refine z_bipush (v := Int32.ofInt 34) dX11_begin_135 (by decide) ?_
    have hX := lX11_put 0 (Nat.le_refl _) hJ hT hW ⟨by decide, by decide⟩ hw
    refine z_callV (As := [_]) eX11_put sX11_put lX11_260 rfl dX11_begin_137 (hW.1 _ _ hT.1) hX (Nat.le_trans (by decide) hd) rfl (Nat.le_of_ble_eq_true rfl) (fun r cs hp => ?_)
    obtain ⟨r9, S10, rfl, hw, hW⟩ := hp
    refine z_st (st' := []) rfl ?_
    refine z_loc (L' := [(0, .ref (G.1 + 54)), (1, .int (Int32.ofInt (l1))), (3, .int (Int32.ofInt (l3))), (6, .int (Int32.ofInt (l6))), (7, .int (Int32.ofInt (l7)))]) (List.forall_mem_cons.mpr ⟨rfl, (List.forall_mem_cons.mpr ⟨rfl, (List.forall_mem_cons.mpr ⟨rfl, (List.forall_mem_cons.mpr ⟨rfl, (List.forall_mem_cons.mpr ⟨rfl, (fun _ h => nomatch h)⟩)⟩)⟩)⟩)⟩) ?_
    exact bX11_begin_140 hd hJ hT hW hP  hw
def wX11_begin_55 (l1 l3 l4 l5 l6 l7 : Int) (S : St) (K : Int → St → Prop) : Prop := (wX11_put (60) S (fun r1 S2 => (rng (l3) ∧ (wX11_putName (l3) S2 (fun r4 S5 => (rng (l4) ∧ ((l4 = 0 → wX11_begin_106 (l1) (l3) (l5) (l6) (l7) S5 K) ∧ ((¬ (l4 = 0)) → (wX11_putAttribute (99) (108) (97) (115) S5 (fun r8 S9 => (wX11_putWord (115) (61) (34) (0) S9 (fun r10 S11 => (rng (l6) ∧ (wX11_putName (l6) S11 (fun r13 S14 => (wX11_put (34) S14 (fun r15 S16 => wX11_begin_106 (l1) (l3) (l5) (l6) (l7) S16 K)))))))))))))))))
set_option maxRecDepth 100000 in
set_option maxHeartbeats 4000000 in
theorem bX11_begin_55 {G : xG} {sh : Nat → Option Sh} {J : St → List va_E → Prop} {d : Nat} {Post : xP} {l1 l3 l4 l5 l6 l7 : Int} {S : St} {cs : List va_E} {K : Int → St → Prop} (hd : 4 ≤ d) (hJ : Stb sh J) (hT : isM sh) (hW : Wd G sh mT J S cs) (hP : ∀ (v : Int) (S : St) (cs : List va_E), K v S → Wd G sh mT J S cs → Post (none) cs)  (hw : wX11_begin_55 l1 l3 l4 l5 l6 l7 S K ) : Z (RX11, cX11_begin, 9, none, false) G d Post 55 [(0, .ref (G.1 + 54)), (1, .int (Int32.ofInt (l1))), (3, .int (Int32.ofInt (l3))), (4, .int (Int32.ofInt (l4))), (5, .int (Int32.ofInt (l5))), (6, .int (Int32.ofInt (l6))), (7, .int (Int32.ofInt (l7)))] [] cs := by
  unfold wX11_begin_55 at hw
  refine z_aload_n dX11_begin_55 rfl rfl ?_
  refine z_bipush (v := Int32.ofInt 60) dX11_begin_56 (by decide) ?_
  have hX := lX11_put 0 (Nat.le_refl _) hJ hT hW ⟨by decide, by decide⟩ hw
  refine z_callV (As := [_]) eX11_put sX11_put lX11_260 rfl dX11_begin_58 (hW.1 _ _ hT.1) hX (Nat.le_trans (by decide) hd) rfl (Nat.le_of_ble_eq_true rfl) (fun r cs hp => ?_)
  obtain ⟨r1, S2, rfl, hw, hW⟩ := hp
  refine z_st (st' := []) rfl ?_
  refine z_aload_n dX11_begin_61 rfl rfl ?_
  refine z_iload_n dX11_begin_62 rfl rfl ?_
  obtain ⟨q3, hw⟩ := hw
  have hX := lX11_putName 1 (Nat.le_refl _) hJ hT hW q3 hw
  refine z_callV (As := [_]) eX11_putName sX11_putName lX11_284 rfl dX11_begin_63 (hW.1 _ _ hT.1) hX (Nat.le_trans (by decide) hd) rfl (Nat.le_of_ble_eq_true rfl) (fun r cs hp => ?_)
  obtain ⟨r4, S5, rfl, hw, hW⟩ := hp
  refine z_st (st' := []) rfl ?_
  refine z_iload dX11_begin_66 rfl ?_
  obtain ⟨q7, hw⟩ := hw
  refine i_if_eq (tgt := 106) dX11_begin_68 (by decide) q7 (fun h6 => ?_) (fun h6 => ?_)
  · have hw := hw.1 h6
    refine z_loc (L' := [(0, .ref (G.1 + 54)), (1, .int (Int32.ofInt (l1))), (3, .int (Int32.ofInt (l3))), (5, .int (Int32.ofInt (l5))), (6, .int (Int32.ofInt (l6))), (7, .int (Int32.ofInt (l7)))]) (List.forall_mem_cons.mpr ⟨rfl, (List.forall_mem_cons.mpr ⟨rfl, (List.forall_mem_cons.mpr ⟨rfl, (List.forall_mem_cons.mpr ⟨rfl, (List.forall_mem_cons.mpr ⟨rfl, (List.forall_mem_cons.mpr ⟨rfl, (fun _ h => nomatch h)⟩)⟩)⟩)⟩)⟩)⟩) ?_
    exact bX11_begin_106 hd hJ hT hW hP  hw
  · have hw := hw.2 h6
    refine z_aload_n dX11_begin_71 rfl rfl ?_
    refine z_bipush (v := Int32.ofInt 99) dX11_begin_72 (by decide) ?_
    refine z_bipush (v := Int32.ofInt 108) dX11_begin_74 (by decide) ?_
    refine z_bipush (v := Int32.ofInt 97) dX11_begin_76 (by decide) ?_
    refine z_bipush (v := Int32.ofInt 115) dX11_begin_78 (by decide) ?_
    have hX := lX11_putAttribute 2 (Nat.le_refl _) hJ hT hW ⟨by decide, by decide⟩ ⟨by decide, by decide⟩ ⟨by decide, by decide⟩ ⟨by decide, by decide⟩ hw
    refine z_callV (As := [_, _, _, _]) eX11_putAttribute sX11_putAttribute lX11_300 rfl dX11_begin_80 (hW.1 _ _ hT.1) hX (Nat.le_trans (by decide) hd) rfl (Nat.le_of_ble_eq_true rfl) (fun r cs hp => ?_)
    obtain ⟨r8, S9, rfl, hw, hW⟩ := hp
    refine z_st (st' := []) rfl ?_
    refine z_aload_n dX11_begin_83 rfl rfl ?_
    refine z_bipush (v := Int32.ofInt 115) dX11_begin_84 (by decide) ?_
    refine z_bipush (v := Int32.ofInt 61) dX11_begin_86 (by decide) ?_
    refine z_bipush (v := Int32.ofInt 34) dX11_begin_88 (by decide) ?_
    refine z_iconst (v := Int32.ofInt 0) dX11_begin_90 rfl ?_
    have hX := lX11_putWord 1 (Nat.le_refl _) hJ hT hW ⟨by decide, by decide⟩ ⟨by decide, by decide⟩ ⟨by decide, by decide⟩ ⟨by decide, by decide⟩ hw
    refine z_callV (As := [_, _, _, _]) eX11_putWord sX11_putWord lX11_267 rfl dX11_begin_91 (hW.1 _ _ hT.1) hX (Nat.le_trans (by decide) hd) rfl (Nat.le_of_ble_eq_true rfl) (fun r cs hp => ?_)
    obtain ⟨r10, S11, rfl, hw, hW⟩ := hp
    refine z_st (st' := []) rfl ?_
    refine z_aload_n dX11_begin_94 rfl rfl ?_
    refine z_iload dX11_begin_95 rfl ?_
    obtain ⟨q12, hw⟩ := hw
    have hX := lX11_putName 1 (Nat.le_refl _) hJ hT hW q12 hw
    refine z_callV (As := [_]) eX11_putName sX11_putName lX11_284 rfl dX11_begin_97 (hW.1 _ _ hT.1) hX (Nat.le_trans (by decide) hd) rfl (Nat.le_of_ble_eq_true rfl) (fun r cs hp => ?_)
    obtain ⟨r13, S14, rfl, hw, hW⟩ := hp
    refine z_st (st' := []) rfl ?_
    refine z_aload_n dX11_begin_100 rfl rfl ?_
    refine z_bipush (v := Int32.ofInt 34) dX11_begin_101 (by decide) ?_
    have hX := lX11_put 0 (Nat.le_refl _) hJ hT hW ⟨by decide, by decide⟩ hw
    refine z_callV (As := [_]) eX11_put sX11_put lX11_260 rfl dX11_begin_103 (hW.1 _ _ hT.1) hX (Nat.le_trans (by decide) hd) rfl (Nat.le_of_ble_eq_true rfl) (fun r cs hp => ?_)
    obtain ⟨r15, S16, rfl, hw, hW⟩ := hp
    refine z_st (st' := []) rfl ?_
    refine z_loc (L' := [(0, .ref (G.1 + 54)), (1, .int (Int32.ofInt (l1))), (3, .int (Int32.ofInt (l3))), (5, .int (Int32.ofInt (l5))), (6, .int (Int32.ofInt (l6))), (7, .int (Int32.ofInt (l7)))]) (List.forall_mem_cons.mpr ⟨rfl, (List.forall_mem_cons.mpr ⟨rfl, (List.forall_mem_cons.mpr ⟨rfl, (List.forall_mem_cons.mpr ⟨rfl, (List.forall_mem_cons.mpr ⟨rfl, (List.forall_mem_cons.mpr ⟨rfl, (fun _ h => nomatch h)⟩)⟩)⟩)⟩)⟩)⟩) ?_
    exact bX11_begin_106 hd hJ hT hW hP  hw
def wX11_begin (a1 a2 a3 a4 a5 : Int) (S : St) (K : Int → St → Prop) : Prop := rng a1 → rng a2 → rng a3 → rng a4 → rng a5 → ((0 : Int) ≤ a1 ∧ a1 < (90 : Int) ∧ (iv 0 5 (S.2 68 (a1)) → (wX11_element (a2) (a3) S (fun r3 S4 => (iv 0 900 (S4.1 54 30) → (iv 0 900 ((S4.1 54 30 + 1)) ∧ (∀ S6, S6 = pI S4 54 30 ((S4.1 54 30 + 1)) → ((0 : Int) ≤ a1 ∧ a1 < (30 : Int) ∧ (iv (-2) 899 (S6.2 75 (a1)) → ((¬ S6.2 75 (a1) = (-2) → wX11_begin_55 (a1) (a3) (a4) (a5) (S.2 68 (a1)) (r3) S6 K) ∧ ((¬ (¬ S6.2 75 (a1) = (-2))) → ((0 : Int) ≤ a1 ∧ a1 < (30 : Int) ∧ (iv (-2) 899 (r3) ∧ (∀ S12, S12 = pA S6 75 (a1) (r3) → (iv 0 900 (S12.1 54 30) → ((0 : Int) ≤ a1 ∧ a1 < (30 : Int) ∧ (∀ S16, S16 = pA S12 76 (a1) (S12.1 54 30) → wX11_begin_55 (a1) (a3) (a4) (a5) (S.2 68 (a1)) (r3) S16 K)))))))))))))))))
set_option maxRecDepth 100000 in
set_option maxHeartbeats 4000000 in
theorem lX11_begin {G : xG} {sh : Nat → Option Sh} {J : St → List va_E → Prop} {a1 a2 a3 a4 a5 : Int} {S : St} {cs : List va_E} {K : Int → St → Prop} (d : Nat) (hd : 4 ≤ d) (hJ : Stb sh J) (hT : isM sh) (hW : Wd G sh mT J S cs) (g1 : rng a1) (g2 : rng a2) (g3 : rng a3) (g4 : rng a4) (g5 : rng a5) (hw : wX11_begin a1 a2 a3 a4 a5 S K) : X G yX11_begin cX11_begin 9 none d [.ref (G.1 + 54), .int (Int32.ofInt a1), .int (Int32.ofInt a2), .int (Int32.ofInt a3), .int (Int32.ofInt a4), .int (Int32.ofInt a5)] cs (qV G sh mT J K) := by
  refine X.of false (by decide +kernel) (by decide) (Nat.le_of_ble_eq_true rfl) ?_
  show Z (RX11, cX11_begin, 9, none, false) G d _ 0 [(0, .ref (G.1 + 54)), (1, .int (Int32.ofInt a1)), (2, .int (Int32.ofInt a2)), (3, .int (Int32.ofInt a3)), (4, .int (Int32.ofInt a4)), (5, .int (Int32.ofInt a5))] [] cs
  have hP : ∀ (v : Int) (S : St) (cs : List va_E), K v S → Wd G sh mT J S cs → qV G sh mT J K (none) cs := fun v S cs a b => ⟨v, S, rfl, a, b⟩
  unfold wX11_begin at hw
  have hw := hw g1 g2 g3 g4 g5
  refine z_aload_n dX11_begin_0 rfl rfl ?_
  refine g_getR hW hT.1 mr15 kX11 fX11_50 dX11_begin_1 ?_
  refine z_iload_n dX11_begin_4 rfl rfl ?_
  obtain ⟨q1a, q1b, hw⟩ := hw
  have q2 : iv 0 5 (S.2 68 (a1)) := mA68 hW _
  have hw := hw q2
  refine g_iald hW (ma68 hT) q1a q1b (by decide) dX11_begin_5 ?_
  refine z_istore dX11_begin_6 (by decide) ?_
  refine z_aload_n dX11_begin_8 rfl rfl ?_
  refine z_iload_n dX11_begin_9 rfl rfl ?_
  refine z_iload_n dX11_begin_10 rfl rfl ?_
  have hX := lX11_element 1 (Nat.le_refl _) hJ hT hW g2 g3 hw
  refine z_callV (As := [_, _]) eX11_element sX11_element lX11_297 rfl dX11_begin_11 (hW.1 _ _ hT.1) hX (Nat.le_trans (by decide) hd) rfl (Nat.le_of_ble_eq_true rfl) (fun r cs hp => ?_)
  obtain ⟨r3, S4, rfl, hw, hW⟩ := hp
  refine z_st (st' := [.int (Int32.ofInt (r3))]) rfl ?_
  refine z_istore dX11_begin_14 (by decide) ?_
  refine z_aload_n dX11_begin_16 rfl rfl ?_
  refine z_dup dX11_begin_17 rfl ?_
  have q5 : iv 0 900 (S4.1 54 30) := mI30 hW
  have hw := hw q5
  refine g_getI hW hT.1 mr30 kX11 fX11_306 dX11_begin_18 ?_
  refine z_iconst (v := Int32.ofInt 1) dX11_begin_21 rfl ?_
  refine i_iadd dX11_begin_22 ?_
  obtain ⟨q7, hw⟩ := hw
  refine g_putI hJ hW hT.1 mr30 kX11 fX11_306 dX11_begin_23 rfl rfl rfl q7 (fun cs hW => ?_)
  obtain ⟨S6, hS6⟩ : ∃ x, x = pI S4 54 30 ((S4.1 54 30 + 1)) := ⟨_, rfl⟩
  rw [← hS6] at hW
  have hw := hw S6 hS6
  refine z_aload_n dX11_begin_26 rfl rfl ?_
  refine g_getR hW hT.1 mr29 kX11 fX11_75 dX11_begin_27 ?_
  refine z_iload_n dX11_begin_30 rfl rfl ?_
  obtain ⟨q8a, q8b, hw⟩ := hw
  have q9 : iv (-2) 899 (S6.2 75 (a1)) := mA75 hW _
  have hw := hw q9
  refine g_iald hW (ma75 hT) q8a q8b (by decide) dX11_begin_31 ?_
  refine z_bipush (v := Int32.ofInt (-2)) dX11_begin_32 (by decide) ?_
  refine i_icmp_ne (tgt := 55) dX11_begin_34 (by decide) (rngq q9 (by decide) (by decide)) ⟨by decide, by decide⟩ (fun h10 => ?_) (fun h10 => ?_)
  · have hw := hw.1 h10
    refine z_loc (L' := [(0, .ref (G.1 + 54)), (1, .int (Int32.ofInt (a1))), (3, .int (Int32.ofInt (a3))), (4, .int (Int32.ofInt (a4))), (5, .int (Int32.ofInt (a5))), (6, .int (Int32.ofInt (S.2 68 (a1)))), (7, .int (Int32.ofInt (r3)))]) (List.forall_mem_cons.mpr ⟨rfl, (List.forall_mem_cons.mpr ⟨rfl, (List.forall_mem_cons.mpr ⟨rfl, (List.forall_mem_cons.mpr ⟨rfl, (List.forall_mem_cons.mpr ⟨rfl, (List.forall_mem_cons.mpr ⟨rfl, (List.forall_mem_cons.mpr ⟨rfl, (fun _ h => nomatch h)⟩)⟩)⟩)⟩)⟩)⟩)⟩) ?_
    exact bX11_begin_55 hd hJ hT hW hP  hw
  · have hw := hw.2 h10
    refine z_aload_n dX11_begin_37 rfl rfl ?_
    refine g_getR hW hT.1 mr29 kX11 fX11_75 dX11_begin_38 ?_
    refine z_iload_n dX11_begin_41 rfl rfl ?_
    refine z_iload dX11_begin_42 rfl ?_
    obtain ⟨q11a, q11b, hw⟩ := hw
    obtain ⟨q13, hw⟩ := hw
    refine g_iast hJ hW (ma75 hT) q11a q11b (by decide) q13 dX11_begin_44 (fun cs hW => ?_)
    obtain ⟨S12, hS12⟩ : ∃ x, x = pA S6 75 (a1) (r3) := ⟨_, rfl⟩
    rw [← hS12] at hW
    have hw := hw S12 hS12
    refine z_aload_n dX11_begin_45 rfl rfl ?_
    refine g_getR hW hT.1 mr31 kX11 fX11_78 dX11_begin_46 ?_
    refine z_iload_n dX11_begin_49 rfl rfl ?_
    refine z_aload_n dX11_begin_50 rfl rfl ?_
    have q14 : iv 0 900 (S12.1 54 30) := mI30 hW
    have hw := hw q14
    refine g_getI hW hT.1 mr30 kX11 fX11_306 dX11_begin_51 ?_
    obtain ⟨q15a, q15b, hw⟩ := hw
    refine g_iast hJ hW (ma76 hT) q15a q15b (by decide) q14 dX11_begin_54 (fun cs hW => ?_)
    obtain ⟨S16, hS16⟩ : ∃ x, x = pA S12 76 (a1) (S12.1 54 30) := ⟨_, rfl⟩
    rw [← hS16] at hW
    have hw := hw S16 hS16
    refine z_loc (L' := [(0, .ref (G.1 + 54)), (1, .int (Int32.ofInt (a1))), (3, .int (Int32.ofInt (a3))), (4, .int (Int32.ofInt (a4))), (5, .int (Int32.ofInt (a5))), (6, .int (Int32.ofInt (S.2 68 (a1)))), (7, .int (Int32.ofInt (r3)))]) (List.forall_mem_cons.mpr ⟨rfl, (List.forall_mem_cons.mpr ⟨rfl, (List.forall_mem_cons.mpr ⟨rfl, (List.forall_mem_cons.mpr ⟨rfl, (List.forall_mem_cons.mpr ⟨rfl, (List.forall_mem_cons.mpr ⟨rfl, (List.forall_mem_cons.mpr ⟨rfl, (fun _ h => nomatch h)⟩)⟩)⟩)⟩)⟩)⟩)⟩) ?_
    exact bX11_begin_55 hd hJ hT hW hP  hw

def wX11_isBlank (a1 : Int) (S : St) (K : Int → St → Prop) : Prop := rng a1 → ((a1 = 32 → K (1) S) ∧ ((¬ (a1 = 32)) → ((a1 = 9 → K (1) S) ∧ ((¬ (a1 = 9)) → ((a1 = 10 → K (1) S) ∧ ((¬ (a1 = 10)) → ((¬ a1 = 13 → K (0) S) ∧ ((¬ (¬ a1 = 13)) → K (1) S))))))))
set_option maxRecDepth 100000 in
set_option maxHeartbeats 4000000 in
theorem lX11_isBlank {G : xG} {sh : Nat → Option Sh} {J : St → List va_E → Prop} {a1 : Int} {S : St} {cs : List va_E} {K : Int → St → Prop} (d : Nat) (hd : 0 ≤ d) (hJ : Stb sh J) (hT : isM sh) (hW : Wd G sh mT J S cs) (g1 : rng a1) (hw : wX11_isBlank a1 S K) : X G yX11_isBlank cX11_isBlank 1 (some .boolean) d [.int (Int32.ofInt a1)] cs (qI G sh mT J K) := by
  refine X.of false (by decide +kernel) (by decide) (Nat.le_of_ble_eq_true rfl) ?_
  show Z (RX11, cX11_isBlank, 1, some .boolean, false) G d _ 0 [(0, .int (Int32.ofInt a1))] [] cs
  have hP : ∀ (v : Int) (S : St) (cs : List va_E), K v S → Wd G sh mT J S cs → qI G sh mT J K (some (.int (Int32.ofInt v))) cs := fun v S cs a b => ⟨v, S, rfl, a, b⟩
  unfold wX11_isBlank at hw
  have hw := hw g1
  refine z_iload_n dX11_isBlank_0 rfl rfl ?_
  refine z_bipush (v := Int32.ofInt 32) dX11_isBlank_1 (by decide) ?_
  refine i_icmp_eq (tgt := 24) dX11_isBlank_3 (by decide) g1 ⟨by decide, by decide⟩ (fun h1 => ?_) (fun h1 => ?_)
  · have hw := hw.1 h1
    refine z_iconst (v := Int32.ofInt 1) dX11_isBlank_24 rfl ?_
    refine z_goto (tgt := 29) dX11_isBlank_25 (by decide) ?_
    exact z_ireturn dX11_isBlank_29 rfl (nar01 (by decide)) (hP _ _ _ hw hW)
  · have hw := hw.2 h1
    refine z_iload_n dX11_isBlank_6 rfl rfl ?_
    refine z_bipush (v := Int32.ofInt 9) dX11_isBlank_7 (by decide) ?_
    refine i_icmp_eq (tgt := 24) dX11_isBlank_9 (by decide) g1 ⟨by decide, by decide⟩ (fun h2 => ?_) (fun h2 => ?_)
    · have hw := hw.1 h2
      refine z_iconst (v := Int32.ofInt 1) dX11_isBlank_24 rfl ?_
      refine z_goto (tgt := 29) dX11_isBlank_25 (by decide) ?_
      exact z_ireturn dX11_isBlank_29 rfl (nar01 (by decide)) (hP _ _ _ hw hW)
    · have hw := hw.2 h2
      refine z_iload_n dX11_isBlank_12 rfl rfl ?_
      refine z_bipush (v := Int32.ofInt 10) dX11_isBlank_13 (by decide) ?_
      refine i_icmp_eq (tgt := 24) dX11_isBlank_15 (by decide) g1 ⟨by decide, by decide⟩ (fun h3 => ?_) (fun h3 => ?_)
      · have hw := hw.1 h3
        refine z_iconst (v := Int32.ofInt 1) dX11_isBlank_24 rfl ?_
        refine z_goto (tgt := 29) dX11_isBlank_25 (by decide) ?_
        exact z_ireturn dX11_isBlank_29 rfl (nar01 (by decide)) (hP _ _ _ hw hW)
      · have hw := hw.2 h3
        refine z_iload_n dX11_isBlank_18 rfl rfl ?_
        refine z_bipush (v := Int32.ofInt 13) dX11_isBlank_19 (by decide) ?_
        refine i_icmp_ne (tgt := 28) dX11_isBlank_21 (by decide) g1 ⟨by decide, by decide⟩ (fun h4 => ?_) (fun h4 => ?_)
        · have hw := hw.1 h4
          refine z_iconst (v := Int32.ofInt 0) dX11_isBlank_28 rfl ?_
          exact z_ireturn dX11_isBlank_29 rfl (nar01 (by decide)) (hP _ _ _ hw hW)
        · have hw := hw.2 h4
          refine z_iconst (v := Int32.ofInt 1) dX11_isBlank_24 rfl ?_
          refine z_goto (tgt := 29) dX11_isBlank_25 (by decide) ?_
          exact z_ireturn dX11_isBlank_29 rfl (nar01 (by decide)) (hP _ _ _ hw hW)

def wX11_blanksFrom_2' (l2 : Int) (S : St) (K : Int → St → Prop) (B2 : Int → St → Prop) : Prop := (rng (l2) ∧ (wX11_docAt (l2) S (fun r2 S3 => (rng (r2) ∧ (wX11_isBlank (r2) S3 (fun r5 S6 => (rng (r5) ∧ ((r5 = 0 → K (l2) S6) ∧ ((¬ (r5 = 0)) → B2 ((l2 + 1)) S6)))))))))
set_option maxRecDepth 100000 in
set_option maxHeartbeats 4000000 in
theorem bX11_blanksFrom_2' {G : xG} {sh : Nat → Option Sh} {J : St → List va_E → Prop} {d : Nat} {Post : xP} {l2 : Int} {S : St} {cs : List va_E} {K : Int → St → Prop} {B2 : Int → St → Prop} (hd : 1 ≤ d) (hJ : Stb sh J) (hT : isM sh) (hW : Wd G sh mT J S cs) (hP : ∀ (v : Int) (S : St) (cs : List va_E), K v S → Wd G sh mT J S cs → Post (some (.int (Int32.ofInt v))) cs) (hB2 : ∀ (l2 : Int) (S : St) (cs : List va_E), B2 l2 S → Wd G sh mT J S cs → Z (RX11, cX11_blanksFrom, 3, some .int, false) G d Post 2 [(0, .ref (G.1 + 54)), (2, .int (Int32.ofInt (l2)))] [] cs) (hw : wX11_blanksFrom_2' l2 S K B2) : Z (RX11, cX11_blanksFrom, 3, some .int, false) G d Post 2 [(0, .ref (G.1 + 54)), (2, .int (Int32.ofInt (l2)))] [] cs := by
  unfold wX11_blanksFrom_2' at hw
  refine z_aload_n dX11_blanksFrom_2 rfl rfl ?_
  refine z_iload_n dX11_blanksFrom_3 rfl rfl ?_
  obtain ⟨q1, hw⟩ := hw
  have hX := lX11_docAt 0 (Nat.le_refl _) hJ hT hW q1 hw
  refine z_callV (As := [_]) eX11_docAt sX11_docAt lX11_349 rfl dX11_blanksFrom_4 (hW.1 _ _ hT.1) hX (Nat.le_trans (by decide) hd) rfl (Nat.le_of_ble_eq_true rfl) (fun r cs hp => ?_)
  obtain ⟨r2, S3, rfl, hw, hW⟩ := hp
  refine z_st (st' := [.int (Int32.ofInt (r2))]) rfl ?_
  obtain ⟨q4, hw⟩ := hw
  have hX := lX11_isBlank 0 (Nat.le_refl _) hJ hT hW q4 hw
  refine z_callS (As := [_]) eX11_isBlank sX11_isBlank lX11_178 dX11_blanksFrom_7 hX (Nat.le_trans (by decide) hd) rfl (Nat.le_of_ble_eq_true rfl) (fun r cs hp => ?_)
  obtain ⟨r5, S6, rfl, hw, hW⟩ := hp
  refine z_st (st' := [.int (Int32.ofInt (r5))]) rfl ?_
  obtain ⟨q8, hw⟩ := hw
  refine i_if_eq (tgt := 19) dX11_blanksFrom_10 (by decide) q8 (fun h7 => ?_) (fun h7 => ?_)
  · have hw := hw.1 h7
    refine z_iload_n dX11_blanksFrom_19 rfl rfl ?_
    exact z_ireturn dX11_blanksFrom_20 rfl rfl (hP _ _ _ hw hW)
  · have hw := hw.2 h7
    refine i_iinc (l := l2) dX11_blanksFrom_13 rfl (by decide) ?_
    refine z_goto (tgt := 2) dX11_blanksFrom_16 (by decide) ?_
    refine z_loc (L' := [(0, .ref (G.1 + 54)), (2, .int (Int32.ofInt ((l2 + 1))))]) (List.forall_mem_cons.mpr ⟨rfl, (List.forall_mem_cons.mpr ⟨rfl, (fun _ h => nomatch h)⟩)⟩) ?_
    exact hB2 _ _ _ hw hW
def wX11_blanksFrom_2 (l2 : Int) (S : St) (K : Int → St → Prop) : Prop := ∃ (Iv : Int → St → Prop) (mu : Int → St → Nat), Iv l2 S ∧ ∀ (l2 : Int) (S : St), Iv l2 S → wX11_blanksFrom_2' l2 S K  (fun ml2 T => Iv ml2 T ∧ mu ml2 T < mu l2 S)
set_option maxRecDepth 100000 in
set_option maxHeartbeats 4000000 in
theorem bX11_blanksFrom_2 {G : xG} {sh : Nat → Option Sh} {J : St → List va_E → Prop} {d : Nat} {Post : xP} {l2 : Int} {S : St} {cs : List va_E} {K : Int → St → Prop} (hd : 1 ≤ d) (hJ : Stb sh J) (hT : isM sh) (hW : Wd G sh mT J S cs) (hP : ∀ (v : Int) (S : St) (cs : List va_E), K v S → Wd G sh mT J S cs → Post (some (.int (Int32.ofInt v))) cs)  (hw : wX11_blanksFrom_2 l2 S K ) : Z (RX11, cX11_blanksFrom, 3, some .int, false) G d Post 2 [(0, .ref (G.1 + 54)), (2, .int (Int32.ofInt (l2)))] [] cs := by
  unfold wX11_blanksFrom_2 at hw
  obtain ⟨Iv, mu, h0, hs⟩ := hw
  have key : ∀ (n : Nat) (l2 : Int) (S : St) (cs : List va_E), mu l2 S < n → Iv l2 S → Wd G sh mT J S cs → Z (RX11, cX11_blanksFrom, 3, some .int, false) G d Post 2 [(0, .ref (G.1 + 54)), (2, .int (Int32.ofInt (l2)))] [] cs := by
    intro n
    induction n with
    | zero => intro l2 S cs hn; exact absurd hn (Nat.not_lt_zero _)
    | succ n ih =>
      intro l2 S cs hn hI hW
      exact bX11_blanksFrom_2' hd hJ hT hW hP  (fun l2 S cs hb hW => ih l2 S cs (Nat.lt_of_lt_of_le hb.2 (Nat.le_of_lt_succ hn)) hb.1 hW) (hs l2 S hI)
  exact key _ _ _ _ (Nat.lt_succ_self _) h0 hW
def wX11_blanksFrom (a1 : Int) (S : St) (K : Int → St → Prop) : Prop := rng a1 → wX11_blanksFrom_2 (a1) S K
set_option maxRecDepth 100000 in
set_option maxHeartbeats 4000000 in
theorem lX11_blanksFrom {G : xG} {sh : Nat → Option Sh} {J : St → List va_E → Prop} {a1 : Int} {S : St} {cs : List va_E} {K : Int → St → Prop} (d : Nat) (hd : 1 ≤ d) (hJ : Stb sh J) (hT : isM sh) (hW : Wd G sh mT J S cs) (g1 : rng a1) (hw : wX11_blanksFrom a1 S K) : X G yX11_blanksFrom cX11_blanksFrom 3 (some .int) d [.ref (G.1 + 54), .int (Int32.ofInt a1)] cs (qI G sh mT J K) := by
  refine X.of false (by decide +kernel) (by decide) (Nat.le_of_ble_eq_true rfl) ?_
  show Z (RX11, cX11_blanksFrom, 3, some .int, false) G d _ 0 [(0, .ref (G.1 + 54)), (1, .int (Int32.ofInt a1))] [] cs
  have hP : ∀ (v : Int) (S : St) (cs : List va_E), K v S → Wd G sh mT J S cs → qI G sh mT J K (some (.int (Int32.ofInt v))) cs := fun v S cs a b => ⟨v, S, rfl, a, b⟩
  unfold wX11_blanksFrom at hw
  have hw := hw g1
  refine z_iload_n dX11_blanksFrom_0 rfl rfl ?_
  refine z_istore_n dX11_blanksFrom_1 rfl (by decide) ?_
  refine z_loc (L' := [(0, .ref (G.1 + 54)), (2, .int (Int32.ofInt (a1)))]) (List.forall_mem_cons.mpr ⟨rfl, (List.forall_mem_cons.mpr ⟨rfl, (fun _ h => nomatch h)⟩)⟩) ?_
  exact bX11_blanksFrom_2 hd hJ hT hW hP  hw

def wX11_beginTag_42 (l1 l4 : Int) (S : St) (K : Int → St → Prop) : Prop := (rng (l1) ∧ (wX11_fail (l1) S (fun r2 S3 => K (l4) S3)))
set_option maxRecDepth 100000 in
set_option maxHeartbeats 4000000 in
theorem bX11_beginTag_42 {G : xG} {sh : Nat → Option Sh} {J : St → List va_E → Prop} {d : Nat} {Post : xP} {l1 l4 : Int} {S : St} {cs : List va_E} {K : Int → St → Prop} (hd : 5 ≤ d) (hJ : Stb sh J) (hT : isM sh) (hW : Wd G sh mT J S cs) (hP : ∀ (v : Int) (S : St) (cs : List va_E), K v S → Wd G sh mT J S cs → Post (some (.int (Int32.ofInt v))) cs)  (hw : wX11_beginTag_42 l1 l4 S K ) : Z (RX11, cX11_beginTag, 9, some .int, false) G d Post 42 [(0, .ref (G.1 + 54)), (1, .int (Int32.ofInt (l1))), (4, .int (Int32.ofInt (l4)))] [] cs := by
  unfold wX11_beginTag_42 at hw
  refine z_aload_n dX11_beginTag_42 rfl rfl ?_
  refine z_iload_n dX11_beginTag_43 rfl rfl ?_
  obtain ⟨q1, hw⟩ := hw
  have hX := lX11_fail 0 (Nat.le_refl _) hJ hT hW q1 hw
  refine z_callV (As := [_]) eX11_fail sX11_fail lX11_362 rfl dX11_beginTag_44 (hW.1 _ _ hT.1) hX (Nat.le_trans (by decide) hd) rfl (Nat.le_of_ble_eq_true rfl) (fun r cs hp => ?_)
  obtain ⟨r2, S3, rfl, hw, hW⟩ := hp
  refine z_st (st' := []) rfl ?_
  refine z_iload dX11_beginTag_47 rfl ?_
  exact z_ireturn dX11_beginTag_49 rfl rfl (hP _ _ _ hw hW)
def wX11_beginTag_331 (l4 s0 : Int) (S : St) (K : Int → St → Prop) : Prop := (iv 0 1 (s0) ∧ (∀ S1, S1 = pI S 54 60 (s0) → (iv 0 1 (S1.1 54 60) → ((S1.1 54 60 = 0 → (rng (l4) ∧ (wX11_docAt (l4) S1 (fun r6 S7 => (rng (r6) ∧ ((r6 = 47 → (rng ((l4 + 1)) ∧ (wX11_docAt ((l4 + 1)) S7 (fun r11 S12 => (rng (r11) ∧ ((r11 = 62 → K ((l4 + 2)) S12) ∧ ((¬ (r11 = 62)) → (wX11_fail ((l4 + 1)) S12 (fun r15 S16 => K ((l4 + 2)) S16))))))))) ∧ ((¬ (r6 = 47)) → (wX11_fail (l4) S7 (fun r17 S18 => K ((l4 + 2)) S18))))))))) ∧ ((¬ (S1.1 54 60 = 0)) → K ((l4 + 1)) S1)))))
set_option maxRecDepth 100000 in
set_option maxHeartbeats 4000000 in
theorem bX11_beginTag_331 {G : xG} {sh : Nat → Option Sh} {J : St → List va_E → Prop} {d : Nat} {Post : xP} {l4 s0 : Int} {S : St} {cs : List va_E} {K : Int → St → Prop} (hd : 5 ≤ d) (hJ : Stb sh J) (hT : isM sh) (hW : Wd G sh mT J S cs) (hP : ∀ (v : Int) (S : St) (cs : List va_E), K v S → Wd G sh mT J S cs → Post (some (.int (Int32.ofInt v))) cs)  (hw : wX11_beginTag_331 l4 s0 S K ) : Z (RX11, cX11_beginTag, 9, some .int, false) G d Post 331 [(0, .ref (G.1 + 54)), (4, .int (Int32.ofInt (l4)))] [.int (Int32.ofInt (s0)), .ref (G.1 + 54)] cs := by
  unfold wX11_beginTag_331 at hw
  obtain ⟨q2, hw⟩ := hw
  refine g_putI hJ hW hT.1 mr60 kX11 fX11_395 dX11_beginTag_331 rfl (nar01 (b01 q2)) (fit01 (b01 q2)) q2 (fun cs hW => ?_)
  obtain ⟨S1, hS1⟩ : ∃ x, x = pI S 54 60 (s0) := ⟨_, rfl⟩
  rw [← hS1] at hW
  have hw := hw S1 hS1
  refine z_aload_n dX11_beginTag_334 rfl rfl ?_
  have q3 : iv 0 1 (S1.1 54 60) := mI60 hW
  have hw := hw q3
  refine g_getI hW hT.1 mr60 kX11 fX11_395 dX11_beginTag_335 ?_
  refine i_if_eq (tgt := 346) dX11_beginTag_338 (by decide) (rngq q3 (by decide) (by decide)) (fun h4 => ?_) (fun h4 => ?_)
  · have hw := hw.1 h4
    refine z_aload_n dX11_beginTag_346 rfl rfl ?_
    refine z_iload dX11_beginTag_347 rfl ?_
    obtain ⟨q5, hw⟩ := hw
    have hX := lX11_docAt 0 (Nat.le_refl _) hJ hT hW q5 hw
    refine z_callV (As := [_]) eX11_docAt sX11_docAt lX11_349 rfl dX11_beginTag_349 (hW.1 _ _ hT.1) hX (Nat.le_trans (by decide) hd) rfl (Nat.le_of_ble_eq_true rfl) (fun r cs hp => ?_)
    obtain ⟨r6, S7, rfl, hw, hW⟩ := hp
    refine z_st (st' := [.int (Int32.ofInt (r6))]) rfl ?_
    refine z_bipush (v := Int32.ofInt 47) dX11_beginTag_352 (by decide) ?_
    obtain ⟨q9, hw⟩ := hw
    refine i_icmp_eq (tgt := 366) dX11_beginTag_354 (by decide) q9 ⟨by decide, by decide⟩ (fun h8 => ?_) (fun h8 => ?_)
    · have hw := hw.1 h8
      refine z_aload_n dX11_beginTag_366 rfl rfl ?_
      refine z_iload dX11_beginTag_367 rfl ?_
      refine z_iconst (v := Int32.ofInt 1) dX11_beginTag_369 rfl ?_
      refine i_iadd dX11_beginTag_370 ?_
      obtain ⟨q10, hw⟩ := hw
      have hX := lX11_docAt 0 (Nat.le_refl _) hJ hT hW q10 hw
      refine z_callV (As := [_]) eX11_docAt sX11_docAt lX11_349 rfl dX11_beginTag_371 (hW.1 _ _ hT.1) hX (Nat.le_trans (by decide) hd) rfl (Nat.le_of_ble_eq_true rfl) (fun r cs hp => ?_)
      obtain ⟨r11, S12, rfl, hw, hW⟩ := hp
      refine z_st (st' := [.int (Int32.ofInt (r11))]) rfl ?_
      refine z_bipush (v := Int32.ofInt 62) dX11_beginTag_374 (by decide) ?_
      obtain ⟨q14, hw⟩ := hw
      refine i_icmp_eq (tgt := 387) dX11_beginTag_376 (by decide) q14 ⟨by decide, by decide⟩ (fun h13 => ?_) (fun h13 => ?_)
      · have hw := hw.1 h13
        refine z_iload dX11_beginTag_387 rfl ?_
        refine z_iconst (v := Int32.ofInt 2) dX11_beginTag_389 rfl ?_
        refine i_iadd dX11_beginTag_390 ?_
        exact z_ireturn dX11_beginTag_391 rfl rfl (hP _ _ _ hw hW)
      · have hw := hw.2 h13
        refine z_aload_n dX11_beginTag_379 rfl rfl ?_
        refine z_iload dX11_beginTag_380 rfl ?_
        refine z_iconst (v := Int32.ofInt 1) dX11_beginTag_382 rfl ?_
        refine i_iadd dX11_beginTag_383 ?_
        have hX := lX11_fail 0 (Nat.le_refl _) hJ hT hW q10 hw
        refine z_callV (As := [_]) eX11_fail sX11_fail lX11_362 rfl dX11_beginTag_384 (hW.1 _ _ hT.1) hX (Nat.le_trans (by decide) hd) rfl (Nat.le_of_ble_eq_true rfl) (fun r cs hp => ?_)
        obtain ⟨r15, S16, rfl, hw, hW⟩ := hp
        refine z_st (st' := []) rfl ?_
        refine z_iload dX11_beginTag_387 rfl ?_
        refine z_iconst (v := Int32.ofInt 2) dX11_beginTag_389 rfl ?_
        refine i_iadd dX11_beginTag_390 ?_
        exact z_ireturn dX11_beginTag_391 rfl rfl (hP _ _ _ hw hW)
    · have hw := hw.2 h8
      refine z_aload_n dX11_beginTag_357 rfl rfl ?_
      refine z_iload dX11_beginTag_358 rfl ?_
      have hX := lX11_fail 0 (Nat.le_refl _) hJ hT hW q5 hw
      refine z_callV (As := [_]) eX11_fail sX11_fail lX11_362 rfl dX11_beginTag_360 (hW.1 _ _ hT.1) hX (Nat.le_trans (by decide) hd) rfl (Nat.le_of_ble_eq_true rfl) (fun r cs hp => ?_)
      obtain ⟨r17, S18, rfl, hw, hW⟩ := hp
      refine z_st (st' := []) rfl ?_
      refine z_goto (tgt := 387) dX11_beginTag_363 (by decide) ?_
      refine z_iload dX11_beginTag_387 rfl ?_
      refine z_iconst (v := Int32.ofInt 2) dX11_beginTag_389 rfl ?_
      refine i_iadd dX11_beginTag_390 ?_
      exact z_ireturn dX11_beginTag_391 rfl rfl (hP _ _ _ hw hW)
  · have hw := hw.2 h4
    refine z_iload dX11_beginTag_341 rfl ?_
    refine z_iconst (v := Int32.ofInt 1) dX11_beginTag_343 rfl ?_
    refine i_iadd dX11_beginTag_344 ?_
    exact z_ireturn dX11_beginTag_345 rfl rfl (hP _ _ _ hw hW)
def wX11_beginTag_302 (l4 : Int) (S : St) (K : Int → St → Prop) : Prop := (iv (-2147483648) 2147483647 (S.1 54 59) → ((S.1 54 59 = (-2) → (rng (l4) ∧ (wX11_docAt (l4) S (fun r4 S5 => (rng (r4) ∧ ((¬ r4 = 62 → wX11_beginTag_331 (l4) (0) S5 K) ∧ ((¬ (¬ r4 = 62)) → wX11_beginTag_331 (l4) (1) S5 K))))))) ∧ ((¬ (S.1 54 59 = (-2))) → K (l4) S)))
set_option maxRecDepth 100000 in
set_option maxHeartbeats 4000000 in
theorem bX11_beginTag_302 {G : xG} {sh : Nat → Option Sh} {J : St → List va_E → Prop} {d : Nat} {Post : xP} {l4 : Int} {S : St} {cs : List va_E} {K : Int → St → Prop} (hd : 5 ≤ d) (hJ : Stb sh J) (hT : isM sh) (hW : Wd G sh mT J S cs) (hP : ∀ (v : Int) (S : St) (cs : List va_E), K v S → Wd G sh mT J S cs → Post (some (.int (Int32.ofInt v))) cs)  (hw : wX11_beginTag_302 l4 S K ) : Z (RX11, cX11_beginTag, 9, some .int, false) G d Post 302 [(0, .ref (G.1 + 54)), (4, .int (Int32.ofInt (l4)))] [] cs := by
  unfold wX11_beginTag_302 at hw
  refine z_aload_n dX11_beginTag_302 rfl rfl ?_
  have q1 : iv (-2147483648) 2147483647 (S.1 54 59) := mI59 hW
  have hw := hw q1
  refine g_getI hW hT.1 mr59 kX11 fX11_343 dX11_beginTag_303 ?_
  refine z_bipush (v := Int32.ofInt (-2)) dX11_beginTag_306 (by decide) ?_
  refine i_icmp_eq (tgt := 314) dX11_beginTag_308 (by decide) (rngq q1 (by decide) (by decide)) ⟨by decide, by decide⟩ (fun h2 => ?_) (fun h2 => ?_)
  · have hw := hw.1 h2
    refine z_aload_n dX11_beginTag_314 rfl rfl ?_
    refine z_aload_n dX11_beginTag_315 rfl rfl ?_
    refine z_iload dX11_beginTag_316 rfl ?_
    obtain ⟨q3, hw⟩ := hw
    have hX := lX11_docAt 0 (Nat.le_refl _) hJ hT hW q3 hw
    refine z_callV (As := [_]) eX11_docAt sX11_docAt lX11_349 rfl dX11_beginTag_318 (hW.1 _ _ hT.1) hX (Nat.le_trans (by decide) hd) rfl (Nat.le_of_ble_eq_true rfl) (fun r cs hp => ?_)
    obtain ⟨r4, S5, rfl, hw, hW⟩ := hp
    refine z_st (st' := [.int (Int32.ofInt (r4)), .ref (G.1 + 54)]) rfl ?_
    refine z_bipush (v := Int32.ofInt 62) dX11_beginTag_321 (by decide) ?_
    obtain ⟨q7, hw⟩ := hw
    refine i_icmp_ne (tgt := 330) dX11_beginTag_323 (by decide) q7 ⟨by decide, by decide⟩ (fun h6 => ?_) (fun h6 => ?_)
    · have hw := hw.1 h6
      refine z_iconst (v := Int32.ofInt 0) dX11_beginTag_330 rfl ?_
      refine z_loc (L' := [(0, .ref (G.1 + 54)), (4, .int (Int32.ofInt (l4)))]) (List.forall_mem_cons.mpr ⟨rfl, (List.forall_mem_cons.mpr ⟨rfl, (fun _ h => nomatch h)⟩)⟩) ?_
      exact bX11_beginTag_331 hd hJ hT hW hP  hw
    · have hw := hw.2 h6
      refine z_iconst (v := Int32.ofInt 1) dX11_beginTag_326 rfl ?_
      refine z_goto (tgt := 331) dX11_beginTag_327 (by decide) ?_
      refine z_loc (L' := [(0, .ref (G.1 + 54)), (4, .int (Int32.ofInt (l4)))]) (List.forall_mem_cons.mpr ⟨rfl, (List.forall_mem_cons.mpr ⟨rfl, (fun _ h => nomatch h)⟩)⟩) ?_
      exact bX11_beginTag_331 hd hJ hT hW hP  hw
  · have hw := hw.2 h2
    refine z_iload dX11_beginTag_311 rfl ?_
    exact z_ireturn dX11_beginTag_313 rfl rfl (hP _ _ _ hw hW)
def wX11_beginTag_299 (l4 l5 l6 : Int) (S : St) (K : Int → St → Prop) (B234 : Int → Int → Int → St → Prop) : Prop := B234 (l4) (l5) (l6) S
set_option maxRecDepth 100000 in
set_option maxHeartbeats 4000000 in
theorem bX11_beginTag_299 {G : xG} {sh : Nat → Option Sh} {J : St → List va_E → Prop} {d : Nat} {Post : xP} {l4 l5 l6 : Int} {S : St} {cs : List va_E} {K : Int → St → Prop} {B234 : Int → Int → Int → St → Prop} (hd : 5 ≤ d) (hJ : Stb sh J) (hT : isM sh) (hW : Wd G sh mT J S cs) (hP : ∀ (v : Int) (S : St) (cs : List va_E), K v S → Wd G sh mT J S cs → Post (some (.int (Int32.ofInt v))) cs) (hB234 : ∀ (l4 : Int) (l5 : Int) (l6 : Int) (S : St) (cs : List va_E), B234 l4 l5 l6 S → Wd G sh mT J S cs → Z (RX11, cX11_beginTag, 9, some .int, false) G d Post 234 [(0, .ref (G.1 + 54)), (4, .int (Int32.ofInt (l4))), (5, .int (Int32.ofInt (l5))), (6, .int (Int32.ofInt (l6)))] [] cs) (hw : wX11_beginTag_299 l4 l5 l6 S K B234) : Z (RX11, cX11_beginTag, 9, some .int, false) G d Post 299 [(0, .ref (G.1 + 54)), (4, .int (Int32.ofInt (l4))), (5, .int (Int32.ofInt (l5))), (6, .int (Int32.ofInt (l6)))] [] cs := by
  unfold wX11_beginTag_299 at hw
  refine z_goto (tgt := 234) dX11_beginTag_299 (by decide) ?_
  refine z_loc (L' := [(0, .ref (G.1 + 54)), (4, .int (Int32.ofInt (l4))), (5, .int (Int32.ofInt (l5))), (6, .int (Int32.ofInt (l6)))]) (List.forall_mem_cons.mpr ⟨rfl, (List.forall_mem_cons.mpr ⟨rfl, (List.forall_mem_cons.mpr ⟨rfl, (List.forall_mem_cons.mpr ⟨rfl, (fun _ h => nomatch h)⟩)⟩)⟩)⟩) ?_
  exact hB234 _ _ _ _ _ hw hW
def wX11_beginTag_292 (l5 l7 : Int) (S : St) (K : Int → St → Prop) (B234 : Int → Int → Int → St → Prop) : Prop := wX11_beginTag_299 (l7) (l5) (0) S K B234
set_option maxRecDepth 100000 in
set_option maxHeartbeats 4000000 in
theorem bX11_beginTag_292 {G : xG} {sh : Nat → Option Sh} {J : St → List va_E → Prop} {d : Nat} {Post : xP} {l5 l7 : Int} {S : St} {cs : List va_E} {K : Int → St → Prop} {B234 : Int → Int → Int → St → Prop} (hd : 5 ≤ d) (hJ : Stb sh J) (hT : isM sh) (hW : Wd G sh mT J S cs) (hP : ∀ (v : Int) (S : St) (cs : List va_E), K v S → Wd G sh mT J S cs → Post (some (.int (Int32.ofInt v))) cs) (hB234 : ∀ (l4 : Int) (l5 : Int) (l6 : Int) (S : St) (cs : List va_E), B234 l4 l5 l6 S → Wd G sh mT J S cs → Z (RX11, cX11_beginTag, 9, some .int, false) G d Post 234 [(0, .ref (G.1 + 54)), (4, .int (Int32.ofInt (l4))), (5, .int (Int32.ofInt (l5))), (6, .int (Int32.ofInt (l6)))] [] cs) (hw : wX11_beginTag_292 l5 l7 S K B234) : Z (RX11, cX11_beginTag, 9, some .int, false) G d Post 292 [(0, .ref (G.1 + 54)), (5, .int (Int32.ofInt (l5))), (7, .int (Int32.ofInt (l7)))] [] cs := by
  unfold wX11_beginTag_292 at hw
  refine z_iconst (v := Int32.ofInt 0) dX11_beginTag_292 rfl ?_
  refine z_istore dX11_beginTag_293 (by decide) ?_
  refine z_iload dX11_beginTag_295 rfl ?_
  refine z_istore dX11_beginTag_297 (by decide) ?_
  refine z_loc (L' := [(0, .ref (G.1 + 54)), (4, .int (Int32.ofInt (l7))), (5, .int (Int32.ofInt (l5))), (6, .int (Int32.ofInt (0)))]) (List.forall_mem_cons.mpr ⟨rfl, (List.forall_mem_cons.mpr ⟨rfl, (List.forall_mem_cons.mpr ⟨rfl, (List.forall_mem_cons.mpr ⟨rfl, (fun _ h => nomatch h)⟩)⟩)⟩)⟩) ?_
  exact bX11_beginTag_299 hd hJ hT hW hP hB234 hw
def wX11_beginTag_234' (l4 l5 l6 : Int) (S : St) (K : Int → St → Prop) (B234 : Int → Int → Int → St → Prop) : Prop := (rng (l6) ∧ ((l6 = 0 → wX11_beginTag_302 (l4) S K) ∧ ((¬ (l6 = 0)) → (iv (-2147483648) 2147483647 (S.1 54 59) → ((¬ S.1 54 59 = (-2) → wX11_beginTag_302 (l4) S K) ∧ ((¬ (¬ S.1 54 59 = (-2))) → (rng (l4) ∧ (wX11_blanksFrom (l4) S (fun r6 S7 => (rng (r6) ∧ (wX11_docAt (r6) S7 (fun r9 S10 => ((r6 ≤ l4 → wX11_beginTag_292 (l5) (r6) S10 K B234) ∧ ((¬ (r6 ≤ l4)) → (rng (r9) ∧ (wX11_beginsName (r9) S10 (fun r13 S14 => (rng (r13) ∧ ((r13 = 0 → wX11_beginTag_292 (l5) (r6) S14 K B234) ∧ ((¬ (r13 = 0)) → (rng (l5) ∧ (wX11_attribute (r6) (l5) S14 (fun r18 S19 => wX11_beginTag_299 (r18) (l5) (l6) S19 K B234)))))))))))))))))))))))
set_option maxRecDepth 100000 in
set_option maxHeartbeats 4000000 in
theorem bX11_beginTag_234' {G : xG} {sh : Nat → Option Sh} {J : St → List va_E → Prop} {d : Nat} {Post : xP} {l4 l5 l6 : Int} {S : St} {cs : List va_E} {K : Int → St → Prop} {B234 : Int → Int → Int → St → Prop} (hd : 5 ≤ d) (hJ : Stb sh J) (hT : isM sh) (hW : Wd G sh mT J S cs) (hP : ∀ (v : Int) (S : St) (cs : List va_E), K v S → Wd G sh mT J S cs → Post (some (.int (Int32.ofInt v))) cs) (hB234 : ∀ (l4 : Int) (l5 : Int) (l6 : Int) (S : St) (cs : List va_E), B234 l4 l5 l6 S → Wd G sh mT J S cs → Z (RX11, cX11_beginTag, 9, some .int, false) G d Post 234 [(0, .ref (G.1 + 54)), (4, .int (Int32.ofInt (l4))), (5, .int (Int32.ofInt (l5))), (6, .int (Int32.ofInt (l6)))] [] cs) (hw : wX11_beginTag_234' l4 l5 l6 S K B234) : Z (RX11, cX11_beginTag, 9, some .int, false) G d Post 234 [(0, .ref (G.1 + 54)), (4, .int (Int32.ofInt (l4))), (5, .int (Int32.ofInt (l5))), (6, .int (Int32.ofInt (l6)))] [] cs := by
  unfold wX11_beginTag_234' at hw
  refine z_iload dX11_beginTag_234 rfl ?_
  obtain ⟨q2, hw⟩ := hw
  refine i_if_eq (tgt := 302) dX11_beginTag_236 (by decide) q2 (fun h1 => ?_) (fun h1 => ?_)
  · have hw := hw.1 h1
    refine z_loc (L' := [(0, .ref (G.1 + 54)), (4, .int (Int32.ofInt (l4)))]) (List.forall_mem_cons.mpr ⟨rfl, (List.forall_mem_cons.mpr ⟨rfl, (fun _ h => nomatch h)⟩)⟩) ?_
    exact bX11_beginTag_302 hd hJ hT hW hP  hw
  · have hw := hw.2 h1
    refine z_aload_n dX11_beginTag_239 rfl rfl ?_
    have q3 : iv (-2147483648) 2147483647 (S.1 54 59) := mI59 hW
    have hw := hw q3
    refine g_getI hW hT.1 mr59 kX11 fX11_343 dX11_beginTag_240 ?_
    refine z_bipush (v := Int32.ofInt (-2)) dX11_beginTag_243 (by decide) ?_
    refine i_icmp_ne (tgt := 302) dX11_beginTag_245 (by decide) (rngq q3 (by decide) (by decide)) ⟨by decide, by decide⟩ (fun h4 => ?_) (fun h4 => ?_)
    · have hw := hw.1 h4
      refine z_loc (L' := [(0, .ref (G.1 + 54)), (4, .int (Int32.ofInt (l4)))]) (List.forall_mem_cons.mpr ⟨rfl, (List.forall_mem_cons.mpr ⟨rfl, (fun _ h => nomatch h)⟩)⟩) ?_
      exact bX11_beginTag_302 hd hJ hT hW hP  hw
    · have hw := hw.2 h4
      refine z_aload_n dX11_beginTag_248 rfl rfl ?_
      refine z_iload dX11_beginTag_249 rfl ?_
      obtain ⟨q5, hw⟩ := hw
      have hX := lX11_blanksFrom 1 (Nat.le_refl _) hJ hT hW q5 hw
      refine z_callV (As := [_]) eX11_blanksFrom sX11_blanksFrom lX11_389 rfl dX11_beginTag_251 (hW.1 _ _ hT.1) hX (Nat.le_trans (by decide) hd) rfl (Nat.le_of_ble_eq_true rfl) (fun r cs hp => ?_)
      obtain ⟨r6, S7, rfl, hw, hW⟩ := hp
      refine z_st (st' := [.int (Int32.ofInt (r6))]) rfl ?_
      refine z_istore dX11_beginTag_254 (by decide) ?_
      refine z_aload_n dX11_beginTag_256 rfl rfl ?_
      refine z_iload dX11_beginTag_257 rfl ?_
      obtain ⟨q8, hw⟩ := hw
      have hX := lX11_docAt 0 (Nat.le_refl _) hJ hT hW q8 hw
      refine z_callV (As := [_]) eX11_docAt sX11_docAt lX11_349 rfl dX11_beginTag_259 (hW.1 _ _ hT.1) hX (Nat.le_trans (by decide) hd) rfl (Nat.le_of_ble_eq_true rfl) (fun r cs hp => ?_)
      obtain ⟨r9, S10, rfl, hw, hW⟩ := hp
      refine z_st (st' := [.int (Int32.ofInt (r9))]) rfl ?_
      refine z_istore dX11_beginTag_262 (by decide) ?_
      refine z_iload dX11_beginTag_264 rfl ?_
      refine z_iload dX11_beginTag_266 rfl ?_
      refine i_icmp_le (tgt := 292) dX11_beginTag_268 (by decide) q8 q5 (fun h11 => ?_) (fun h11 => ?_)
      · have hw := hw.1 h11
        refine z_loc (L' := [(0, .ref (G.1 + 54)), (5, .int (Int32.ofInt (l5))), (7, .int (Int32.ofInt (r6)))]) (List.forall_mem_cons.mpr ⟨rfl, (List.forall_mem_cons.mpr ⟨rfl, (List.forall_mem_cons.mpr ⟨rfl, (fun _ h => nomatch h)⟩)⟩)⟩) ?_
        exact bX11_beginTag_292 hd hJ hT hW hP hB234 hw
      · have hw := hw.2 h11
        refine z_iload dX11_beginTag_271 rfl ?_
        obtain ⟨q12, hw⟩ := hw
        have hX := lX11_beginsName 1 (Nat.le_refl _) hJ hT hW q12 hw
        refine z_callS (As := [_]) eX11_beginsName sX11_beginsName lX11_346 dX11_beginTag_273 hX (Nat.le_trans (by decide) hd) rfl (Nat.le_of_ble_eq_true rfl) (fun r cs hp => ?_)
        obtain ⟨r13, S14, rfl, hw, hW⟩ := hp
        refine z_st (st' := [.int (Int32.ofInt (r13))]) rfl ?_
        obtain ⟨q16, hw⟩ := hw
        refine i_if_eq (tgt := 292) dX11_beginTag_276 (by decide) q16 (fun h15 => ?_) (fun h15 => ?_)
        · have hw := hw.1 h15
          refine z_loc (L' := [(0, .ref (G.1 + 54)), (5, .int (Int32.ofInt (l5))), (7, .int (Int32.ofInt (r6)))]) (List.forall_mem_cons.mpr ⟨rfl, (List.forall_mem_cons.mpr ⟨rfl, (List.forall_mem_cons.mpr ⟨rfl, (fun _ h => nomatch h)⟩)⟩)⟩) ?_
          exact bX11_beginTag_292 hd hJ hT hW hP hB234 hw
        · have hw := hw.2 h15
          refine z_aload_n dX11_beginTag_279 rfl rfl ?_
          refine z_iload dX11_beginTag_280 rfl ?_
          refine z_iload dX11_beginTag_282 rfl ?_
          obtain ⟨q17, hw⟩ := hw
          have hX := lX11_attribute 4 (Nat.le_refl _) hJ hT hW q8 q17 hw
          refine z_callV (As := [_, _]) eX11_attribute sX11_attribute lX11_392 rfl dX11_beginTag_284 (hW.1 _ _ hT.1) hX (Nat.le_trans (by decide) hd) rfl (Nat.le_of_ble_eq_true rfl) (fun r cs hp => ?_)
          obtain ⟨r18, S19, rfl, hw, hW⟩ := hp
          refine z_st (st' := [.int (Int32.ofInt (r18))]) rfl ?_
          refine z_istore dX11_beginTag_287 (by decide) ?_
          refine z_goto (tgt := 299) dX11_beginTag_289 (by decide) ?_
          refine z_loc (L' := [(0, .ref (G.1 + 54)), (4, .int (Int32.ofInt (r18))), (5, .int (Int32.ofInt (l5))), (6, .int (Int32.ofInt (l6)))]) (List.forall_mem_cons.mpr ⟨rfl, (List.forall_mem_cons.mpr ⟨rfl, (List.forall_mem_cons.mpr ⟨rfl, (List.forall_mem_cons.mpr ⟨rfl, (fun _ h => nomatch h)⟩)⟩)⟩)⟩) ?_
          exact bX11_beginTag_299 hd hJ hT hW hP hB234 hw
def wX11_beginTag_234 (l4 l5 l6 : Int) (S : St) (K : Int → St → Prop) : Prop := ∃ (Iv : Int → Int → Int → St → Prop) (mu : Int → Int → Int → St → Nat), Iv l4 l5 l6 S ∧ ∀ (l4 l5 l6 : Int) (S : St), Iv l4 l5 l6 S → wX11_beginTag_234' l4 l5 l6 S K  (fun ml4 ml5 ml6 T => Iv ml4 ml5 ml6 T ∧ mu ml4 ml5 ml6 T < mu l4 l5 l6 S)
set_option maxRecDepth 100000 in
set_option maxHeartbeats 4000000 in
theorem bX11_beginTag_234 {G : xG} {sh : Nat → Option Sh} {J : St → List va_E → Prop} {d : Nat} {Post : xP} {l4 l5 l6 : Int} {S : St} {cs : List va_E} {K : Int → St → Prop} (hd : 5 ≤ d) (hJ : Stb sh J) (hT : isM sh) (hW : Wd G sh mT J S cs) (hP : ∀ (v : Int) (S : St) (cs : List va_E), K v S → Wd G sh mT J S cs → Post (some (.int (Int32.ofInt v))) cs)  (hw : wX11_beginTag_234 l4 l5 l6 S K ) : Z (RX11, cX11_beginTag, 9, some .int, false) G d Post 234 [(0, .ref (G.1 + 54)), (4, .int (Int32.ofInt (l4))), (5, .int (Int32.ofInt (l5))), (6, .int (Int32.ofInt (l6)))] [] cs := by
  unfold wX11_beginTag_234 at hw
  obtain ⟨Iv, mu, h0, hs⟩ := hw
  have key : ∀ (n : Nat) (l4 l5 l6 : Int) (S : St) (cs : List va_E), mu l4 l5 l6 S < n → Iv l4 l5 l6 S → Wd G sh mT J S cs → Z (RX11, cX11_beginTag, 9, some .int, false) G d Post 234 [(0, .ref (G.1 + 54)), (4, .int (Int32.ofInt (l4))), (5, .int (Int32.ofInt (l5))), (6, .int (Int32.ofInt (l6)))] [] cs := by
    intro n
    induction n with
    | zero => intro l4 l5 l6 S cs hn; exact absurd hn (Nat.not_lt_zero _)
    | succ n ih =>
      intro l4 l5 l6 S cs hn hI hW
      exact bX11_beginTag_234' hd hJ hT hW hP  (fun l4 l5 l6 S cs hb hW => ih l4 l5 l6 S cs (Nat.lt_of_lt_of_le hb.2 (Nat.le_of_lt_succ hn)) hb.1 hW) (hs l4 l5 l6 S hI)
  exact key _ _ _ _ _ _ (Nat.lt_succ_self _) h0 hW
def wX11_beginTag_205 (l2 l4 l5 l6 s0 s1 : Int) (S : St) (K : Int → St → Prop) (B127 : Int → Int → Int → Int → St → Prop) : Prop := ((0 : Int) ≤ s1 ∧ s1 < (200 : Int) ∧ (iv 0 201 (s0) ∧ (∀ S2, S2 = pA S 89 (s1) (s0) → B127 (l2) (l4) (l5) ((l6 + 1)) S2)))
set_option maxRecDepth 100000 in
set_option maxHeartbeats 4000000 in
theorem bX11_beginTag_205 {G : xG} {sh : Nat → Option Sh} {J : St → List va_E → Prop} {d : Nat} {Post : xP} {l2 l4 l5 l6 s0 s1 : Int} {S : St} {cs : List va_E} {K : Int → St → Prop} {B127 : Int → Int → Int → Int → St → Prop} (hd : 5 ≤ d) (hJ : Stb sh J) (hT : isM sh) (hW : Wd G sh mT J S cs) (hP : ∀ (v : Int) (S : St) (cs : List va_E), K v S → Wd G sh mT J S cs → Post (some (.int (Int32.ofInt v))) cs) (hB127 : ∀ (l2 : Int) (l4 : Int) (l5 : Int) (l6 : Int) (S : St) (cs : List va_E), B127 l2 l4 l5 l6 S → Wd G sh mT J S cs → Z (RX11, cX11_beginTag, 9, some .int, false) G d Post 127 [(0, .ref (G.1 + 54)), (2, .int (Int32.ofInt (l2))), (4, .int (Int32.ofInt (l4))), (5, .int (Int32.ofInt (l5))), (6, .int (Int32.ofInt (l6)))] [] cs) (hw : wX11_beginTag_205 l2 l4 l5 l6 s0 s1 S K B127) : Z (RX11, cX11_beginTag, 9, some .int, false) G d Post 205 [(0, .ref (G.1 + 54)), (2, .int (Int32.ofInt (l2))), (4, .int (Int32.ofInt (l4))), (5, .int (Int32.ofInt (l5))), (6, .int (Int32.ofInt (l6)))] [.int (Int32.ofInt (s0)), .int (Int32.ofInt (s1)), .ref (G.1 + 89)] cs := by
  unfold wX11_beginTag_205 at hw
  obtain ⟨q1a, q1b, hw⟩ := hw
  obtain ⟨q3, hw⟩ := hw
  refine g_iast hJ hW (ma89 hT) q1a q1b (by decide) q3 dX11_beginTag_205 (fun cs hW => ?_)
  obtain ⟨S2, hS2⟩ : ∃ x, x = pA S 89 (s1) (s0) := ⟨_, rfl⟩
  rw [← hS2] at hW
  have hw := hw S2 hS2
  refine i_iinc (l := l6) dX11_beginTag_206 rfl (by decide) ?_
  refine z_goto (tgt := 127) dX11_beginTag_209 (by decide) ?_
  refine z_loc (L' := [(0, .ref (G.1 + 54)), (2, .int (Int32.ofInt (l2))), (4, .int (Int32.ofInt (l4))), (5, .int (Int32.ofInt (l5))), (6, .int (Int32.ofInt ((l6 + 1))))]) (List.forall_mem_cons.mpr ⟨rfl, (List.forall_mem_cons.mpr ⟨rfl, (List.forall_mem_cons.mpr ⟨rfl, (List.forall_mem_cons.mpr ⟨rfl, (List.forall_mem_cons.mpr ⟨rfl, (fun _ h => nomatch h)⟩)⟩)⟩)⟩)⟩) ?_
  exact hB127 _ _ _ _ _ _ hw hW
def wX11_beginTag_198 (l2 l4 l5 l6 s0 : Int) (S : St) (K : Int → St → Prop) (B127 : Int → Int → Int → Int → St → Prop) : Prop := ((0 : Int) ≤ l5 ∧ l5 < (200 : Int) ∧ (iv 0 201 (S.2 89 (l5)) → wX11_beginTag_205 (l2) (l4) (l5) (l6) (S.2 89 (l5)) (s0) S K B127))
set_option maxRecDepth 100000 in
set_option maxHeartbeats 4000000 in
theorem bX11_beginTag_198 {G : xG} {sh : Nat → Option Sh} {J : St → List va_E → Prop} {d : Nat} {Post : xP} {l2 l4 l5 l6 s0 : Int} {S : St} {cs : List va_E} {K : Int → St → Prop} {B127 : Int → Int → Int → Int → St → Prop} (hd : 5 ≤ d) (hJ : Stb sh J) (hT : isM sh) (hW : Wd G sh mT J S cs) (hP : ∀ (v : Int) (S : St) (cs : List va_E), K v S → Wd G sh mT J S cs → Post (some (.int (Int32.ofInt v))) cs) (hB127 : ∀ (l2 : Int) (l4 : Int) (l5 : Int) (l6 : Int) (S : St) (cs : List va_E), B127 l2 l4 l5 l6 S → Wd G sh mT J S cs → Z (RX11, cX11_beginTag, 9, some .int, false) G d Post 127 [(0, .ref (G.1 + 54)), (2, .int (Int32.ofInt (l2))), (4, .int (Int32.ofInt (l4))), (5, .int (Int32.ofInt (l5))), (6, .int (Int32.ofInt (l6)))] [] cs) (hw : wX11_beginTag_198 l2 l4 l5 l6 s0 S K B127) : Z (RX11, cX11_beginTag, 9, some .int, false) G d Post 198 [(0, .ref (G.1 + 54)), (2, .int (Int32.ofInt (l2))), (4, .int (Int32.ofInt (l4))), (5, .int (Int32.ofInt (l5))), (6, .int (Int32.ofInt (l6)))] [.int (Int32.ofInt (s0)), .ref (G.1 + 89)] cs := by
  unfold wX11_beginTag_198 at hw
  refine z_aload_n dX11_beginTag_198 rfl rfl ?_
  refine g_getR hW hT.1 mr48 kX11 fX11_117 dX11_beginTag_199 ?_
  refine z_iload dX11_beginTag_202 rfl ?_
  obtain ⟨q1a, q1b, hw⟩ := hw
  have q2 : iv 0 201 (S.2 89 (l5)) := mA89 hW _
  have hw := hw q2
  refine g_iald hW (ma89 hT) q1a q1b (by decide) dX11_beginTag_204 ?_
  refine z_loc (L' := [(0, .ref (G.1 + 54)), (2, .int (Int32.ofInt (l2))), (4, .int (Int32.ofInt (l4))), (5, .int (Int32.ofInt (l5))), (6, .int (Int32.ofInt (l6)))]) (List.forall_mem_cons.mpr ⟨rfl, (List.forall_mem_cons.mpr ⟨rfl, (List.forall_mem_cons.mpr ⟨rfl, (List.forall_mem_cons.mpr ⟨rfl, (List.forall_mem_cons.mpr ⟨rfl, (fun _ h => nomatch h)⟩)⟩)⟩)⟩)⟩) ?_
  exact bX11_beginTag_205 hd hJ hT hW hP hB127 hw
def wX11_beginTag_127' (l2 l4 l5 l6 : Int) (S : St) (K : Int → St → Prop) (B127 : Int → Int → Int → Int → St → Prop) : Prop := (rng (l6) ∧ (rng (l5) ∧ ((l5 ≤ l6 → (iv 0 600 (S.1 54 51) → ((0 : Int) ≤ l5 ∧ l5 < (200 : Int) ∧ (∀ S6, S6 = pA S 90 (l5) (S.1 54 51) → ((0 : Int) ≤ l5 ∧ l5 < (200 : Int) ∧ (∀ S8, S8 = pA S6 91 (l5) (0) → wX11_beginTag_234 (l4) (l5) (1) S8 K)))))) ∧ ((¬ (l5 ≤ l6)) → ((0 : Int) ≤ l6 ∧ l6 < (200 : Int) ∧ (iv (-2) 199 (S.2 88 (l6)) → (rng (l2) ∧ ((¬ S.2 88 (l6) = l2 → wX11_beginTag_198 (l2) (l4) (l5) (l6) (l5) S K B127) ∧ ((¬ (¬ S.2 88 (l6) = l2)) → ((0 : Int) ≤ l6 ∧ l6 < (200 : Int) ∧ (iv 0 3000 (S.2 86 (l6)) → ((0 : Int) ≤ l6 ∧ l6 < (200 : Int) ∧ (iv 0 3000 (S.2 87 (l6)) → ((0 : Int) ≤ l5 ∧ l5 < (200 : Int) ∧ (iv 0 3000 (S.2 86 (l5)) → ((0 : Int) ≤ l5 ∧ l5 < (200 : Int) ∧ (iv 0 3000 (S.2 87 (l5)) → (wX11_sameNames (S.2 86 (l6)) (S.2 87 (l6)) (S.2 86 (l5)) (S.2 87 (l5)) S (fun r21 S22 => (rng (r21) ∧ ((r21 = 0 → wX11_beginTag_198 (l2) (l4) (l5) (l6) (l5) S22 K B127) ∧ ((¬ (r21 = 0)) → ((0 : Int) ≤ l5 ∧ l5 < (200 : Int) ∧ (iv 0 201 (S22.2 89 (l5)) → wX11_beginTag_205 (l2) (l4) (l5) (l6) ((S22.2 89 (l5) + 1)) (l5) S22 K B127))))))))))))))))))))))))
set_option maxRecDepth 100000 in
set_option maxHeartbeats 4000000 in
theorem bX11_beginTag_127' {G : xG} {sh : Nat → Option Sh} {J : St → List va_E → Prop} {d : Nat} {Post : xP} {l2 l4 l5 l6 : Int} {S : St} {cs : List va_E} {K : Int → St → Prop} {B127 : Int → Int → Int → Int → St → Prop} (hd : 5 ≤ d) (hJ : Stb sh J) (hT : isM sh) (hW : Wd G sh mT J S cs) (hP : ∀ (v : Int) (S : St) (cs : List va_E), K v S → Wd G sh mT J S cs → Post (some (.int (Int32.ofInt v))) cs) (hB127 : ∀ (l2 : Int) (l4 : Int) (l5 : Int) (l6 : Int) (S : St) (cs : List va_E), B127 l2 l4 l5 l6 S → Wd G sh mT J S cs → Z (RX11, cX11_beginTag, 9, some .int, false) G d Post 127 [(0, .ref (G.1 + 54)), (2, .int (Int32.ofInt (l2))), (4, .int (Int32.ofInt (l4))), (5, .int (Int32.ofInt (l5))), (6, .int (Int32.ofInt (l6)))] [] cs) (hw : wX11_beginTag_127' l2 l4 l5 l6 S K B127) : Z (RX11, cX11_beginTag, 9, some .int, false) G d Post 127 [(0, .ref (G.1 + 54)), (2, .int (Int32.ofInt (l2))), (4, .int (Int32.ofInt (l4))), (5, .int (Int32.ofInt (l5))), (6, .int (Int32.ofInt (l6)))] [] cs := by
  unfold wX11_beginTag_127' at hw
  refine z_iload dX11_beginTag_127 rfl ?_
  refine z_iload dX11_beginTag_129 rfl ?_
  obtain ⟨q2, hw⟩ := hw
  obtain ⟨q3, hw⟩ := hw
  refine i_icmp_ge (tgt := 212) dX11_beginTag_131 (by decide) q2 q3 (fun h1 => ?_) (fun h1 => ?_)
  · have hw := hw.1 h1
    refine z_aload_n dX11_beginTag_212 rfl rfl ?_
    refine g_getR hW hT.1 mr49 kX11 fX11_120 dX11_beginTag_213 ?_
    refine z_iload dX11_beginTag_216 rfl ?_
    refine z_aload_n dX11_beginTag_218 rfl rfl ?_
    have q4 : iv 0 600 (S.1 54 51) := mI51 hW
    have hw := hw q4
    refine g_getI hW hT.1 mr51 kX11 fX11_377 dX11_beginTag_219 ?_
    obtain ⟨q5a, q5b, hw⟩ := hw
    refine g_iast hJ hW (ma90 hT) q5a q5b (by decide) q4 dX11_beginTag_222 (fun cs hW => ?_)
    obtain ⟨S6, hS6⟩ : ∃ x, x = pA S 90 (l5) (S.1 54 51) := ⟨_, rfl⟩
    rw [← hS6] at hW
    have hw := hw S6 hS6
    refine z_aload_n dX11_beginTag_223 rfl rfl ?_
    refine g_getR hW hT.1 mr50 kX11 fX11_123 dX11_beginTag_224 ?_
    refine z_iload dX11_beginTag_227 rfl ?_
    refine z_iconst (v := Int32.ofInt 0) dX11_beginTag_229 rfl ?_
    obtain ⟨q7a, q7b, hw⟩ := hw
    refine g_iast hJ hW (ma91 hT) q7a q7b (by decide) ⟨by decide, by decide⟩ dX11_beginTag_230 (fun cs hW => ?_)
    obtain ⟨S8, hS8⟩ : ∃ x, x = pA S6 91 (l5) (0) := ⟨_, rfl⟩
    rw [← hS8] at hW
    have hw := hw S8 hS8
    refine z_iconst (v := Int32.ofInt 1) dX11_beginTag_231 rfl ?_
    refine z_istore dX11_beginTag_232 (by decide) ?_
    refine z_loc (L' := [(0, .ref (G.1 + 54)), (4, .int (Int32.ofInt (l4))), (5, .int (Int32.ofInt (l5))), (6, .int (Int32.ofInt (1)))]) (List.forall_mem_cons.mpr ⟨rfl, (List.forall_mem_cons.mpr ⟨rfl, (List.forall_mem_cons.mpr ⟨rfl, (List.forall_mem_cons.mpr ⟨rfl, (fun _ h => nomatch h)⟩)⟩)⟩)⟩) ?_
    exact bX11_beginTag_234 hd hJ hT hW hP  hw
  · have hw := hw.2 h1
    refine z_aload_n dX11_beginTag_134 rfl rfl ?_
    refine g_getR hW hT.1 mr48 kX11 fX11_117 dX11_beginTag_135 ?_
    refine z_iload dX11_beginTag_138 rfl ?_
    refine z_aload_n dX11_beginTag_140 rfl rfl ?_
    refine g_getR hW hT.1 mr47 kX11 fX11_114 dX11_beginTag_141 ?_
    refine z_iload dX11_beginTag_144 rfl ?_
    obtain ⟨q9a, q9b, hw⟩ := hw
    have q10 : iv (-2) 199 (S.2 88 (l6)) := mA88 hW _
    have hw := hw q10
    refine g_iald hW (ma88 hT) q9a q9b (by decide) dX11_beginTag_146 ?_
    refine z_iload_n dX11_beginTag_147 rfl rfl ?_
    obtain ⟨q12, hw⟩ := hw
    refine i_icmp_ne (tgt := 198) dX11_beginTag_148 (by decide) (rngq q10 (by decide) (by decide)) q12 (fun h11 => ?_) (fun h11 => ?_)
    · have hw := hw.1 h11
      refine z_loc (L' := [(0, .ref (G.1 + 54)), (2, .int (Int32.ofInt (l2))), (4, .int (Int32.ofInt (l4))), (5, .int (Int32.ofInt (l5))), (6, .int (Int32.ofInt (l6)))]) (List.forall_mem_cons.mpr ⟨rfl, (List.forall_mem_cons.mpr ⟨rfl, (List.forall_mem_cons.mpr ⟨rfl, (List.forall_mem_cons.mpr ⟨rfl, (List.forall_mem_cons.mpr ⟨rfl, (fun _ h => nomatch h)⟩)⟩)⟩)⟩)⟩) ?_
      exact bX11_beginTag_198 hd hJ hT hW hP hB127 hw
    · have hw := hw.2 h11
      refine z_aload_n dX11_beginTag_151 rfl rfl ?_
      refine z_aload_n dX11_beginTag_152 rfl rfl ?_
      refine g_getR hW hT.1 mr45 kX11 fX11_108 dX11_beginTag_153 ?_
      refine z_iload dX11_beginTag_156 rfl ?_
      obtain ⟨q13a, q13b, hw⟩ := hw
      have q14 : iv 0 3000 (S.2 86 (l6)) := mA86 hW _
      have hw := hw q14
      refine g_iald hW (ma86 hT) q13a q13b (by decide) dX11_beginTag_158 ?_
      refine z_aload_n dX11_beginTag_159 rfl rfl ?_
      refine g_getR hW hT.1 mr46 kX11 fX11_111 dX11_beginTag_160 ?_
      refine z_iload dX11_beginTag_163 rfl ?_
      obtain ⟨q15a, q15b, hw⟩ := hw
      have q16 : iv 0 3000 (S.2 87 (l6)) := mA87 hW _
      have hw := hw q16
      refine g_iald hW (ma87 hT) q15a q15b (by decide) dX11_beginTag_165 ?_
      refine z_aload_n dX11_beginTag_166 rfl rfl ?_
      refine g_getR hW hT.1 mr45 kX11 fX11_108 dX11_beginTag_167 ?_
      refine z_iload dX11_beginTag_170 rfl ?_
      obtain ⟨q17a, q17b, hw⟩ := hw
      have q18 : iv 0 3000 (S.2 86 (l5)) := mA86 hW _
      have hw := hw q18
      refine g_iald hW (ma86 hT) q17a q17b (by decide) dX11_beginTag_172 ?_
      refine z_aload_n dX11_beginTag_173 rfl rfl ?_
      refine g_getR hW hT.1 mr46 kX11 fX11_111 dX11_beginTag_174 ?_
      refine z_iload dX11_beginTag_177 rfl ?_
      obtain ⟨q19a, q19b, hw⟩ := hw
      have q20 : iv 0 3000 (S.2 87 (l5)) := mA87 hW _
      have hw := hw q20
      refine g_iald hW (ma87 hT) q19a q19b (by decide) dX11_beginTag_179 ?_
      have hX := lX11_sameNames 0 (Nat.le_refl _) hJ hT hW (rngq q14 (by decide) (by decide)) (rngq q16 (by decide) (by decide)) (rngq q18 (by decide) (by decide)) (rngq q20 (by decide) (by decide)) hw
      refine z_callV (As := [_, _, _, _]) eX11_sameNames sX11_sameNames lX11_380 rfl dX11_beginTag_180 (hW.1 _ _ hT.1) hX (Nat.le_trans (by decide) hd) rfl (Nat.le_of_ble_eq_true rfl) (fun r cs hp => ?_)
      obtain ⟨r21, S22, rfl, hw, hW⟩ := hp
      refine z_st (st' := [.int (Int32.ofInt (r21)), .int (Int32.ofInt (l5)), .ref (G.1 + 89)]) rfl ?_
      obtain ⟨q24, hw⟩ := hw
      refine i_if_eq (tgt := 198) dX11_beginTag_183 (by decide) q24 (fun h23 => ?_) (fun h23 => ?_)
      · have hw := hw.1 h23
        refine z_loc (L' := [(0, .ref (G.1 + 54)), (2, .int (Int32.ofInt (l2))), (4, .int (Int32.ofInt (l4))), (5, .int (Int32.ofInt (l5))), (6, .int (Int32.ofInt (l6)))]) (List.forall_mem_cons.mpr ⟨rfl, (List.forall_mem_cons.mpr ⟨rfl, (List.forall_mem_cons.mpr ⟨rfl, (List.forall_mem_cons.mpr ⟨rfl, (List.forall_mem_cons.mpr ⟨rfl, (fun _ h => nomatch h)⟩)⟩)⟩)⟩)⟩) ?_
        exact bX11_beginTag_198 hd hJ hT hW hP hB127 hw
      · have hw := hw.2 h23
        refine z_aload_n dX11_beginTag_186 rfl rfl ?_
        refine g_getR hW hT.1 mr48 kX11 fX11_117 dX11_beginTag_187 ?_
        refine z_iload dX11_beginTag_190 rfl ?_
        obtain ⟨q25a, q25b, hw⟩ := hw
        have q26 : iv 0 201 (S22.2 89 (l5)) := mA89 hW _
        have hw := hw q26
        refine g_iald hW (ma89 hT) q25a q25b (by decide) dX11_beginTag_192 ?_
        refine z_iconst (v := Int32.ofInt 1) dX11_beginTag_193 rfl ?_
        refine i_iadd dX11_beginTag_194 ?_
        refine z_goto (tgt := 205) dX11_beginTag_195 (by decide) ?_
        refine z_loc (L' := [(0, .ref (G.1 + 54)), (2, .int (Int32.ofInt (l2))), (4, .int (Int32.ofInt (l4))), (5, .int (Int32.ofInt (l5))), (6, .int (Int32.ofInt (l6)))]) (List.forall_mem_cons.mpr ⟨rfl, (List.forall_mem_cons.mpr ⟨rfl, (List.forall_mem_cons.mpr ⟨rfl, (List.forall_mem_cons.mpr ⟨rfl, (List.forall_mem_cons.mpr ⟨rfl, (fun _ h => nomatch h)⟩)⟩)⟩)⟩)⟩) ?_
        exact bX11_beginTag_205 hd hJ hT hW hP hB127 hw
def wX11_beginTag_127 (l2 l4 l5 l6 : Int) (S : St) (K : Int → St → Prop) : Prop := ∃ (Iv : Int → Int → Int → Int → St → Prop) (mu : Int → Int → Int → Int → St → Nat), Iv l2 l4 l5 l6 S ∧ ∀ (l2 l4 l5 l6 : Int) (S : St), Iv l2 l4 l5 l6 S → wX11_beginTag_127' l2 l4 l5 l6 S K  (fun ml2 ml4 ml5 ml6 T => Iv ml2 ml4 ml5 ml6 T ∧ mu ml2 ml4 ml5 ml6 T < mu l2 l4 l5 l6 S)
set_option maxRecDepth 100000 in
set_option maxHeartbeats 4000000 in
theorem bX11_beginTag_127 {G : xG} {sh : Nat → Option Sh} {J : St → List va_E → Prop} {d : Nat} {Post : xP} {l2 l4 l5 l6 : Int} {S : St} {cs : List va_E} {K : Int → St → Prop} (hd : 5 ≤ d) (hJ : Stb sh J) (hT : isM sh) (hW : Wd G sh mT J S cs) (hP : ∀ (v : Int) (S : St) (cs : List va_E), K v S → Wd G sh mT J S cs → Post (some (.int (Int32.ofInt v))) cs)  (hw : wX11_beginTag_127 l2 l4 l5 l6 S K ) : Z (RX11, cX11_beginTag, 9, some .int, false) G d Post 127 [(0, .ref (G.1 + 54)), (2, .int (Int32.ofInt (l2))), (4, .int (Int32.ofInt (l4))), (5, .int (Int32.ofInt (l5))), (6, .int (Int32.ofInt (l6)))] [] cs := by
  unfold wX11_beginTag_127 at hw
  obtain ⟨Iv, mu, h0, hs⟩ := hw
  have key : ∀ (n : Nat) (l2 l4 l5 l6 : Int) (S : St) (cs : List va_E), mu l2 l4 l5 l6 S < n → Iv l2 l4 l5 l6 S → Wd G sh mT J S cs → Z (RX11, cX11_beginTag, 9, some .int, false) G d Post 127 [(0, .ref (G.1 + 54)), (2, .int (Int32.ofInt (l2))), (4, .int (Int32.ofInt (l4))), (5, .int (Int32.ofInt (l5))), (6, .int (Int32.ofInt (l6)))] [] cs := by
    intro n
    induction n with
    | zero => intro l2 l4 l5 l6 S cs hn; exact absurd hn (Nat.not_lt_zero _)
    | succ n ih =>
      intro l2 l4 l5 l6 S cs hn hI hW
      exact bX11_beginTag_127' hd hJ hT hW hP  (fun l2 l4 l5 l6 S cs hb hW => ih l2 l4 l5 l6 S cs (Nat.lt_of_lt_of_le hb.2 (Nat.le_of_lt_succ hn)) hb.1 hW) (hs l2 l4 l5 l6 S hI)
  exact key _ _ _ _ _ _ _ (Nat.lt_succ_self _) h0 hW
def wX11_beginTag (a1 a2 a3 : Int) (S : St) (K : Int → St → Prop) : Prop := rng a1 → rng a2 → rng a3 → (rng ((a1 + 1)) ∧ (wX11_docAt ((a1 + 1)) S (fun r2 S3 => (rng (r2) ∧ (wX11_beginsName (r2) S3 (fun r5 S6 => (rng (r5) ∧ ((¬ r5 = 0 → (iv 0 200 (S6.1 54 43) → ((S6.1 54 43 = 200 → wX11_beginTag_42 (a1) ((a1 + 1)) S6 K) ∧ ((¬ (S6.1 54 43 = 200)) → ((¬ a3 = 40 → (iv 0 200 ((S6.1 54 43 + 1)) ∧ (∀ S12, S12 = pI S6 54 43 ((S6.1 54 43 + 1)) → ((0 : Int) ≤ S6.1 54 43 ∧ S6.1 54 43 < (200 : Int) ∧ (iv 0 3000 (a1) ∧ (∀ S15, S15 = pA S12 85 (S6.1 54 43) (a1) → ((0 : Int) ≤ S6.1 54 43 ∧ S6.1 54 43 < (200 : Int) ∧ (iv 0 3000 ((a1 + 1)) ∧ (∀ S18, S18 = pA S15 86 (S6.1 54 43) ((a1 + 1)) → (wX11_nameEnd ((a1 + 1)) S18 (fun r20 S21 => ((0 : Int) ≤ S6.1 54 43 ∧ S6.1 54 43 < (200 : Int) ∧ (iv 0 3000 (S21.2 86 (S6.1 54 43)) → ((0 : Int) ≤ S6.1 54 43 ∧ S6.1 54 43 < (200 : Int) ∧ (iv 0 3000 ((r20 - S21.2 86 (S6.1 54 43))) ∧ (∀ S25, S25 = pA S21 87 (S6.1 54 43) ((r20 - S21.2 86 (S6.1 54 43))) → ((0 : Int) ≤ S6.1 54 43 ∧ S6.1 54 43 < (200 : Int) ∧ (iv (-2) 199 (a2) ∧ (∀ S28, S28 = pA S25 88 (S6.1 54 43) (a2) → ((0 : Int) ≤ S6.1 54 43 ∧ S6.1 54 43 < (200 : Int) ∧ (∀ S31, S31 = pA S28 89 (S6.1 54 43) (1) → wX11_beginTag_127 (a2) (r20) (S6.1 54 43) (0) S31 K))))))))))))))))))))) ∧ ((¬ (¬ a3 = 40)) → wX11_beginTag_42 (a1) ((a1 + 1)) S6 K)))))) ∧ ((¬ (¬ r5 = 0)) → (wX11_fail ((a1 + 1)) S6 (fun r32 S33 => K ((a1 + 1)) S33)))))))))))
set_option maxRecDepth 100000 in
set_option maxHeartbeats 4000000 in
theorem lX11_beginTag {G : xG} {sh : Nat → Option Sh} {J : St → List va_E → Prop} {a1 a2 a3 : Int} {S : St} {cs : List va_E} {K : Int → St → Prop} (d : Nat) (hd : 5 ≤ d) (hJ : Stb sh J) (hT : isM sh) (hW : Wd G sh mT J S cs) (g1 : rng a1) (g2 : rng a2) (g3 : rng a3) (hw : wX11_beginTag a1 a2 a3 S K) : X G yX11_beginTag cX11_beginTag 9 (some .int) d [.ref (G.1 + 54), .int (Int32.ofInt a1), .int (Int32.ofInt a2), .int (Int32.ofInt a3)] cs (qI G sh mT J K) := by
  refine X.of false (by decide +kernel) (by decide) (Nat.le_of_ble_eq_true rfl) ?_
  show Z (RX11, cX11_beginTag, 9, some .int, false) G d _ 0 [(0, .ref (G.1 + 54)), (1, .int (Int32.ofInt a1)), (2, .int (Int32.ofInt a2)), (3, .int (Int32.ofInt a3))] [] cs
  have hP : ∀ (v : Int) (S : St) (cs : List va_E), K v S → Wd G sh mT J S cs → qI G sh mT J K (some (.int (Int32.ofInt v))) cs := fun v S cs a b => ⟨v, S, rfl, a, b⟩
  unfold wX11_beginTag at hw
  have hw := hw g1 g2 g3
  refine z_iload_n dX11_beginTag_0 rfl rfl ?_
  refine z_iconst (v := Int32.ofInt 1) dX11_beginTag_1 rfl ?_
  refine i_iadd dX11_beginTag_2 ?_
  refine z_istore dX11_beginTag_3 (by decide) ?_
  refine z_aload_n dX11_beginTag_5 rfl rfl ?_
  refine z_iload dX11_beginTag_6 rfl ?_
  obtain ⟨q1, hw⟩ := hw
  have hX := lX11_docAt 0 (Nat.le_refl _) hJ hT hW q1 hw
  refine z_callV (As := [_]) eX11_docAt sX11_docAt lX11_349 rfl dX11_beginTag_8 (hW.1 _ _ hT.1) hX (Nat.le_trans (by decide) hd) rfl (Nat.le_of_ble_eq_true rfl) (fun r cs hp => ?_)
  obtain ⟨r2, S3, rfl, hw, hW⟩ := hp
  refine z_st (st' := [.int (Int32.ofInt (r2))]) rfl ?_
  obtain ⟨q4, hw⟩ := hw
  have hX := lX11_beginsName 1 (Nat.le_refl _) hJ hT hW q4 hw
  refine z_callS (As := [_]) eX11_beginsName sX11_beginsName lX11_346 dX11_beginTag_11 hX (Nat.le_trans (by decide) hd) rfl (Nat.le_of_ble_eq_true rfl) (fun r cs hp => ?_)
  obtain ⟨r5, S6, rfl, hw, hW⟩ := hp
  refine z_st (st' := [.int (Int32.ofInt (r5))]) rfl ?_
  obtain ⟨q8, hw⟩ := hw
  refine i_if_ne (tgt := 26) dX11_beginTag_14 (by decide) q8 (fun h7 => ?_) (fun h7 => ?_)
  · have hw := hw.1 h7
    refine z_aload_n dX11_beginTag_26 rfl rfl ?_
    have q9 : iv 0 200 (S6.1 54 43) := mI43 hW
    have hw := hw q9
    refine g_getI hW hT.1 mr43 kX11 fX11_386 dX11_beginTag_27 ?_
    refine z_sipush (v := Int32.ofInt 200) dX11_beginTag_30 (by decide) ?_
    refine i_icmp_eq (tgt := 42) dX11_beginTag_33 (by decide) (rngq q9 (by decide) (by decide)) ⟨by decide, by decide⟩ (fun h10 => ?_) (fun h10 => ?_)
    · have hw := hw.1 h10
      refine z_loc (L' := [(0, .ref (G.1 + 54)), (1, .int (Int32.ofInt (a1))), (4, .int (Int32.ofInt ((a1 + 1))))]) (List.forall_mem_cons.mpr ⟨rfl, (List.forall_mem_cons.mpr ⟨rfl, (List.forall_mem_cons.mpr ⟨rfl, (fun _ h => nomatch h)⟩)⟩)⟩) ?_
      exact bX11_beginTag_42 hd hJ hT hW hP  hw
    · have hw := hw.2 h10
      refine z_iload_n dX11_beginTag_36 rfl rfl ?_
      refine z_bipush (v := Int32.ofInt 40) dX11_beginTag_37 (by decide) ?_
      refine i_icmp_ne (tgt := 50) dX11_beginTag_39 (by decide) g3 ⟨by decide, by decide⟩ (fun h11 => ?_) (fun h11 => ?_)
      · have hw := hw.1 h11
        refine z_aload_n dX11_beginTag_50 rfl rfl ?_
        refine g_getI hW hT.1 mr43 kX11 fX11_386 dX11_beginTag_51 ?_
        refine z_istore dX11_beginTag_54 (by decide) ?_
        refine z_aload_n dX11_beginTag_56 rfl rfl ?_
        refine z_dup dX11_beginTag_57 rfl ?_
        refine g_getI hW hT.1 mr43 kX11 fX11_386 dX11_beginTag_58 ?_
        refine z_iconst (v := Int32.ofInt 1) dX11_beginTag_61 rfl ?_
        refine i_iadd dX11_beginTag_62 ?_
        obtain ⟨q13, hw⟩ := hw
        refine g_putI hJ hW hT.1 mr43 kX11 fX11_386 dX11_beginTag_63 rfl rfl rfl q13 (fun cs hW => ?_)
        obtain ⟨S12, hS12⟩ : ∃ x, x = pI S6 54 43 ((S6.1 54 43 + 1)) := ⟨_, rfl⟩
        rw [← hS12] at hW
        have hw := hw S12 hS12
        refine z_aload_n dX11_beginTag_66 rfl rfl ?_
        refine g_getR hW hT.1 mr44 kX11 fX11_105 dX11_beginTag_67 ?_
        refine z_iload dX11_beginTag_70 rfl ?_
        refine z_iload_n dX11_beginTag_72 rfl rfl ?_
        obtain ⟨q14a, q14b, hw⟩ := hw
        obtain ⟨q16, hw⟩ := hw
        refine g_iast hJ hW (ma85 hT) q14a q14b (by decide) q16 dX11_beginTag_73 (fun cs hW => ?_)
        obtain ⟨S15, hS15⟩ : ∃ x, x = pA S12 85 (S6.1 54 43) (a1) := ⟨_, rfl⟩
        rw [← hS15] at hW
        have hw := hw S15 hS15
        refine z_aload_n dX11_beginTag_74 rfl rfl ?_
        refine g_getR hW hT.1 mr45 kX11 fX11_108 dX11_beginTag_75 ?_
        refine z_iload dX11_beginTag_78 rfl ?_
        refine z_iload dX11_beginTag_80 rfl ?_
        obtain ⟨q17a, q17b, hw⟩ := hw
        obtain ⟨q19, hw⟩ := hw
        refine g_iast hJ hW (ma86 hT) q17a q17b (by decide) q19 dX11_beginTag_82 (fun cs hW => ?_)
        obtain ⟨S18, hS18⟩ : ∃ x, x = pA S15 86 (S6.1 54 43) ((a1 + 1)) := ⟨_, rfl⟩
        rw [← hS18] at hW
        have hw := hw S18 hS18
        refine z_aload_n dX11_beginTag_83 rfl rfl ?_
        refine z_iload dX11_beginTag_84 rfl ?_
        have hX := lX11_nameEnd 3 (Nat.le_refl _) hJ hT hW q1 hw
        refine z_callV (As := [_]) eX11_nameEnd sX11_nameEnd lX11_374 rfl dX11_beginTag_86 (hW.1 _ _ hT.1) hX (Nat.le_trans (by decide) hd) rfl (Nat.le_of_ble_eq_true rfl) (fun r cs hp => ?_)
        obtain ⟨r20, S21, rfl, hw, hW⟩ := hp
        refine z_st (st' := [.int (Int32.ofInt (r20))]) rfl ?_
        refine z_istore dX11_beginTag_89 (by decide) ?_
        refine z_aload_n dX11_beginTag_91 rfl rfl ?_
        refine g_getR hW hT.1 mr46 kX11 fX11_111 dX11_beginTag_92 ?_
        refine z_iload dX11_beginTag_95 rfl ?_
        refine z_iload dX11_beginTag_97 rfl ?_
        refine z_aload_n dX11_beginTag_99 rfl rfl ?_
        refine g_getR hW hT.1 mr45 kX11 fX11_108 dX11_beginTag_100 ?_
        refine z_iload dX11_beginTag_103 rfl ?_
        obtain ⟨q22a, q22b, hw⟩ := hw
        have q23 : iv 0 3000 (S21.2 86 (S6.1 54 43)) := mA86 hW _
        have hw := hw q23
        refine g_iald hW (ma86 hT) q22a q22b (by decide) dX11_beginTag_105 ?_
        refine i_isub dX11_beginTag_106 ?_
        obtain ⟨q24a, q24b, hw⟩ := hw
        obtain ⟨q26, hw⟩ := hw
        refine g_iast hJ hW (ma87 hT) q24a q24b (by decide) q26 dX11_beginTag_107 (fun cs hW => ?_)
        obtain ⟨S25, hS25⟩ : ∃ x, x = pA S21 87 (S6.1 54 43) ((r20 - S21.2 86 (S6.1 54 43))) := ⟨_, rfl⟩
        rw [← hS25] at hW
        have hw := hw S25 hS25
        refine z_aload_n dX11_beginTag_108 rfl rfl ?_
        refine g_getR hW hT.1 mr47 kX11 fX11_114 dX11_beginTag_109 ?_
        refine z_iload dX11_beginTag_112 rfl ?_
        refine z_iload_n dX11_beginTag_114 rfl rfl ?_
        obtain ⟨q27a, q27b, hw⟩ := hw
        obtain ⟨q29, hw⟩ := hw
        refine g_iast hJ hW (ma88 hT) q27a q27b (by decide) q29 dX11_beginTag_115 (fun cs hW => ?_)
        obtain ⟨S28, hS28⟩ : ∃ x, x = pA S25 88 (S6.1 54 43) (a2) := ⟨_, rfl⟩
        rw [← hS28] at hW
        have hw := hw S28 hS28
        refine z_aload_n dX11_beginTag_116 rfl rfl ?_
        refine g_getR hW hT.1 mr48 kX11 fX11_117 dX11_beginTag_117 ?_
        refine z_iload dX11_beginTag_120 rfl ?_
        refine z_iconst (v := Int32.ofInt 1) dX11_beginTag_122 rfl ?_
        obtain ⟨q30a, q30b, hw⟩ := hw
        refine g_iast hJ hW (ma89 hT) q30a q30b (by decide) ⟨by decide, by decide⟩ dX11_beginTag_123 (fun cs hW => ?_)
        obtain ⟨S31, hS31⟩ : ∃ x, x = pA S28 89 (S6.1 54 43) (1) := ⟨_, rfl⟩
        rw [← hS31] at hW
        have hw := hw S31 hS31
        refine z_iconst (v := Int32.ofInt 0) dX11_beginTag_124 rfl ?_
        refine z_istore dX11_beginTag_125 (by decide) ?_
        refine z_loc (L' := [(0, .ref (G.1 + 54)), (2, .int (Int32.ofInt (a2))), (4, .int (Int32.ofInt (r20))), (5, .int (Int32.ofInt (S6.1 54 43))), (6, .int (Int32.ofInt (0)))]) (List.forall_mem_cons.mpr ⟨rfl, (List.forall_mem_cons.mpr ⟨rfl, (List.forall_mem_cons.mpr ⟨rfl, (List.forall_mem_cons.mpr ⟨rfl, (List.forall_mem_cons.mpr ⟨rfl, (fun _ h => nomatch h)⟩)⟩)⟩)⟩)⟩) ?_
        exact bX11_beginTag_127 hd hJ hT hW hP  hw
      · have hw := hw.2 h11
        refine z_loc (L' := [(0, .ref (G.1 + 54)), (1, .int (Int32.ofInt (a1))), (4, .int (Int32.ofInt ((a1 + 1))))]) (List.forall_mem_cons.mpr ⟨rfl, (List.forall_mem_cons.mpr ⟨rfl, (List.forall_mem_cons.mpr ⟨rfl, (fun _ h => nomatch h)⟩)⟩)⟩) ?_
        exact bX11_beginTag_42 hd hJ hT hW hP  hw
  · have hw := hw.2 h7
    refine z_aload_n dX11_beginTag_17 rfl rfl ?_
    refine z_iload dX11_beginTag_18 rfl ?_
    have hX := lX11_fail 0 (Nat.le_refl _) hJ hT hW q1 hw
    refine z_callV (As := [_]) eX11_fail sX11_fail lX11_362 rfl dX11_beginTag_20 (hW.1 _ _ hT.1) hX (Nat.le_trans (by decide) hd) rfl (Nat.le_of_ble_eq_true rfl) (fun r cs hp => ?_)
    obtain ⟨r32, S33, rfl, hw, hW⟩ := hp
    refine z_st (st' := []) rfl ?_
    refine z_iload dX11_beginTag_23 rfl ?_
    exact z_ireturn dX11_beginTag_25 rfl rfl (hP _ _ _ hw hW)
