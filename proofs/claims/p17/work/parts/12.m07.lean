def wX11_putWord_19 (l4 : Int) (S : St) (K : Int → St → Prop) : Prop := (rng (l4) ∧ ((l4 ≤ 0 → K 0 S) ∧ ((¬ (l4 ≤ 0)) → (wX11_put (l4) S (fun r3 S4 => K 0 S4)))))
set_option maxRecDepth 100000 in
set_option maxHeartbeats 4000000 in
theorem bX11_putWord_19 {G : xG} {sh : Nat → Option Sh} {J : St → List va_E → Prop} {d : Nat} {Post : xP} {l4 : Int} {S : St} {cs : List va_E} {K : Int → St → Prop} (hd : 1 ≤ d) (hJ : Stb sh J) (hT : isM sh) (hW : Wd G sh mT J S cs) (hP : ∀ (v : Int) (S : St) (cs : List va_E), K v S → Wd G sh mT J S cs → Post (none) cs)  (hw : wX11_putWord_19 l4 S K ) : Z (RX11, cX11_putWord, 5, none, false) G d Post 19 [(0, .ref (G.1 + 54)), (4, .int (Int32.ofInt (l4)))] [] cs := by
  unfold wX11_putWord_19 at hw
  refine z_iload dX11_putWord_19 rfl ?_
  obtain ⟨q2, hw⟩ := hw
  refine i_if_le (tgt := 30) dX11_putWord_21 (by decide) q2 (fun h1 => ?_) (fun h1 => ?_)
  · have hw := hw.1 h1
    exact z_return dX11_putWord_30 rfl (hP 0 _ _ hw hW)
  · have hw := hw.2 h1
    refine z_aload_n dX11_putWord_24 rfl rfl ?_
    refine z_iload dX11_putWord_25 rfl ?_
    have hX := lX11_put 0 (Nat.le_refl _) hJ hT hW q2 hw
    refine z_callV (As := [_]) eX11_put sX11_put lX11_260 rfl dX11_putWord_27 (hW.1 _ _ hT.1) hX (Nat.le_trans (by decide) hd) rfl (Nat.le_of_ble_eq_true rfl) (fun r cs hp => ?_)
    obtain ⟨r3, S4, rfl, hw, hW⟩ := hp
    refine z_st (st' := []) rfl ?_
    exact z_return dX11_putWord_30 rfl (hP 0 _ _ hw hW)
def wX11_putWord (a1 a2 a3 a4 : Int) (S : St) (K : Int → St → Prop) : Prop := rng a1 → rng a2 → rng a3 → rng a4 → (wX11_put (a1) S (fun r1 S2 => (wX11_put (a2) S2 (fun r3 S4 => ((a3 ≤ 0 → wX11_putWord_19 (a4) S4 K) ∧ ((¬ (a3 ≤ 0)) → (wX11_put (a3) S4 (fun r6 S7 => wX11_putWord_19 (a4) S7 K))))))))
set_option maxRecDepth 100000 in
set_option maxHeartbeats 4000000 in
theorem lX11_putWord {G : xG} {sh : Nat → Option Sh} {J : St → List va_E → Prop} {a1 a2 a3 a4 : Int} {S : St} {cs : List va_E} {K : Int → St → Prop} (d : Nat) (hd : 1 ≤ d) (hJ : Stb sh J) (hT : isM sh) (hW : Wd G sh mT J S cs) (g1 : rng a1) (g2 : rng a2) (g3 : rng a3) (g4 : rng a4) (hw : wX11_putWord a1 a2 a3 a4 S K) : X G yX11_putWord cX11_putWord 5 none d [.ref (G.1 + 54), .int (Int32.ofInt a1), .int (Int32.ofInt a2), .int (Int32.ofInt a3), .int (Int32.ofInt a4)] cs (qV G sh mT J K) := by
  refine X.of false (by decide +kernel) (by decide) (Nat.le_of_ble_eq_true rfl) ?_
  show Z (RX11, cX11_putWord, 5, none, false) G d _ 0 [(0, .ref (G.1 + 54)), (1, .int (Int32.ofInt a1)), (2, .int (Int32.ofInt a2)), (3, .int (Int32.ofInt a3)), (4, .int (Int32.ofInt a4))] [] cs
  have hP : ∀ (v : Int) (S : St) (cs : List va_E), K v S → Wd G sh mT J S cs → qV G sh mT J K (none) cs := fun v S cs a b => ⟨v, S, rfl, a, b⟩
  unfold wX11_putWord at hw
  have hw := hw g1 g2 g3 g4
  refine z_aload_n dX11_putWord_0 rfl rfl ?_
  refine z_iload_n dX11_putWord_1 rfl rfl ?_
  have hX := lX11_put 0 (Nat.le_refl _) hJ hT hW g1 hw
  refine z_callV (As := [_]) eX11_put sX11_put lX11_260 rfl dX11_putWord_2 (hW.1 _ _ hT.1) hX (Nat.le_trans (by decide) hd) rfl (Nat.le_of_ble_eq_true rfl) (fun r cs hp => ?_)
  obtain ⟨r1, S2, rfl, hw, hW⟩ := hp
  refine z_st (st' := []) rfl ?_
  refine z_aload_n dX11_putWord_5 rfl rfl ?_
  refine z_iload_n dX11_putWord_6 rfl rfl ?_
  have hX := lX11_put 0 (Nat.le_refl _) hJ hT hW g2 hw
  refine z_callV (As := [_]) eX11_put sX11_put lX11_260 rfl dX11_putWord_7 (hW.1 _ _ hT.1) hX (Nat.le_trans (by decide) hd) rfl (Nat.le_of_ble_eq_true rfl) (fun r cs hp => ?_)
  obtain ⟨r3, S4, rfl, hw, hW⟩ := hp
  refine z_st (st' := []) rfl ?_
  refine z_iload_n dX11_putWord_10 rfl rfl ?_
  refine i_if_le (tgt := 19) dX11_putWord_11 (by decide) g3 (fun h5 => ?_) (fun h5 => ?_)
  · have hw := hw.1 h5
    refine z_loc (L' := [(0, .ref (G.1 + 54)), (4, .int (Int32.ofInt (a4)))]) (List.forall_mem_cons.mpr ⟨rfl, (List.forall_mem_cons.mpr ⟨rfl, (fun _ h => nomatch h)⟩)⟩) ?_
    exact bX11_putWord_19 hd hJ hT hW hP  hw
  · have hw := hw.2 h5
    refine z_aload_n dX11_putWord_14 rfl rfl ?_
    refine z_iload_n dX11_putWord_15 rfl rfl ?_
    have hX := lX11_put 0 (Nat.le_refl _) hJ hT hW g3 hw
    refine z_callV (As := [_]) eX11_put sX11_put lX11_260 rfl dX11_putWord_16 (hW.1 _ _ hT.1) hX (Nat.le_trans (by decide) hd) rfl (Nat.le_of_ble_eq_true rfl) (fun r cs hp => ?_)
    obtain ⟨r6, S7, rfl, hw, hW⟩ := hp
    refine z_st (st' := []) rfl ?_
    refine z_loc (L' := [(0, .ref (G.1 + 54)), (4, .int (Int32.ofInt (a4)))]) (List.forall_mem_cons.mpr ⟨rfl, (List.forall_mem_cons.mpr ⟨rfl, (fun _ h => nomatch h)⟩)⟩) ?_
    exact bX11_putWord_19 hd hJ hT hW hP  hw

def wX11_putAttribute (a1 a2 a3 a4 : Int) (S : St) (K : Int → St → Prop) : Prop := rng a1 → rng a2 → rng a3 → rng a4 → (wX11_put (32) S (fun r1 S2 => (wX11_putWord (a1) (a2) (a3) (a4) S2 (fun r3 S4 => K 0 S4))))
set_option maxRecDepth 100000 in
set_option maxHeartbeats 4000000 in
theorem lX11_putAttribute {G : xG} {sh : Nat → Option Sh} {J : St → List va_E → Prop} {a1 a2 a3 a4 : Int} {S : St} {cs : List va_E} {K : Int → St → Prop} (d : Nat) (hd : 2 ≤ d) (hJ : Stb sh J) (hT : isM sh) (hW : Wd G sh mT J S cs) (g1 : rng a1) (g2 : rng a2) (g3 : rng a3) (g4 : rng a4) (hw : wX11_putAttribute a1 a2 a3 a4 S K) : X G yX11_putAttribute cX11_putAttribute 5 none d [.ref (G.1 + 54), .int (Int32.ofInt a1), .int (Int32.ofInt a2), .int (Int32.ofInt a3), .int (Int32.ofInt a4)] cs (qV G sh mT J K) := by
  refine X.of false (by decide +kernel) (by decide) (Nat.le_of_ble_eq_true rfl) ?_
  show Z (RX11, cX11_putAttribute, 5, none, false) G d _ 0 [(0, .ref (G.1 + 54)), (1, .int (Int32.ofInt a1)), (2, .int (Int32.ofInt a2)), (3, .int (Int32.ofInt a3)), (4, .int (Int32.ofInt a4))] [] cs
  have hP : ∀ (v : Int) (S : St) (cs : List va_E), K v S → Wd G sh mT J S cs → qV G sh mT J K (none) cs := fun v S cs a b => ⟨v, S, rfl, a, b⟩
  unfold wX11_putAttribute at hw
  have hw := hw g1 g2 g3 g4
  refine z_aload_n dX11_putAttribute_0 rfl rfl ?_
  refine z_bipush (v := Int32.ofInt 32) dX11_putAttribute_1 (by decide) ?_
  have hX := lX11_put 0 (Nat.le_refl _) hJ hT hW ⟨by decide, by decide⟩ hw
  refine z_callV (As := [_]) eX11_put sX11_put lX11_260 rfl dX11_putAttribute_3 (hW.1 _ _ hT.1) hX (Nat.le_trans (by decide) hd) rfl (Nat.le_of_ble_eq_true rfl) (fun r cs hp => ?_)
  obtain ⟨r1, S2, rfl, hw, hW⟩ := hp
  refine z_st (st' := []) rfl ?_
  refine z_aload_n dX11_putAttribute_6 rfl rfl ?_
  refine z_iload_n dX11_putAttribute_7 rfl rfl ?_
  refine z_iload_n dX11_putAttribute_8 rfl rfl ?_
  refine z_iload_n dX11_putAttribute_9 rfl rfl ?_
  refine z_iload dX11_putAttribute_10 rfl ?_
  have hX := lX11_putWord 1 (Nat.le_refl _) hJ hT hW g1 g2 g3 g4 hw
  refine z_callV (As := [_, _, _, _]) eX11_putWord sX11_putWord lX11_267 rfl dX11_putAttribute_12 (hW.1 _ _ hT.1) hX (Nat.le_trans (by decide) hd) rfl (Nat.le_of_ble_eq_true rfl) (fun r cs hp => ?_)
  obtain ⟨r3, S4, rfl, hw, hW⟩ := hp
  refine z_st (st' := []) rfl ?_
  exact z_return dX11_putAttribute_15 rfl (hP 0 _ _ hw hW)

def wX11_putName_64 (l1 l2 : Int) (S : St) (K : Int → St → Prop) (B2 : Int → Int → St → Prop) : Prop := B2 (l1) ((l2 + 1)) S
set_option maxRecDepth 100000 in
set_option maxHeartbeats 4000000 in
theorem bX11_putName_64 {G : xG} {sh : Nat → Option Sh} {J : St → List va_E → Prop} {d : Nat} {Post : xP} {l1 l2 : Int} {S : St} {cs : List va_E} {K : Int → St → Prop} {B2 : Int → Int → St → Prop} (hd : 1 ≤ d) (hJ : Stb sh J) (hT : isM sh) (hW : Wd G sh mT J S cs) (hP : ∀ (v : Int) (S : St) (cs : List va_E), K v S → Wd G sh mT J S cs → Post (none) cs) (hB2 : ∀ (l1 : Int) (l2 : Int) (S : St) (cs : List va_E), B2 l1 l2 S → Wd G sh mT J S cs → Z (RX11, cX11_putName, 4, none, false) G d Post 2 [(0, .ref (G.1 + 54)), (1, .int (Int32.ofInt (l1))), (2, .int (Int32.ofInt (l2)))] [] cs) (hw : wX11_putName_64 l1 l2 S K B2) : Z (RX11, cX11_putName, 4, none, false) G d Post 64 [(0, .ref (G.1 + 54)), (1, .int (Int32.ofInt (l1))), (2, .int (Int32.ofInt (l2)))] [] cs := by
  unfold wX11_putName_64 at hw
  refine i_iinc (l := l2) dX11_putName_64 rfl (by decide) ?_
  refine z_loc (L' := [(0, .ref (G.1 + 54)), (1, .int (Int32.ofInt (l1))), (2, .int (Int32.ofInt ((l2 + 1))))]) (List.forall_mem_cons.mpr ⟨rfl, (List.forall_mem_cons.mpr ⟨rfl, (List.forall_mem_cons.mpr ⟨rfl, (fun _ h => nomatch h)⟩)⟩)⟩) ?_
  refine z_goto (tgt := 2) dX11_putName_67 (by decide) ?_
  refine z_loc (L' := [(0, .ref (G.1 + 54)), (1, .int (Int32.ofInt (l1))), (2, .int (Int32.ofInt ((l2 + 1))))]) (List.forall_mem_cons.mpr ⟨rfl, (List.forall_mem_cons.mpr ⟨rfl, (List.forall_mem_cons.mpr ⟨rfl, (fun _ h => nomatch h)⟩)⟩)⟩) ?_
  exact hB2 _ _ _ _ hw hW
def wX11_putName_52 (l1 l2 l3 : Int) (S : St) (K : Int → St → Prop) (B2 : Int → Int → St → Prop) : Prop := (rng (l3) ∧ ((¬ l3 = 36 → wX11_putName_64 (l1) (l2) S K B2) ∧ ((¬ (¬ l3 = 36)) → (wX11_put (45) S (fun r3 S4 => wX11_putName_64 (l1) (l2) S4 K B2)))))
set_option maxRecDepth 100000 in
set_option maxHeartbeats 4000000 in
theorem bX11_putName_52 {G : xG} {sh : Nat → Option Sh} {J : St → List va_E → Prop} {d : Nat} {Post : xP} {l1 l2 l3 : Int} {S : St} {cs : List va_E} {K : Int → St → Prop} {B2 : Int → Int → St → Prop} (hd : 1 ≤ d) (hJ : Stb sh J) (hT : isM sh) (hW : Wd G sh mT J S cs) (hP : ∀ (v : Int) (S : St) (cs : List va_E), K v S → Wd G sh mT J S cs → Post (none) cs) (hB2 : ∀ (l1 : Int) (l2 : Int) (S : St) (cs : List va_E), B2 l1 l2 S → Wd G sh mT J S cs → Z (RX11, cX11_putName, 4, none, false) G d Post 2 [(0, .ref (G.1 + 54)), (1, .int (Int32.ofInt (l1))), (2, .int (Int32.ofInt (l2)))] [] cs) (hw : wX11_putName_52 l1 l2 l3 S K B2) : Z (RX11, cX11_putName, 4, none, false) G d Post 52 [(0, .ref (G.1 + 54)), (1, .int (Int32.ofInt (l1))), (2, .int (Int32.ofInt (l2))), (3, .int (Int32.ofInt (l3)))] [] cs := by
  unfold wX11_putName_52 at hw
  refine z_iload_n dX11_putName_52 rfl rfl ?_
  refine z_bipush (v := Int32.ofInt 36) dX11_putName_53 (by decide) ?_
  obtain ⟨q2, hw⟩ := hw
  refine i_icmp_ne (tgt := 64) dX11_putName_55 (by decide) q2 ⟨by decide, by decide⟩ (fun h1 => ?_) (fun h1 => ?_)
  · have hw := hw.1 h1
    refine z_loc (L' := [(0, .ref (G.1 + 54)), (1, .int (Int32.ofInt (l1))), (2, .int (Int32.ofInt (l2)))]) (List.forall_mem_cons.mpr ⟨rfl, (List.forall_mem_cons.mpr ⟨rfl, (List.forall_mem_cons.mpr ⟨rfl, (fun _ h => nomatch h)⟩)⟩)⟩) ?_
    exact bX11_putName_64 hd hJ hT hW hP hB2 hw
  · have hw := hw.2 h1
    refine z_aload_n dX11_putName_58 rfl rfl ?_
    refine z_bipush (v := Int32.ofInt 45) dX11_putName_59 (by decide) ?_
    have hX := lX11_put 0 (Nat.le_refl _) hJ hT hW ⟨by decide, by decide⟩ hw
    refine z_callV (As := [_]) eX11_put sX11_put lX11_260 rfl dX11_putName_61 (hW.1 _ _ hT.1) hX (Nat.le_trans (by decide) hd) rfl (Nat.le_of_ble_eq_true rfl) (fun r cs hp => ?_)
    obtain ⟨r3, S4, rfl, hw, hW⟩ := hp
    refine z_st (st' := []) rfl ?_
    refine z_loc (L' := [(0, .ref (G.1 + 54)), (1, .int (Int32.ofInt (l1))), (2, .int (Int32.ofInt (l2)))]) (List.forall_mem_cons.mpr ⟨rfl, (List.forall_mem_cons.mpr ⟨rfl, (List.forall_mem_cons.mpr ⟨rfl, (fun _ h => nomatch h)⟩)⟩)⟩) ?_
    exact bX11_putName_64 hd hJ hT hW hP hB2 hw
def wX11_putName_37 (l1 l2 l3 s0 : Int) (S : St) (K : Int → St → Prop) (B2 : Int → Int → St → Prop) : Prop := (rng (s0) ∧ (wX11_put (s0) S (fun r2 S3 => (rng (l3) ∧ ((¬ l3 = 95 → wX11_putName_52 (l1) (l2) (l3) S3 K B2) ∧ ((¬ (¬ l3 = 95)) → (wX11_put (95) S3 (fun r6 S7 => wX11_putName_52 (l1) (l2) (l3) S7 K B2))))))))
set_option maxRecDepth 100000 in
set_option maxHeartbeats 4000000 in
theorem bX11_putName_37 {G : xG} {sh : Nat → Option Sh} {J : St → List va_E → Prop} {d : Nat} {Post : xP} {l1 l2 l3 s0 : Int} {S : St} {cs : List va_E} {K : Int → St → Prop} {B2 : Int → Int → St → Prop} (hd : 1 ≤ d) (hJ : Stb sh J) (hT : isM sh) (hW : Wd G sh mT J S cs) (hP : ∀ (v : Int) (S : St) (cs : List va_E), K v S → Wd G sh mT J S cs → Post (none) cs) (hB2 : ∀ (l1 : Int) (l2 : Int) (S : St) (cs : List va_E), B2 l1 l2 S → Wd G sh mT J S cs → Z (RX11, cX11_putName, 4, none, false) G d Post 2 [(0, .ref (G.1 + 54)), (1, .int (Int32.ofInt (l1))), (2, .int (Int32.ofInt (l2)))] [] cs) (hw : wX11_putName_37 l1 l2 l3 s0 S K B2) : Z (RX11, cX11_putName, 4, none, false) G d Post 37 [(0, .ref (G.1 + 54)), (1, .int (Int32.ofInt (l1))), (2, .int (Int32.ofInt (l2))), (3, .int (Int32.ofInt (l3)))] [.int (Int32.ofInt (s0)), .ref (G.1 + 54)] cs := by
  unfold wX11_putName_37 at hw
  obtain ⟨q1, hw⟩ := hw
  have hX := lX11_put 0 (Nat.le_refl _) hJ hT hW q1 hw
  refine z_callV (As := [_]) eX11_put sX11_put lX11_260 rfl dX11_putName_37 (hW.1 _ _ hT.1) hX (Nat.le_trans (by decide) hd) rfl (Nat.le_of_ble_eq_true rfl) (fun r cs hp => ?_)
  obtain ⟨r2, S3, rfl, hw, hW⟩ := hp
  refine z_st (st' := []) rfl ?_
  refine z_iload_n dX11_putName_40 rfl rfl ?_
  refine z_bipush (v := Int32.ofInt 95) dX11_putName_41 (by decide) ?_
  obtain ⟨q5, hw⟩ := hw
  refine i_icmp_ne (tgt := 52) dX11_putName_43 (by decide) q5 ⟨by decide, by decide⟩ (fun h4 => ?_) (fun h4 => ?_)
  · have hw := hw.1 h4
    refine z_loc (L' := [(0, .ref (G.1 + 54)), (1, .int (Int32.ofInt (l1))), (2, .int (Int32.ofInt (l2))), (3, .int (Int32.ofInt (l3)))]) (List.forall_mem_cons.mpr ⟨rfl, (List.forall_mem_cons.mpr ⟨rfl, (List.forall_mem_cons.mpr ⟨rfl, (List.forall_mem_cons.mpr ⟨rfl, (fun _ h => nomatch h)⟩)⟩)⟩)⟩) ?_
    exact bX11_putName_52 hd hJ hT hW hP hB2 hw
  · have hw := hw.2 h4
    refine z_aload_n dX11_putName_46 rfl rfl ?_
    refine z_bipush (v := Int32.ofInt 95) dX11_putName_47 (by decide) ?_
    have hX := lX11_put 0 (Nat.le_refl _) hJ hT hW ⟨by decide, by decide⟩ hw
    refine z_callV (As := [_]) eX11_put sX11_put lX11_260 rfl dX11_putName_49 (hW.1 _ _ hT.1) hX (Nat.le_trans (by decide) hd) rfl (Nat.le_of_ble_eq_true rfl) (fun r cs hp => ?_)
    obtain ⟨r6, S7, rfl, hw, hW⟩ := hp
    refine z_st (st' := []) rfl ?_
    refine z_loc (L' := [(0, .ref (G.1 + 54)), (1, .int (Int32.ofInt (l1))), (2, .int (Int32.ofInt (l2))), (3, .int (Int32.ofInt (l3)))]) (List.forall_mem_cons.mpr ⟨rfl, (List.forall_mem_cons.mpr ⟨rfl, (List.forall_mem_cons.mpr ⟨rfl, (List.forall_mem_cons.mpr ⟨rfl, (fun _ h => nomatch h)⟩)⟩)⟩)⟩) ?_
    exact bX11_putName_52 hd hJ hT hW hP hB2 hw
def wX11_putName_2' (l1 l2 : Int) (S : St) (K : Int → St → Prop) (B2 : Int → Int → St → Prop) : Prop := ((0 : Int) ≤ l1 ∧ l1 < (30 : Int) ∧ (iv 0 8 (S.2 57 (l1)) → (rng (l2) ∧ ((S.2 57 (l1) ≤ l2 → K 0 S) ∧ ((¬ (S.2 57 (l1) ≤ l2)) → ((0 : Int) ≤ ((8 * l1) + l2) ∧ ((8 * l1) + l2) < (240 : Int) ∧ (iv (-2147483648) 2147483647 (S.2 58 (((8 * l1) + l2))) → (∀ x7 : Int, x7 = S.2 58 (((8 * l1) + l2)) → ((¬ x7 = 36 → wX11_putName_37 (l1) (l2) (x7) (x7) S K B2) ∧ ((¬ (¬ x7 = 36)) → wX11_putName_37 (l1) (l2) (x7) (95) S K B2))))))))))
set_option maxRecDepth 100000 in
set_option maxHeartbeats 4000000 in
theorem bX11_putName_2' {G : xG} {sh : Nat → Option Sh} {J : St → List va_E → Prop} {d : Nat} {Post : xP} {l1 l2 : Int} {S : St} {cs : List va_E} {K : Int → St → Prop} {B2 : Int → Int → St → Prop} (hd : 1 ≤ d) (hJ : Stb sh J) (hT : isM sh) (hW : Wd G sh mT J S cs) (hP : ∀ (v : Int) (S : St) (cs : List va_E), K v S → Wd G sh mT J S cs → Post (none) cs) (hB2 : ∀ (l1 : Int) (l2 : Int) (S : St) (cs : List va_E), B2 l1 l2 S → Wd G sh mT J S cs → Z (RX11, cX11_putName, 4, none, false) G d Post 2 [(0, .ref (G.1 + 54)), (1, .int (Int32.ofInt (l1))), (2, .int (Int32.ofInt (l2)))] [] cs) (hw : wX11_putName_2' l1 l2 S K B2) : Z (RX11, cX11_putName, 4, none, false) G d Post 2 [(0, .ref (G.1 + 54)), (1, .int (Int32.ofInt (l1))), (2, .int (Int32.ofInt (l2)))] [] cs := by
  unfold wX11_putName_2' at hw
  refine z_iload_n dX11_putName_2 rfl rfl ?_
  refine z_aload_n dX11_putName_3 rfl rfl ?_
  refine g_getR hW hT.1 mr4 kX11 fX11_16 dX11_putName_4 ?_
  refine z_iload_n dX11_putName_7 rfl rfl ?_
  obtain ⟨q1a, q1b, hw⟩ := hw
  have q2 : iv 0 8 (S.2 57 (l1)) := mA57 hW _
  have hw := hw q2
  refine g_iald hW (ma57 hT) q1a q1b (by decide) dX11_putName_8 ?_
  obtain ⟨q4, hw⟩ := hw
  refine i_icmp_ge (tgt := 70) dX11_putName_9 (by decide) q4 (rngq q2 (by decide) (by decide)) (fun h3 => ?_) (fun h3 => ?_)
  · have hw := hw.1 h3
    exact z_return dX11_putName_70 rfl (hP 0 _ _ hw hW)
  · have hw := hw.2 h3
    refine z_aload_n dX11_putName_12 rfl rfl ?_
    refine g_getR hW hT.1 mr5 kX11 fX11_19 dX11_putName_13 ?_
    refine z_bipush (v := Int32.ofInt 8) dX11_putName_16 (by decide) ?_
    refine z_iload_n dX11_putName_18 rfl rfl ?_
    refine i_imul dX11_putName_19 ?_
    refine z_iload_n dX11_putName_20 rfl rfl ?_
    refine i_iadd dX11_putName_21 ?_
    obtain ⟨q5a, q5b, hw⟩ := hw
    have q6 : iv (-2147483648) 2147483647 (S.2 58 (((8 * l1) + l2))) := mA58 hW _
    have hw := hw q6
    refine g_iald hW (ma58 hT) q5a q5b (by decide) dX11_putName_22 ?_
    obtain ⟨x7, hx7⟩ : ∃ x : Int, x = S.2 58 (((8 * l1) + l2)) := ⟨_, rfl⟩
    have hw := hw x7 hx7
    refine z_st (st' := [.int (Int32.ofInt x7)]) (by rw [hx7]) ?_
    have q8 : rng x7 := by rw [hx7]; exact (rngq q6 (by decide) (by decide))
    have q9 : iv (-2147483648) 2147483647 x7 := by rw [hx7]; exact q6
    refine z_istore_n dX11_putName_23 rfl (by decide) ?_
    refine z_loc (L' := [(0, .ref (G.1 + 54)), (1, .int (Int32.ofInt (l1))), (2, .int (Int32.ofInt (l2))), (3, .int (Int32.ofInt (x7)))]) (List.forall_mem_cons.mpr ⟨rfl, (List.forall_mem_cons.mpr ⟨rfl, (List.forall_mem_cons.mpr ⟨rfl, (List.forall_mem_cons.mpr ⟨rfl, (fun _ h => nomatch h)⟩)⟩)⟩)⟩) ?_
    refine z_aload_n dX11_putName_24 rfl rfl ?_
    refine z_iload_n dX11_putName_25 rfl rfl ?_
    refine z_bipush (v := Int32.ofInt 36) dX11_putName_26 (by decide) ?_
    refine i_icmp_ne (tgt := 36) dX11_putName_28 (by decide) q8 ⟨by decide, by decide⟩ (fun h10 => ?_) (fun h10 => ?_)
    · have hw := hw.1 h10
      refine z_iload_n dX11_putName_36 rfl rfl ?_
      refine z_loc (L' := [(0, .ref (G.1 + 54)), (1, .int (Int32.ofInt (l1))), (2, .int (Int32.ofInt (l2))), (3, .int (Int32.ofInt (x7)))]) (List.forall_mem_cons.mpr ⟨rfl, (List.forall_mem_cons.mpr ⟨rfl, (List.forall_mem_cons.mpr ⟨rfl, (List.forall_mem_cons.mpr ⟨rfl, (fun _ h => nomatch h)⟩)⟩)⟩)⟩) ?_
      exact bX11_putName_37 hd hJ hT hW hP hB2 hw
    · have hw := hw.2 h10
      refine z_bipush (v := Int32.ofInt 95) dX11_putName_31 (by decide) ?_
      refine z_goto (tgt := 37) dX11_putName_33 (by decide) ?_
      refine z_loc (L' := [(0, .ref (G.1 + 54)), (1, .int (Int32.ofInt (l1))), (2, .int (Int32.ofInt (l2))), (3, .int (Int32.ofInt (x7)))]) (List.forall_mem_cons.mpr ⟨rfl, (List.forall_mem_cons.mpr ⟨rfl, (List.forall_mem_cons.mpr ⟨rfl, (List.forall_mem_cons.mpr ⟨rfl, (fun _ h => nomatch h)⟩)⟩)⟩)⟩) ?_
      exact bX11_putName_37 hd hJ hT hW hP hB2 hw
def wX11_putName_2 (l1 l2 : Int) (S : St) (K : Int → St → Prop) : Prop := ∃ (Iv : Int → Int → St → Prop) (mu : Int → Int → St → Nat), Iv l1 l2 S ∧ ∀ (l1 l2 : Int) (S : St), Iv l1 l2 S → wX11_putName_2' l1 l2 S K  (fun ml1 ml2 T => Iv ml1 ml2 T ∧ mu ml1 ml2 T < mu l1 l2 S)
set_option maxRecDepth 100000 in
set_option maxHeartbeats 4000000 in
theorem bX11_putName_2 {G : xG} {sh : Nat → Option Sh} {J : St → List va_E → Prop} {d : Nat} {Post : xP} {l1 l2 : Int} {S : St} {cs : List va_E} {K : Int → St → Prop} (hd : 1 ≤ d) (hJ : Stb sh J) (hT : isM sh) (hW : Wd G sh mT J S cs) (hP : ∀ (v : Int) (S : St) (cs : List va_E), K v S → Wd G sh mT J S cs → Post (none) cs)  (hw : wX11_putName_2 l1 l2 S K ) : Z (RX11, cX11_putName, 4, none, false) G d Post 2 [(0, .ref (G.1 + 54)), (1, .int (Int32.ofInt (l1))), (2, .int (Int32.ofInt (l2)))] [] cs := by
  unfold wX11_putName_2 at hw
  obtain ⟨Iv, mu, h0, hs⟩ := hw
  have key : ∀ (n : Nat) (l1 l2 : Int) (S : St) (cs : List va_E), mu l1 l2 S < n → Iv l1 l2 S → Wd G sh mT J S cs → Z (RX11, cX11_putName, 4, none, false) G d Post 2 [(0, .ref (G.1 + 54)), (1, .int (Int32.ofInt (l1))), (2, .int (Int32.ofInt (l2)))] [] cs := by
    intro n
    induction n with
    | zero => intro l1 l2 S cs hn; exact absurd hn (Nat.not_lt_zero _)
    | succ n ih =>
      intro l1 l2 S cs hn hI hW
      exact bX11_putName_2' hd hJ hT hW hP  (fun l1 l2 S cs hb hW => ih l1 l2 S cs (Nat.lt_of_lt_of_le hb.2 (Nat.le_of_lt_succ hn)) hb.1 hW) (hs l1 l2 S hI)
  exact key _ _ _ _ _ (Nat.lt_succ_self _) h0 hW
def wX11_putName (a1 : Int) (S : St) (K : Int → St → Prop) : Prop := rng a1 → wX11_putName_2 (a1) (0) S K
set_option maxRecDepth 100000 in
set_option maxHeartbeats 4000000 in
theorem lX11_putName {G : xG} {sh : Nat → Option Sh} {J : St → List va_E → Prop} {a1 : Int} {S : St} {cs : List va_E} {K : Int → St → Prop} (d : Nat) (hd : 1 ≤ d) (hJ : Stb sh J) (hT : isM sh) (hW : Wd G sh mT J S cs) (g1 : rng a1) (hw : wX11_putName a1 S K) : X G yX11_putName cX11_putName 4 none d [.ref (G.1 + 54), .int (Int32.ofInt a1)] cs (qV G sh mT J K) := by
  refine X.of false (by decide +kernel) (by decide) (Nat.le_of_ble_eq_true rfl) ?_
  show Z (RX11, cX11_putName, 4, none, false) G d _ 0 [(0, .ref (G.1 + 54)), (1, .int (Int32.ofInt a1))] [] cs
  have hP : ∀ (v : Int) (S : St) (cs : List va_E), K v S → Wd G sh mT J S cs → qV G sh mT J K (none) cs := fun v S cs a b => ⟨v, S, rfl, a, b⟩
  unfold wX11_putName at hw
  have hw := hw g1
  refine z_iconst (v := Int32.ofInt 0) dX11_putName_0 rfl ?_
  refine z_istore_n dX11_putName_1 rfl (by decide) ?_
  refine z_loc (L' := [(0, .ref (G.1 + 54)), (1, .int (Int32.ofInt (a1))), (2, .int (Int32.ofInt (0)))]) (List.forall_mem_cons.mpr ⟨rfl, (List.forall_mem_cons.mpr ⟨rfl, (List.forall_mem_cons.mpr ⟨rfl, (fun _ h => nomatch h)⟩)⟩)⟩) ?_
  refine z_loc (L' := [(0, .ref (G.1 + 54)), (1, .int (Int32.ofInt (a1))), (2, .int (Int32.ofInt (0)))]) (List.forall_mem_cons.mpr ⟨rfl, (List.forall_mem_cons.mpr ⟨rfl, (List.forall_mem_cons.mpr ⟨rfl, (fun _ h => nomatch h)⟩)⟩)⟩) ?_
  exact bX11_putName_2 hd hJ hT hW hP  hw

def wX11_putNumber_48' (l2 l4 : Int) (S : St) (K : Int → St → Prop) (B48 : Int → Int → St → Prop) : Prop := (rngL (l4) ∧ ((l4 ≤ 0 → K 0 S) ∧ ((¬ (l4 ≤ 0)) → (rngL (l2) ∧ (rngL (l4) ∧ ((¬ l4 = 0) ∧ (rngL ((Int.tdiv (l2) (l4))) ∧ (rng ((48 + ((Int.tdiv (l2) (l4)) - Int.tdiv ((Int.tdiv (l2) (l4))) (10) * 10))) ∧ (wX11_put ((48 + ((Int.tdiv (l2) (l4)) - Int.tdiv ((Int.tdiv (l2) (l4))) (10) * 10))) S (fun r8 S9 => (rngL (l4) ∧ (∀ x11 : Int, x11 = (Int.tdiv (l4) (10)) → B48 (l2) (x11) S9))))))))))))
set_option maxRecDepth 100000 in
set_option maxHeartbeats 4000000 in
theorem bX11_putNumber_48' {G : xG} {sh : Nat → Option Sh} {J : St → List va_E → Prop} {d : Nat} {Post : xP} {l2 l4 : Int} {S : St} {cs : List va_E} {K : Int → St → Prop} {B48 : Int → Int → St → Prop} (hd : 1 ≤ d) (hJ : Stb sh J) (hT : isM sh) (hW : Wd G sh mT J S cs) (hP : ∀ (v : Int) (S : St) (cs : List va_E), K v S → Wd G sh mT J S cs → Post (none) cs) (hB48 : ∀ (l2 : Int) (l4 : Int) (S : St) (cs : List va_E), B48 l2 l4 S → Wd G sh mT J S cs → Z (RX11, cX11_putNumber, 6, none, false) G d Post 48 [(0, .ref (G.1 + 54)), (2, .long (Int64.ofInt (l2))), (4, .long (Int64.ofInt (l4)))] [] cs) (hw : wX11_putNumber_48' l2 l4 S K B48) : Z (RX11, cX11_putNumber, 6, none, false) G d Post 48 [(0, .ref (G.1 + 54)), (2, .long (Int64.ofInt (l2))), (4, .long (Int64.ofInt (l4)))] [] cs := by
  unfold wX11_putNumber_48' at hw
  refine z_lload dX11_putNumber_48 rfl ?_
  refine z_lconst (v := Int64.ofInt 0) dX11_putNumber_50 (by decide) ?_
  obtain ⟨q1, hw⟩ := hw
  refine i_lcmp_le (tgt := 82) dX11_putNumber_51 dX11_putNumber_52 (by decide) q1 ⟨by decide, by decide⟩ (fun h2 => ?_) (fun h2 => ?_)
  · have hw := hw.1 h2
    exact z_return dX11_putNumber_82 rfl (hP 0 _ _ hw hW)
  · have hw := hw.2 h2
    refine z_aload_n dX11_putNumber_55 rfl rfl ?_
    refine z_bipush (v := Int32.ofInt 48) dX11_putNumber_56 (by decide) ?_
    refine z_lload_n dX11_putNumber_58 rfl rfl ?_
    refine z_lload dX11_putNumber_59 rfl ?_
    obtain ⟨q3, hw⟩ := hw
    obtain ⟨q4, hw⟩ := hw
    obtain ⟨q5, hw⟩ := hw
    refine i_ldiv dX11_putNumber_61 q5 q3 q4 ?_
    refine i_ldc2 (n := 10) qX11_265 rfl dX11_putNumber_62 ?_
    obtain ⟨q6, hw⟩ := hw
    refine i_lrem dX11_putNumber_65 (by decide) q6 ⟨by decide, by decide⟩ ?_
    refine i_l2i dX11_putNumber_66 ?_
    refine i_iadd dX11_putNumber_67 ?_
    obtain ⟨q7, hw⟩ := hw
    have hX := lX11_put 0 (Nat.le_refl _) hJ hT hW q7 hw
    refine z_callV (As := [_]) eX11_put sX11_put lX11_260 rfl dX11_putNumber_68 (hW.1 _ _ hT.1) hX (Nat.le_trans (by decide) hd) rfl (Nat.le_of_ble_eq_true rfl) (fun r cs hp => ?_)
    obtain ⟨r8, S9, rfl, hw, hW⟩ := hp
    refine z_st (st' := []) rfl ?_
    refine z_lload dX11_putNumber_71 rfl ?_
    refine i_ldc2 (n := 10) qX11_265 rfl dX11_putNumber_73 ?_
    obtain ⟨q10, hw⟩ := hw
    refine i_ldiv dX11_putNumber_76 (by decide) q10 ⟨by decide, by decide⟩ ?_
    obtain ⟨x11, hx11⟩ : ∃ x : Int, x = (Int.tdiv (l4) (10)) := ⟨_, rfl⟩
    have hw := hw x11 hx11
    refine z_st (st' := [.long (Int64.ofInt x11)]) (by rw [hx11]) ?_
    refine z_lstore dX11_putNumber_77 (by decide) ?_
    refine z_loc (L' := [(0, .ref (G.1 + 54)), (2, .long (Int64.ofInt (l2))), (4, .long (Int64.ofInt (x11)))]) (List.forall_mem_cons.mpr ⟨rfl, (List.forall_mem_cons.mpr ⟨rfl, (List.forall_mem_cons.mpr ⟨rfl, (fun _ h => nomatch h)⟩)⟩)⟩) ?_
    refine z_goto (tgt := 48) dX11_putNumber_79 (by decide) ?_
    refine z_loc (L' := [(0, .ref (G.1 + 54)), (2, .long (Int64.ofInt (l2))), (4, .long (Int64.ofInt (x11)))]) (List.forall_mem_cons.mpr ⟨rfl, (List.forall_mem_cons.mpr ⟨rfl, (List.forall_mem_cons.mpr ⟨rfl, (fun _ h => nomatch h)⟩)⟩)⟩) ?_
    exact hB48 _ _ _ _ hw hW
def wX11_putNumber_48 (l2 l4 : Int) (S : St) (K : Int → St → Prop) : Prop := ∃ (Iv : Int → Int → St → Prop) (mu : Int → Int → St → Nat), Iv l2 l4 S ∧ ∀ (l2 l4 : Int) (S : St), Iv l2 l4 S → wX11_putNumber_48' l2 l4 S K  (fun ml2 ml4 T => Iv ml2 ml4 T ∧ mu ml2 ml4 T < mu l2 l4 S)
set_option maxRecDepth 100000 in
set_option maxHeartbeats 4000000 in
theorem bX11_putNumber_48 {G : xG} {sh : Nat → Option Sh} {J : St → List va_E → Prop} {d : Nat} {Post : xP} {l2 l4 : Int} {S : St} {cs : List va_E} {K : Int → St → Prop} (hd : 1 ≤ d) (hJ : Stb sh J) (hT : isM sh) (hW : Wd G sh mT J S cs) (hP : ∀ (v : Int) (S : St) (cs : List va_E), K v S → Wd G sh mT J S cs → Post (none) cs)  (hw : wX11_putNumber_48 l2 l4 S K ) : Z (RX11, cX11_putNumber, 6, none, false) G d Post 48 [(0, .ref (G.1 + 54)), (2, .long (Int64.ofInt (l2))), (4, .long (Int64.ofInt (l4)))] [] cs := by
  unfold wX11_putNumber_48 at hw
  obtain ⟨Iv, mu, h0, hs⟩ := hw
  have key : ∀ (n : Nat) (l2 l4 : Int) (S : St) (cs : List va_E), mu l2 l4 S < n → Iv l2 l4 S → Wd G sh mT J S cs → Z (RX11, cX11_putNumber, 6, none, false) G d Post 48 [(0, .ref (G.1 + 54)), (2, .long (Int64.ofInt (l2))), (4, .long (Int64.ofInt (l4)))] [] cs := by
    intro n
    induction n with
    | zero => intro l2 l4 S cs hn; exact absurd hn (Nat.not_lt_zero _)
    | succ n ih =>
      intro l2 l4 S cs hn hI hW
      exact bX11_putNumber_48' hd hJ hT hW hP  (fun l2 l4 S cs hb hW => ih l2 l4 S cs (Nat.lt_of_lt_of_le hb.2 (Nat.le_of_lt_succ hn)) hb.1 hW) (hs l2 l4 S hI)
  exact key _ _ _ _ _ (Nat.lt_succ_self _) h0 hW
def wX11_putNumber_26' (l2 l4 : Int) (S : St) (K : Int → St → Prop) (B26 : Int → Int → St → Prop) : Prop := (rngL (l2) ∧ (rngL (l4) ∧ ((¬ l4 = 0) ∧ (rngL ((Int.tdiv (l2) (l4))) ∧ (((Int.tdiv (l2) (l4)) ≤ 9 → wX11_putNumber_48 (l2) (l4) S K) ∧ ((¬ ((Int.tdiv (l2) (l4)) ≤ 9)) → (∀ x6 : Int, x6 = (l4 * 10) → B26 (l2) (x6) S)))))))
set_option maxRecDepth 100000 in
set_option maxHeartbeats 4000000 in
theorem bX11_putNumber_26' {G : xG} {sh : Nat → Option Sh} {J : St → List va_E → Prop} {d : Nat} {Post : xP} {l2 l4 : Int} {S : St} {cs : List va_E} {K : Int → St → Prop} {B26 : Int → Int → St → Prop} (hd : 1 ≤ d) (hJ : Stb sh J) (hT : isM sh) (hW : Wd G sh mT J S cs) (hP : ∀ (v : Int) (S : St) (cs : List va_E), K v S → Wd G sh mT J S cs → Post (none) cs) (hB26 : ∀ (l2 : Int) (l4 : Int) (S : St) (cs : List va_E), B26 l2 l4 S → Wd G sh mT J S cs → Z (RX11, cX11_putNumber, 6, none, false) G d Post 26 [(0, .ref (G.1 + 54)), (2, .long (Int64.ofInt (l2))), (4, .long (Int64.ofInt (l4)))] [] cs) (hw : wX11_putNumber_26' l2 l4 S K B26) : Z (RX11, cX11_putNumber, 6, none, false) G d Post 26 [(0, .ref (G.1 + 54)), (2, .long (Int64.ofInt (l2))), (4, .long (Int64.ofInt (l4)))] [] cs := by
  unfold wX11_putNumber_26' at hw
  refine z_lload_n dX11_putNumber_26 rfl rfl ?_
  refine z_lload dX11_putNumber_27 rfl ?_
  obtain ⟨q1, hw⟩ := hw
  obtain ⟨q2, hw⟩ := hw
  obtain ⟨q3, hw⟩ := hw
  refine i_ldiv dX11_putNumber_29 q3 q1 q2 ?_
  refine i_ldc2 (n := 9) qX11_263 rfl dX11_putNumber_30 ?_
  obtain ⟨q4, hw⟩ := hw
  refine i_lcmp_le (tgt := 48) dX11_putNumber_33 dX11_putNumber_34 (by decide) q4 ⟨by decide, by decide⟩ (fun h5 => ?_) (fun h5 => ?_)
  · have hw := hw.1 h5
    refine z_loc (L' := [(0, .ref (G.1 + 54)), (2, .long (Int64.ofInt (l2))), (4, .long (Int64.ofInt (l4)))]) (List.forall_mem_cons.mpr ⟨rfl, (List.forall_mem_cons.mpr ⟨rfl, (List.forall_mem_cons.mpr ⟨rfl, (fun _ h => nomatch h)⟩)⟩)⟩) ?_
    exact bX11_putNumber_48 hd hJ hT hW hP  hw
  · have hw := hw.2 h5
    refine z_lload dX11_putNumber_37 rfl ?_
    refine i_ldc2 (n := 10) qX11_265 rfl dX11_putNumber_39 ?_
    refine i_lmul dX11_putNumber_42 ?_
    obtain ⟨x6, hx6⟩ : ∃ x : Int, x = (l4 * 10) := ⟨_, rfl⟩
    have hw := hw x6 hx6
    refine z_st (st' := [.long (Int64.ofInt x6)]) (by rw [hx6]) ?_
    refine z_lstore dX11_putNumber_43 (by decide) ?_
    refine z_loc (L' := [(0, .ref (G.1 + 54)), (2, .long (Int64.ofInt (l2))), (4, .long (Int64.ofInt (x6)))]) (List.forall_mem_cons.mpr ⟨rfl, (List.forall_mem_cons.mpr ⟨rfl, (List.forall_mem_cons.mpr ⟨rfl, (fun _ h => nomatch h)⟩)⟩)⟩) ?_
    refine z_goto (tgt := 26) dX11_putNumber_45 (by decide) ?_
    refine z_loc (L' := [(0, .ref (G.1 + 54)), (2, .long (Int64.ofInt (l2))), (4, .long (Int64.ofInt (x6)))]) (List.forall_mem_cons.mpr ⟨rfl, (List.forall_mem_cons.mpr ⟨rfl, (List.forall_mem_cons.mpr ⟨rfl, (fun _ h => nomatch h)⟩)⟩)⟩) ?_
    exact hB26 _ _ _ _ hw hW
def wX11_putNumber_26 (l2 l4 : Int) (S : St) (K : Int → St → Prop) : Prop := ∃ (Iv : Int → Int → St → Prop) (mu : Int → Int → St → Nat), Iv l2 l4 S ∧ ∀ (l2 l4 : Int) (S : St), Iv l2 l4 S → wX11_putNumber_26' l2 l4 S K  (fun ml2 ml4 T => Iv ml2 ml4 T ∧ mu ml2 ml4 T < mu l2 l4 S)
set_option maxRecDepth 100000 in
set_option maxHeartbeats 4000000 in
theorem bX11_putNumber_26 {G : xG} {sh : Nat → Option Sh} {J : St → List va_E → Prop} {d : Nat} {Post : xP} {l2 l4 : Int} {S : St} {cs : List va_E} {K : Int → St → Prop} (hd : 1 ≤ d) (hJ : Stb sh J) (hT : isM sh) (hW : Wd G sh mT J S cs) (hP : ∀ (v : Int) (S : St) (cs : List va_E), K v S → Wd G sh mT J S cs → Post (none) cs)  (hw : wX11_putNumber_26 l2 l4 S K ) : Z (RX11, cX11_putNumber, 6, none, false) G d Post 26 [(0, .ref (G.1 + 54)), (2, .long (Int64.ofInt (l2))), (4, .long (Int64.ofInt (l4)))] [] cs := by
  unfold wX11_putNumber_26 at hw
  obtain ⟨Iv, mu, h0, hs⟩ := hw
  have key : ∀ (n : Nat) (l2 l4 : Int) (S : St) (cs : List va_E), mu l2 l4 S < n → Iv l2 l4 S → Wd G sh mT J S cs → Z (RX11, cX11_putNumber, 6, none, false) G d Post 26 [(0, .ref (G.1 + 54)), (2, .long (Int64.ofInt (l2))), (4, .long (Int64.ofInt (l4)))] [] cs := by
    intro n
    induction n with
    | zero => intro l2 l4 S cs hn; exact absurd hn (Nat.not_lt_zero _)
    | succ n ih =>
      intro l2 l4 S cs hn hI hW
      exact bX11_putNumber_26' hd hJ hT hW hP  (fun l2 l4 S cs hb hW => ih l2 l4 S cs (Nat.lt_of_lt_of_le hb.2 (Nat.le_of_lt_succ hn)) hb.1 hW) (hs l2 l4 S hI)
  exact key _ _ _ _ _ (Nat.lt_succ_self _) h0 hW
def wX11_putNumber_23 (l2 : Int) (S : St) (K : Int → St → Prop) : Prop := wX11_putNumber_26 (l2) (1) S K
set_option maxRecDepth 100000 in
set_option maxHeartbeats 4000000 in
theorem bX11_putNumber_23 {G : xG} {sh : Nat → Option Sh} {J : St → List va_E → Prop} {d : Nat} {Post : xP} {l2 : Int} {S : St} {cs : List va_E} {K : Int → St → Prop} (hd : 1 ≤ d) (hJ : Stb sh J) (hT : isM sh) (hW : Wd G sh mT J S cs) (hP : ∀ (v : Int) (S : St) (cs : List va_E), K v S → Wd G sh mT J S cs → Post (none) cs)  (hw : wX11_putNumber_23 l2 S K ) : Z (RX11, cX11_putNumber, 6, none, false) G d Post 23 [(0, .ref (G.1 + 54)), (2, .long (Int64.ofInt (l2)))] [] cs := by
  unfold wX11_putNumber_23 at hw
  refine z_lconst (v := Int64.ofInt 1) dX11_putNumber_23 (by decide) ?_
  refine z_lstore dX11_putNumber_24 (by decide) ?_
  refine z_loc (L' := [(0, .ref (G.1 + 54)), (2, .long (Int64.ofInt (l2))), (4, .long (Int64.ofInt (1)))]) (List.forall_mem_cons.mpr ⟨rfl, (List.forall_mem_cons.mpr ⟨rfl, (List.forall_mem_cons.mpr ⟨rfl, (fun _ h => nomatch h)⟩)⟩)⟩) ?_
  refine z_loc (L' := [(0, .ref (G.1 + 54)), (2, .long (Int64.ofInt (l2))), (4, .long (Int64.ofInt (1)))]) (List.forall_mem_cons.mpr ⟨rfl, (List.forall_mem_cons.mpr ⟨rfl, (List.forall_mem_cons.mpr ⟨rfl, (fun _ h => nomatch h)⟩)⟩)⟩) ?_
  exact bX11_putNumber_26 hd hJ hT hW hP  hw
def wX11_putNumber_12 (l1 s0 : Int) (S : St) (K : Int → St → Prop) : Prop := (rng (l1) ∧ ((0 ≤ l1 → wX11_putNumber_23 (s0) S K) ∧ ((¬ (0 ≤ l1)) → (wX11_put (45) S (fun r3 S4 => wX11_putNumber_23 (s0) S4 K)))))
set_option maxRecDepth 100000 in
set_option maxHeartbeats 4000000 in
theorem bX11_putNumber_12 {G : xG} {sh : Nat → Option Sh} {J : St → List va_E → Prop} {d : Nat} {Post : xP} {l1 s0 : Int} {S : St} {cs : List va_E} {K : Int → St → Prop} (hd : 1 ≤ d) (hJ : Stb sh J) (hT : isM sh) (hW : Wd G sh mT J S cs) (hP : ∀ (v : Int) (S : St) (cs : List va_E), K v S → Wd G sh mT J S cs → Post (none) cs)  (hw : wX11_putNumber_12 l1 s0 S K ) : Z (RX11, cX11_putNumber, 6, none, false) G d Post 12 [(0, .ref (G.1 + 54)), (1, .int (Int32.ofInt (l1)))] [.long (Int64.ofInt (s0))] cs := by
  unfold wX11_putNumber_12 at hw
  refine z_lstore_n dX11_putNumber_12 rfl (by decide) ?_
  refine z_loc (L' := [(0, .ref (G.1 + 54)), (1, .int (Int32.ofInt (l1))), (2, .long (Int64.ofInt (s0)))]) (List.forall_mem_cons.mpr ⟨rfl, (List.forall_mem_cons.mpr ⟨rfl, (List.forall_mem_cons.mpr ⟨rfl, (fun _ h => nomatch h)⟩)⟩)⟩) ?_
  refine z_iload_n dX11_putNumber_13 rfl rfl ?_
  obtain ⟨q2, hw⟩ := hw
  refine i_if_ge (tgt := 23) dX11_putNumber_14 (by decide) q2 (fun h1 => ?_) (fun h1 => ?_)
  · have hw := hw.1 h1
    refine z_loc (L' := [(0, .ref (G.1 + 54)), (2, .long (Int64.ofInt (s0)))]) (List.forall_mem_cons.mpr ⟨rfl, (List.forall_mem_cons.mpr ⟨rfl, (fun _ h => nomatch h)⟩)⟩) ?_
    exact bX11_putNumber_23 hd hJ hT hW hP  hw
  · have hw := hw.2 h1
    refine z_aload_n dX11_putNumber_17 rfl rfl ?_
    refine z_bipush (v := Int32.ofInt 45) dX11_putNumber_18 (by decide) ?_
    have hX := lX11_put 0 (Nat.le_refl _) hJ hT hW ⟨by decide, by decide⟩ hw
    refine z_callV (As := [_]) eX11_put sX11_put lX11_260 rfl dX11_putNumber_20 (hW.1 _ _ hT.1) hX (Nat.le_trans (by decide) hd) rfl (Nat.le_of_ble_eq_true rfl) (fun r cs hp => ?_)
    obtain ⟨r3, S4, rfl, hw, hW⟩ := hp
    refine z_st (st' := []) rfl ?_
    refine z_loc (L' := [(0, .ref (G.1 + 54)), (2, .long (Int64.ofInt (s0)))]) (List.forall_mem_cons.mpr ⟨rfl, (List.forall_mem_cons.mpr ⟨rfl, (fun _ h => nomatch h)⟩)⟩) ?_
    exact bX11_putNumber_23 hd hJ hT hW hP  hw
def wX11_putNumber (a1 : Int) (S : St) (K : Int → St → Prop) : Prop := rng a1 → ((0 ≤ a1 → wX11_putNumber_12 (a1) (a1) S K) ∧ ((¬ (0 ≤ a1)) → wX11_putNumber_12 (a1) ((-a1)) S K))
set_option maxRecDepth 100000 in
set_option maxHeartbeats 4000000 in
theorem lX11_putNumber {G : xG} {sh : Nat → Option Sh} {J : St → List va_E → Prop} {a1 : Int} {S : St} {cs : List va_E} {K : Int → St → Prop} (d : Nat) (hd : 1 ≤ d) (hJ : Stb sh J) (hT : isM sh) (hW : Wd G sh mT J S cs) (g1 : rng a1) (hw : wX11_putNumber a1 S K) : X G yX11_putNumber cX11_putNumber 6 none d [.ref (G.1 + 54), .int (Int32.ofInt a1)] cs (qV G sh mT J K) := by
  refine X.of false (by decide +kernel) (by decide) (Nat.le_of_ble_eq_true rfl) ?_
  show Z (RX11, cX11_putNumber, 6, none, false) G d _ 0 [(0, .ref (G.1 + 54)), (1, .int (Int32.ofInt a1))] [] cs
  have hP : ∀ (v : Int) (S : St) (cs : List va_E), K v S → Wd G sh mT J S cs → qV G sh mT J K (none) cs := fun v S cs a b => ⟨v, S, rfl, a, b⟩
  unfold wX11_putNumber at hw
  have hw := hw g1
  refine z_iload_n dX11_putNumber_0 rfl rfl ?_
  refine i_if_ge (tgt := 10) dX11_putNumber_1 (by decide) g1 (fun h1 => ?_) (fun h1 => ?_)
  · have hw := hw.1 h1
    refine z_iload_n dX11_putNumber_10 rfl rfl ?_
    refine i_i2l dX11_putNumber_11 g1 ?_
    refine z_loc (L' := [(0, .ref (G.1 + 54)), (1, .int (Int32.ofInt (a1)))]) (List.forall_mem_cons.mpr ⟨rfl, (List.forall_mem_cons.mpr ⟨rfl, (fun _ h => nomatch h)⟩)⟩) ?_
    exact bX11_putNumber_12 hd hJ hT hW hP  hw
  · have hw := hw.2 h1
    refine z_iload_n dX11_putNumber_4 rfl rfl ?_
    refine i_i2l dX11_putNumber_5 g1 ?_
    refine i_lneg dX11_putNumber_6 ?_
    refine z_goto (tgt := 12) dX11_putNumber_7 (by decide) ?_
    refine z_loc (L' := [(0, .ref (G.1 + 54)), (1, .int (Int32.ofInt (a1)))]) (List.forall_mem_cons.mpr ⟨rfl, (List.forall_mem_cons.mpr ⟨rfl, (fun _ h => nomatch h)⟩)⟩) ?_
    exact bX11_putNumber_12 hd hJ hT hW hP  hw

def wX11_putText_136 (l1 l2 l3 : Int) (S : St) (K : Int → St → Prop) (B2 : Int → Int → Int → St → Prop) : Prop := B2 (l1) (l2) ((l3 + 1)) S
set_option maxRecDepth 100000 in
set_option maxHeartbeats 4000000 in
theorem bX11_putText_136 {G : xG} {sh : Nat → Option Sh} {J : St → List va_E → Prop} {d : Nat} {Post : xP} {l1 l2 l3 : Int} {S : St} {cs : List va_E} {K : Int → St → Prop} {B2 : Int → Int → Int → St → Prop} (hd : 2 ≤ d) (hJ : Stb sh J) (hT : isM sh) (hW : Wd G sh mT J S cs) (hP : ∀ (v : Int) (S : St) (cs : List va_E), K v S → Wd G sh mT J S cs → Post (none) cs) (hB2 : ∀ (l1 : Int) (l2 : Int) (l3 : Int) (S : St) (cs : List va_E), B2 l1 l2 l3 S → Wd G sh mT J S cs → Z (RX11, cX11_putText, 5, none, false) G d Post 2 [(0, .ref (G.1 + 54)), (1, .int (Int32.ofInt (l1))), (2, .int (Int32.ofInt (l2))), (3, .int (Int32.ofInt (l3)))] [] cs) (hw : wX11_putText_136 l1 l2 l3 S K B2) : Z (RX11, cX11_putText, 5, none, false) G d Post 136 [(0, .ref (G.1 + 54)), (1, .int (Int32.ofInt (l1))), (2, .int (Int32.ofInt (l2))), (3, .int (Int32.ofInt (l3)))] [] cs := by
  unfold wX11_putText_136 at hw
  refine i_iinc (l := l3) dX11_putText_136 rfl (by decide) ?_
  refine z_loc (L' := [(0, .ref (G.1 + 54)), (1, .int (Int32.ofInt (l1))), (2, .int (Int32.ofInt (l2))), (3, .int (Int32.ofInt ((l3 + 1))))]) (List.forall_mem_cons.mpr ⟨rfl, (List.forall_mem_cons.mpr ⟨rfl, (List.forall_mem_cons.mpr ⟨rfl, (List.forall_mem_cons.mpr ⟨rfl, (fun _ h => nomatch h)⟩)⟩)⟩)⟩) ?_
  refine z_goto (tgt := 2) dX11_putText_139 (by decide) ?_
  refine z_loc (L' := [(0, .ref (G.1 + 54)), (1, .int (Int32.ofInt (l1))), (2, .int (Int32.ofInt (l2))), (3, .int (Int32.ofInt ((l3 + 1))))]) (List.forall_mem_cons.mpr ⟨rfl, (List.forall_mem_cons.mpr ⟨rfl, (List.forall_mem_cons.mpr ⟨rfl, (List.forall_mem_cons.mpr ⟨rfl, (fun _ h => nomatch h)⟩)⟩)⟩)⟩) ?_
  exact hB2 _ _ _ _ _ hw hW
def wX11_putText_84 (l1 l2 l3 s0 s1 : Int) (S : St) (K : Int → St → Prop) (B2 : Int → Int → Int → St → Prop) : Prop := (rng (s1) ∧ (rng (s0) ∧ (wX11_putWord (s1) (s0) (116) (59) S (fun r3 S4 => wX11_putText_136 (l1) (l2) (l3) S4 K B2))))
set_option maxRecDepth 100000 in
set_option maxHeartbeats 4000000 in
theorem bX11_putText_84 {G : xG} {sh : Nat → Option Sh} {J : St → List va_E → Prop} {d : Nat} {Post : xP} {l1 l2 l3 s0 s1 : Int} {S : St} {cs : List va_E} {K : Int → St → Prop} {B2 : Int → Int → Int → St → Prop} (hd : 2 ≤ d) (hJ : Stb sh J) (hT : isM sh) (hW : Wd G sh mT J S cs) (hP : ∀ (v : Int) (S : St) (cs : List va_E), K v S → Wd G sh mT J S cs → Post (none) cs) (hB2 : ∀ (l1 : Int) (l2 : Int) (l3 : Int) (S : St) (cs : List va_E), B2 l1 l2 l3 S → Wd G sh mT J S cs → Z (RX11, cX11_putText, 5, none, false) G d Post 2 [(0, .ref (G.1 + 54)), (1, .int (Int32.ofInt (l1))), (2, .int (Int32.ofInt (l2))), (3, .int (Int32.ofInt (l3)))] [] cs) (hw : wX11_putText_84 l1 l2 l3 s0 s1 S K B2) : Z (RX11, cX11_putText, 5, none, false) G d Post 84 [(0, .ref (G.1 + 54)), (1, .int (Int32.ofInt (l1))), (2, .int (Int32.ofInt (l2))), (3, .int (Int32.ofInt (l3)))] [.int (Int32.ofInt (s0)), .int (Int32.ofInt (s1)), .ref (G.1 + 54)] cs := by
  unfold wX11_putText_84 at hw
  refine z_bipush (v := Int32.ofInt 116) dX11_putText_84 (by decide) ?_
  refine z_bipush (v := Int32.ofInt 59) dX11_putText_86 (by decide) ?_
  obtain ⟨q1, hw⟩ := hw
  obtain ⟨q2, hw⟩ := hw
  have hX := lX11_putWord 1 (Nat.le_refl _) hJ hT hW q1 q2 ⟨by decide, by decide⟩ ⟨by decide, by decide⟩ hw
  refine z_callV (As := [_, _, _, _]) eX11_putWord sX11_putWord lX11_267 rfl dX11_putText_88 (hW.1 _ _ hT.1) hX (Nat.le_trans (by decide) hd) rfl (Nat.le_of_ble_eq_true rfl) (fun r cs hp => ?_)
  obtain ⟨r3, S4, rfl, hw, hW⟩ := hp
  refine z_st (st' := []) rfl ?_
  refine z_goto (tgt := 136) dX11_putText_91 (by decide) ?_
  refine z_loc (L' := [(0, .ref (G.1 + 54)), (1, .int (Int32.ofInt (l1))), (2, .int (Int32.ofInt (l2))), (3, .int (Int32.ofInt (l3)))]) (List.forall_mem_cons.mpr ⟨rfl, (List.forall_mem_cons.mpr ⟨rfl, (List.forall_mem_cons.mpr ⟨rfl, (List.forall_mem_cons.mpr ⟨rfl, (fun _ h => nomatch h)⟩)⟩)⟩)⟩) ?_
  exact bX11_putText_136 hd hJ hT hW hP hB2 hw
def wX11_putText_67 (l1 l2 l3 l4 : Int) (S : St) (K : Int → St → Prop) (B2 : Int → Int → Int → St → Prop) : Prop := (rng (l4) ∧ ((¬ l4 = 60 → wX11_putText_84 (l1) (l2) (l3) (103) (38) S K B2) ∧ ((¬ (¬ l4 = 60)) → wX11_putText_84 (l1) (l2) (l3) (108) (38) S K B2)))
set_option maxRecDepth 100000 in
set_option maxHeartbeats 4000000 in
theorem bX11_putText_67 {G : xG} {sh : Nat → Option Sh} {J : St → List va_E → Prop} {d : Nat} {Post : xP} {l1 l2 l3 l4 : Int} {S : St} {cs : List va_E} {K : Int → St → Prop} {B2 : Int → Int → Int → St → Prop} (hd : 2 ≤ d) (hJ : Stb sh J) (hT : isM sh) (hW : Wd G sh mT J S cs) (hP : ∀ (v : Int) (S : St) (cs : List va_E), K v S → Wd G sh mT J S cs → Post (none) cs) (hB2 : ∀ (l1 : Int) (l2 : Int) (l3 : Int) (S : St) (cs : List va_E), B2 l1 l2 l3 S → Wd G sh mT J S cs → Z (RX11, cX11_putText, 5, none, false) G d Post 2 [(0, .ref (G.1 + 54)), (1, .int (Int32.ofInt (l1))), (2, .int (Int32.ofInt (l2))), (3, .int (Int32.ofInt (l3)))] [] cs) (hw : wX11_putText_67 l1 l2 l3 l4 S K B2) : Z (RX11, cX11_putText, 5, none, false) G d Post 67 [(0, .ref (G.1 + 54)), (1, .int (Int32.ofInt (l1))), (2, .int (Int32.ofInt (l2))), (3, .int (Int32.ofInt (l3))), (4, .int (Int32.ofInt (l4)))] [] cs := by
  unfold wX11_putText_67 at hw
  refine z_aload_n dX11_putText_67 rfl rfl ?_
  refine z_bipush (v := Int32.ofInt 38) dX11_putText_68 (by decide) ?_
  refine z_iload dX11_putText_70 rfl ?_
  refine z_bipush (v := Int32.ofInt 60) dX11_putText_72 (by decide) ?_
  obtain ⟨q2, hw⟩ := hw
  refine i_icmp_ne (tgt := 82) dX11_putText_74 (by decide) q2 ⟨by decide, by decide⟩ (fun h1 => ?_) (fun h1 => ?_)
  · have hw := hw.1 h1
    refine z_bipush (v := Int32.ofInt 103) dX11_putText_82 (by decide) ?_
    refine z_loc (L' := [(0, .ref (G.1 + 54)), (1, .int (Int32.ofInt (l1))), (2, .int (Int32.ofInt (l2))), (3, .int (Int32.ofInt (l3)))]) (List.forall_mem_cons.mpr ⟨rfl, (List.forall_mem_cons.mpr ⟨rfl, (List.forall_mem_cons.mpr ⟨rfl, (List.forall_mem_cons.mpr ⟨rfl, (fun _ h => nomatch h)⟩)⟩)⟩)⟩) ?_
    exact bX11_putText_84 hd hJ hT hW hP hB2 hw
  · have hw := hw.2 h1
    refine z_bipush (v := Int32.ofInt 108) dX11_putText_77 (by decide) ?_
    refine z_goto (tgt := 84) dX11_putText_79 (by decide) ?_
    refine z_loc (L' := [(0, .ref (G.1 + 54)), (1, .int (Int32.ofInt (l1))), (2, .int (Int32.ofInt (l2))), (3, .int (Int32.ofInt (l3)))]) (List.forall_mem_cons.mpr ⟨rfl, (List.forall_mem_cons.mpr ⟨rfl, (List.forall_mem_cons.mpr ⟨rfl, (List.forall_mem_cons.mpr ⟨rfl, (fun _ h => nomatch h)⟩)⟩)⟩)⟩) ?_
    exact bX11_putText_84 hd hJ hT hW hP hB2 hw
def wX11_putText_130 (l1 l2 l3 l4 : Int) (S : St) (K : Int → St → Prop) (B2 : Int → Int → Int → St → Prop) : Prop := (rng (l4) ∧ (wX11_put (l4) S (fun r2 S3 => wX11_putText_136 (l1) (l2) (l3) S3 K B2)))
set_option maxRecDepth 100000 in
set_option maxHeartbeats 4000000 in
theorem bX11_putText_130 {G : xG} {sh : Nat → Option Sh} {J : St → List va_E → Prop} {d : Nat} {Post : xP} {l1 l2 l3 l4 : Int} {S : St} {cs : List va_E} {K : Int → St → Prop} {B2 : Int → Int → Int → St → Prop} (hd : 2 ≤ d) (hJ : Stb sh J) (hT : isM sh) (hW : Wd G sh mT J S cs) (hP : ∀ (v : Int) (S : St) (cs : List va_E), K v S → Wd G sh mT J S cs → Post (none) cs) (hB2 : ∀ (l1 : Int) (l2 : Int) (l3 : Int) (S : St) (cs : List va_E), B2 l1 l2 l3 S → Wd G sh mT J S cs → Z (RX11, cX11_putText, 5, none, false) G d Post 2 [(0, .ref (G.1 + 54)), (1, .int (Int32.ofInt (l1))), (2, .int (Int32.ofInt (l2))), (3, .int (Int32.ofInt (l3)))] [] cs) (hw : wX11_putText_130 l1 l2 l3 l4 S K B2) : Z (RX11, cX11_putText, 5, none, false) G d Post 130 [(0, .ref (G.1 + 54)), (1, .int (Int32.ofInt (l1))), (2, .int (Int32.ofInt (l2))), (3, .int (Int32.ofInt (l3))), (4, .int (Int32.ofInt (l4)))] [] cs := by
  unfold wX11_putText_130 at hw
  refine z_aload_n dX11_putText_130 rfl rfl ?_
  refine z_iload dX11_putText_131 rfl ?_
  obtain ⟨q1, hw⟩ := hw
  have hX := lX11_put 0 (Nat.le_refl _) hJ hT hW q1 hw
  refine z_callV (As := [_]) eX11_put sX11_put lX11_260 rfl dX11_putText_133 (hW.1 _ _ hT.1) hX (Nat.le_trans (by decide) hd) rfl (Nat.le_of_ble_eq_true rfl) (fun r cs hp => ?_)
  obtain ⟨r2, S3, rfl, hw, hW⟩ := hp
  refine z_st (st' := []) rfl ?_
  refine z_loc (L' := [(0, .ref (G.1 + 54)), (1, .int (Int32.ofInt (l1))), (2, .int (Int32.ofInt (l2))), (3, .int (Int32.ofInt (l3)))]) (List.forall_mem_cons.mpr ⟨rfl, (List.forall_mem_cons.mpr ⟨rfl, (List.forall_mem_cons.mpr ⟨rfl, (List.forall_mem_cons.mpr ⟨rfl, (fun _ h => nomatch h)⟩)⟩)⟩)⟩) ?_
  exact bX11_putText_136 hd hJ hT hW hP hB2 hw
def wX11_putText_2' (l1 l2 l3 : Int) (S : St) (K : Int → St → Prop) (B2 : Int → Int → Int → St → Prop) : Prop := ((0 : Int) ≤ l1 ∧ l1 < (360 : Int) ∧ (iv (-2147483648) 2147483647 (S.2 69 (l1)) → (rng (l3) ∧ ((S.2 69 (l1) ≤ l3 → K 0 S) ∧ ((¬ (S.2 69 (l1) ≤ l3)) → ((0 : Int) ≤ ((20 * l1) + l3) ∧ ((20 * l1) + l3) < (7200 : Int) ∧ (iv (-2147483648) 2147483647 (S.2 70 (((20 * l1) + l3))) → (∀ x7 : Int, x7 = S.2 70 (((20 * l1) + l3)) → ((¬ x7 = 38 → ((x7 = 60 → wX11_putText_67 (l1) (l2) (l3) (x7) S K B2) ∧ ((¬ (x7 = 60)) → ((¬ x7 = 62 → ((¬ x7 = 34 → wX11_putText_130 (l1) (l2) (l3) (x7) S K B2) ∧ ((¬ (¬ x7 = 34)) → (rng (l2) ∧ ((l2 = 0 → wX11_putText_130 (l1) (l2) (l3) (x7) S K B2) ∧ ((¬ (l2 = 0)) → (wX11_putWord (38) (113) (117) (111) S (fun r16 S17 => (wX11_putWord (116) (59) (0) (0) S17 (fun r18 S19 => wX11_putText_136 (l1) (l2) (l3) S19 K B2)))))))))) ∧ ((¬ (¬ x7 = 62)) → wX11_putText_67 (l1) (l2) (l3) (x7) S K B2))))) ∧ ((¬ (¬ x7 = 38)) → (wX11_putWord (38) (97) (109) (112) S (fun r20 S21 => (wX11_put (59) S21 (fun r22 S23 => wX11_putText_136 (l1) (l2) (l3) S23 K B2))))))))))))))
set_option maxRecDepth 100000 in
set_option maxHeartbeats 4000000 in
theorem bX11_putText_2' {G : xG} {sh : Nat → Option Sh} {J : St → List va_E → Prop} {d : Nat} {Post : xP} {l1 l2 l3 : Int} {S : St} {cs : List va_E} {K : Int → St → Prop} {B2 : Int → Int → Int → St → Prop} (hd : 2 ≤ d) (hJ : Stb sh J) (hT : isM sh) (hW : Wd G sh mT J S cs) (hP : ∀ (v : Int) (S : St) (cs : List va_E), K v S → Wd G sh mT J S cs → Post (none) cs) (hB2 : ∀ (l1 : Int) (l2 : Int) (l3 : Int) (S : St) (cs : List va_E), B2 l1 l2 l3 S → Wd G sh mT J S cs → Z (RX11, cX11_putText, 5, none, false) G d Post 2 [(0, .ref (G.1 + 54)), (1, .int (Int32.ofInt (l1))), (2, .int (Int32.ofInt (l2))), (3, .int (Int32.ofInt (l3)))] [] cs) (hw : wX11_putText_2' l1 l2 l3 S K B2) : Z (RX11, cX11_putText, 5, none, false) G d Post 2 [(0, .ref (G.1 + 54)), (1, .int (Int32.ofInt (l1))), (2, .int (Int32.ofInt (l2))), (3, .int (Int32.ofInt (l3)))] [] cs := by
  unfold wX11_putText_2' at hw
  refine z_iload_n dX11_putText_2 rfl rfl ?_
  refine z_aload_n dX11_putText_3 rfl rfl ?_
  refine g_getR hW hT.1 mr16 kX11 fX11_53 dX11_putText_4 ?_
  refine z_iload_n dX11_putText_7 rfl rfl ?_
  obtain ⟨q1a, q1b, hw⟩ := hw
  have q2 : iv (-2147483648) 2147483647 (S.2 69 (l1)) := mA69 hW _
  have hw := hw q2
  refine g_iald hW (ma69 hT) q1a q1b (by decide) dX11_putText_8 ?_
  obtain ⟨q4, hw⟩ := hw
  refine i_icmp_ge (tgt := 142) dX11_putText_9 (by decide) q4 (rngq q2 (by decide) (by decide)) (fun h3 => ?_) (fun h3 => ?_)
  · have hw := hw.1 h3
    exact z_return dX11_putText_142 rfl (hP 0 _ _ hw hW)
  · have hw := hw.2 h3
    refine z_aload_n dX11_putText_12 rfl rfl ?_
    refine g_getR hW hT.1 mr17 kX11 fX11_56 dX11_putText_13 ?_
    refine z_bipush (v := Int32.ofInt 20) dX11_putText_16 (by decide) ?_
    refine z_iload_n dX11_putText_18 rfl rfl ?_
    refine i_imul dX11_putText_19 ?_
    refine z_iload_n dX11_putText_20 rfl rfl ?_
    refine i_iadd dX11_putText_21 ?_
    obtain ⟨q5a, q5b, hw⟩ := hw
    have q6 : iv (-2147483648) 2147483647 (S.2 70 (((20 * l1) + l3))) := mA70 hW _
    have hw := hw q6
    refine g_iald hW (ma70 hT) q5a q5b (by decide) dX11_putText_22 ?_
    obtain ⟨x7, hx7⟩ : ∃ x : Int, x = S.2 70 (((20 * l1) + l3)) := ⟨_, rfl⟩
    have hw := hw x7 hx7
    refine z_st (st' := [.int (Int32.ofInt x7)]) (by rw [hx7]) ?_
    have q8 : rng x7 := by rw [hx7]; exact (rngq q6 (by decide) (by decide))
    have q9 : iv (-2147483648) 2147483647 x7 := by rw [hx7]; exact q6
    refine z_istore dX11_putText_23 (by decide) ?_
    refine z_loc (L' := [(0, .ref (G.1 + 54)), (1, .int (Int32.ofInt (l1))), (2, .int (Int32.ofInt (l2))), (3, .int (Int32.ofInt (l3))), (4, .int (Int32.ofInt (x7)))]) (List.forall_mem_cons.mpr ⟨rfl, (List.forall_mem_cons.mpr ⟨rfl, (List.forall_mem_cons.mpr ⟨rfl, (List.forall_mem_cons.mpr ⟨rfl, (List.forall_mem_cons.mpr ⟨rfl, (fun _ h => nomatch h)⟩)⟩)⟩)⟩)⟩) ?_
    refine z_iload dX11_putText_25 rfl ?_
    refine z_bipush (v := Int32.ofInt 38) dX11_putText_27 (by decide) ?_
    refine i_icmp_ne (tgt := 53) dX11_putText_29 (by decide) q8 ⟨by decide, by decide⟩ (fun h10 => ?_) (fun h10 => ?_)
    · have hw := hw.1 h10
      refine z_iload dX11_putText_53 rfl ?_
      refine z_bipush (v := Int32.ofInt 60) dX11_putText_55 (by decide) ?_
      refine i_icmp_eq (tgt := 67) dX11_putText_57 (by decide) q8 ⟨by decide, by decide⟩ (fun h11 => ?_) (fun h11 => ?_)
      · have hw := hw.1 h11
        refine z_loc (L' := [(0, .ref (G.1 + 54)), (1, .int (Int32.ofInt (l1))), (2, .int (Int32.ofInt (l2))), (3, .int (Int32.ofInt (l3))), (4, .int (Int32.ofInt (x7)))]) (List.forall_mem_cons.mpr ⟨rfl, (List.forall_mem_cons.mpr ⟨rfl, (List.forall_mem_cons.mpr ⟨rfl, (List.forall_mem_cons.mpr ⟨rfl, (List.forall_mem_cons.mpr ⟨rfl, (fun _ h => nomatch h)⟩)⟩)⟩)⟩)⟩) ?_
        exact bX11_putText_67 hd hJ hT hW hP hB2 hw
      · have hw := hw.2 h11
        refine z_iload dX11_putText_60 rfl ?_
        refine z_bipush (v := Int32.ofInt 62) dX11_putText_62 (by decide) ?_
        refine i_icmp_ne (tgt := 94) dX11_putText_64 (by decide) q8 ⟨by decide, by decide⟩ (fun h12 => ?_) (fun h12 => ?_)
        · have hw := hw.1 h12
          refine z_iload dX11_putText_94 rfl ?_
          refine z_bipush (v := Int32.ofInt 34) dX11_putText_96 (by decide) ?_
          refine i_icmp_ne (tgt := 130) dX11_putText_98 (by decide) q8 ⟨by decide, by decide⟩ (fun h13 => ?_) (fun h13 => ?_)
          · have hw := hw.1 h13
            refine z_loc (L' := [(0, .ref (G.1 + 54)), (1, .int (Int32.ofInt (l1))), (2, .int (Int32.ofInt (l2))), (3, .int (Int32.ofInt (l3))), (4, .int (Int32.ofInt (x7)))]) (List.forall_mem_cons.mpr ⟨rfl, (List.forall_mem_cons.mpr ⟨rfl, (List.forall_mem_cons.mpr ⟨rfl, (List.forall_mem_cons.mpr ⟨rfl, (List.forall_mem_cons.mpr ⟨rfl, (fun _ h => nomatch h)⟩)⟩)⟩)⟩)⟩) ?_
            exact bX11_putText_130 hd hJ hT hW hP hB2 hw
          · have hw := hw.2 h13
            refine z_iload_n dX11_putText_101 rfl rfl ?_
            obtain ⟨q15, hw⟩ := hw
            refine i_if_eq (tgt := 130) dX11_putText_102 (by decide) q15 (fun h14 => ?_) (fun h14 => ?_)
            · have hw := hw.1 h14
              refine z_loc (L' := [(0, .ref (G.1 + 54)), (1, .int (Int32.ofInt (l1))), (2, .int (Int32.ofInt (l2))), (3, .int (Int32.ofInt (l3))), (4, .int (Int32.ofInt (x7)))]) (List.forall_mem_cons.mpr ⟨rfl, (List.forall_mem_cons.mpr ⟨rfl, (List.forall_mem_cons.mpr ⟨rfl, (List.forall_mem_cons.mpr ⟨rfl, (List.forall_mem_cons.mpr ⟨rfl, (fun _ h => nomatch h)⟩)⟩)⟩)⟩)⟩) ?_
              exact bX11_putText_130 hd hJ hT hW hP hB2 hw
            · have hw := hw.2 h14
              refine z_aload_n dX11_putText_105 rfl rfl ?_
              refine z_bipush (v := Int32.ofInt 38) dX11_putText_106 (by decide) ?_
              refine z_bipush (v := Int32.ofInt 113) dX11_putText_108 (by decide) ?_
              refine z_bipush (v := Int32.ofInt 117) dX11_putText_110 (by decide) ?_
              refine z_bipush (v := Int32.ofInt 111) dX11_putText_112 (by decide) ?_
              have hX := lX11_putWord 1 (Nat.le_refl _) hJ hT hW ⟨by decide, by decide⟩ ⟨by decide, by decide⟩ ⟨by decide, by decide⟩ ⟨by decide, by decide⟩ hw
              refine z_callV (As := [_, _, _, _]) eX11_putWord sX11_putWord lX11_267 rfl dX11_putText_114 (hW.1 _ _ hT.1) hX (Nat.le_trans (by decide) hd) rfl (Nat.le_of_ble_eq_true rfl) (fun r cs hp => ?_)
              obtain ⟨r16, S17, rfl, hw, hW⟩ := hp
              refine z_st (st' := []) rfl ?_
              refine z_aload_n dX11_putText_117 rfl rfl ?_
              refine z_bipush (v := Int32.ofInt 116) dX11_putText_118 (by decide) ?_
              refine z_bipush (v := Int32.ofInt 59) dX11_putText_120 (by decide) ?_
              refine z_iconst (v := Int32.ofInt 0) dX11_putText_122 rfl ?_
              refine z_iconst (v := Int32.ofInt 0) dX11_putText_123 rfl ?_
              have hX := lX11_putWord 1 (Nat.le_refl _) hJ hT hW ⟨by decide, by decide⟩ ⟨by decide, by decide⟩ ⟨by decide, by decide⟩ ⟨by decide, by decide⟩ hw
              refine z_callV (As := [_, _, _, _]) eX11_putWord sX11_putWord lX11_267 rfl dX11_putText_124 (hW.1 _ _ hT.1) hX (Nat.le_trans (by decide) hd) rfl (Nat.le_of_ble_eq_true rfl) (fun r cs hp => ?_)
              obtain ⟨r18, S19, rfl, hw, hW⟩ := hp
              refine z_st (st' := []) rfl ?_
              refine z_goto (tgt := 136) dX11_putText_127 (by decide) ?_
              refine z_loc (L' := [(0, .ref (G.1 + 54)), (1, .int (Int32.ofInt (l1))), (2, .int (Int32.ofInt (l2))), (3, .int (Int32.ofInt (l3)))]) (List.forall_mem_cons.mpr ⟨rfl, (List.forall_mem_cons.mpr ⟨rfl, (List.forall_mem_cons.mpr ⟨rfl, (List.forall_mem_cons.mpr ⟨rfl, (fun _ h => nomatch h)⟩)⟩)⟩)⟩) ?_
              exact bX11_putText_136 hd hJ hT hW hP hB2 hw
        · have hw := hw.2 h12
          refine z_loc (L' := [(0, .ref (G.1 + 54)), (1, .int (Int32.ofInt (l1))), (2, .int (Int32.ofInt (l2))), (3, .int (Int32.ofInt (l3))), (4, .int (Int32.ofInt (x7)))]) (List.forall_mem_cons.mpr ⟨rfl, (List.forall_mem_cons.mpr ⟨rfl, (List.forall_mem_cons.mpr ⟨rfl, (List.forall_mem_cons.mpr ⟨rfl, (List.forall_mem_cons.mpr ⟨rfl, (fun _ h => nomatch h)⟩)⟩)⟩)⟩)⟩) ?_
          exact bX11_putText_67 hd hJ hT hW hP hB2 hw
    · have hw := hw.2 h10
      refine z_aload_n dX11_putText_32 rfl rfl ?_
      refine z_bipush (v := Int32.ofInt 38) dX11_putText_33 (by decide) ?_
      refine z_bipush (v := Int32.ofInt 97) dX11_putText_35 (by decide) ?_
      refine z_bipush (v := Int32.ofInt 109) dX11_putText_37 (by decide) ?_
      refine z_bipush (v := Int32.ofInt 112) dX11_putText_39 (by decide) ?_
      have hX := lX11_putWord 1 (Nat.le_refl _) hJ hT hW ⟨by decide, by decide⟩ ⟨by decide, by decide⟩ ⟨by decide, by decide⟩ ⟨by decide, by decide⟩ hw
      refine z_callV (As := [_, _, _, _]) eX11_putWord sX11_putWord lX11_267 rfl dX11_putText_41 (hW.1 _ _ hT.1) hX (Nat.le_trans (by decide) hd) rfl (Nat.le_of_ble_eq_true rfl) (fun r cs hp => ?_)
      obtain ⟨r20, S21, rfl, hw, hW⟩ := hp
      refine z_st (st' := []) rfl ?_
      refine z_aload_n dX11_putText_44 rfl rfl ?_
      refine z_bipush (v := Int32.ofInt 59) dX11_putText_45 (by decide) ?_
      have hX := lX11_put 0 (Nat.le_refl _) hJ hT hW ⟨by decide, by decide⟩ hw
      refine z_callV (As := [_]) eX11_put sX11_put lX11_260 rfl dX11_putText_47 (hW.1 _ _ hT.1) hX (Nat.le_trans (by decide) hd) rfl (Nat.le_of_ble_eq_true rfl) (fun r cs hp => ?_)
      obtain ⟨r22, S23, rfl, hw, hW⟩ := hp
      refine z_st (st' := []) rfl ?_
      refine z_goto (tgt := 136) dX11_putText_50 (by decide) ?_
      refine z_loc (L' := [(0, .ref (G.1 + 54)), (1, .int (Int32.ofInt (l1))), (2, .int (Int32.ofInt (l2))), (3, .int (Int32.ofInt (l3)))]) (List.forall_mem_cons.mpr ⟨rfl, (List.forall_mem_cons.mpr ⟨rfl, (List.forall_mem_cons.mpr ⟨rfl, (List.forall_mem_cons.mpr ⟨rfl, (fun _ h => nomatch h)⟩)⟩)⟩)⟩) ?_
      exact bX11_putText_136 hd hJ hT hW hP hB2 hw
def wX11_putText_2 (l1 l2 l3 : Int) (S : St) (K : Int → St → Prop) : Prop := ∃ (Iv : Int → Int → Int → St → Prop) (mu : Int → Int → Int → St → Nat), Iv l1 l2 l3 S ∧ ∀ (l1 l2 l3 : Int) (S : St), Iv l1 l2 l3 S → wX11_putText_2' l1 l2 l3 S K  (fun ml1 ml2 ml3 T => Iv ml1 ml2 ml3 T ∧ mu ml1 ml2 ml3 T < mu l1 l2 l3 S)
set_option maxRecDepth 100000 in
set_option maxHeartbeats 4000000 in
theorem bX11_putText_2 {G : xG} {sh : Nat → Option Sh} {J : St → List va_E → Prop} {d : Nat} {Post : xP} {l1 l2 l3 : Int} {S : St} {cs : List va_E} {K : Int → St → Prop} (hd : 2 ≤ d) (hJ : Stb sh J) (hT : isM sh) (hW : Wd G sh mT J S cs) (hP : ∀ (v : Int) (S : St) (cs : List va_E), K v S → Wd G sh mT J S cs → Post (none) cs)  (hw : wX11_putText_2 l1 l2 l3 S K ) : Z (RX11, cX11_putText, 5, none, false) G d Post 2 [(0, .ref (G.1 + 54)), (1, .int (Int32.ofInt (l1))), (2, .int (Int32.ofInt (l2))), (3, .int (Int32.ofInt (l3)))] [] cs := by
  unfold wX11_putText_2 at hw
  obtain ⟨Iv, mu, h0, hs⟩ := hw
  have key : ∀ (n : Nat) (l1 l2 l3 : Int) (S : St) (cs : List va_E), mu l1 l2 l3 S < n → Iv l1 l2 l3 S → Wd G sh mT J S cs → Z (RX11, cX11_putText, 5, none, false) G d Post 2 [(0, .ref (G.1 + 54)), (1, .int (Int32.ofInt (l1))), (2, .int (Int32.ofInt (l2))), (3, .int (Int32.ofInt (l3)))] [] cs := by
    intro n
    induction n with
    | zero => intro l1 l2 l3 S cs hn; exact absurd hn (Nat.not_lt_zero _)
    | succ n ih =>
      intro l1 l2 l3 S cs hn hI hW
      exact bX11_putText_2' hd hJ hT hW hP  (fun l1 l2 l3 S cs hb hW => ih l1 l2 l3 S cs (Nat.lt_of_lt_of_le hb.2 (Nat.le_of_lt_succ hn)) hb.1 hW) (hs l1 l2 l3 S hI)
  exact key _ _ _ _ _ _ (Nat.lt_succ_self _) h0 hW
def wX11_putText (a1 a2 : Int) (S : St) (K : Int → St → Prop) : Prop := rng a1 → rng a2 → wX11_putText_2 (a1) (a2) (0) S K
set_option maxRecDepth 100000 in
set_option maxHeartbeats 4000000 in
theorem lX11_putText {G : xG} {sh : Nat → Option Sh} {J : St → List va_E → Prop} {a1 a2 : Int} {S : St} {cs : List va_E} {K : Int → St → Prop} (d : Nat) (hd : 2 ≤ d) (hJ : Stb sh J) (hT : isM sh) (hW : Wd G sh mT J S cs) (g1 : rng a1) (g2 : rng a2) (hw : wX11_putText a1 a2 S K) : X G yX11_putText cX11_putText 5 none d [.ref (G.1 + 54), .int (Int32.ofInt a1), .int (Int32.ofInt a2)] cs (qV G sh mT J K) := by
  refine X.of false (by decide +kernel) (by decide) (Nat.le_of_ble_eq_true rfl) ?_
  show Z (RX11, cX11_putText, 5, none, false) G d _ 0 [(0, .ref (G.1 + 54)), (1, .int (Int32.ofInt a1)), (2, .int (Int32.ofInt a2))] [] cs
  have hP : ∀ (v : Int) (S : St) (cs : List va_E), K v S → Wd G sh mT J S cs → qV G sh mT J K (none) cs := fun v S cs a b => ⟨v, S, rfl, a, b⟩
  unfold wX11_putText at hw
  have hw := hw g1 g2
  refine z_iconst (v := Int32.ofInt 0) dX11_putText_0 rfl ?_
  refine z_istore_n dX11_putText_1 rfl (by decide) ?_
  refine z_loc (L' := [(0, .ref (G.1 + 54)), (1, .int (Int32.ofInt (a1))), (2, .int (Int32.ofInt (a2))), (3, .int (Int32.ofInt (0)))]) (List.forall_mem_cons.mpr ⟨rfl, (List.forall_mem_cons.mpr ⟨rfl, (List.forall_mem_cons.mpr ⟨rfl, (List.forall_mem_cons.mpr ⟨rfl, (fun _ h => nomatch h)⟩)⟩)⟩)⟩) ?_
  refine z_loc (L' := [(0, .ref (G.1 + 54)), (1, .int (Int32.ofInt (a1))), (2, .int (Int32.ofInt (a2))), (3, .int (Int32.ofInt (0)))]) (List.forall_mem_cons.mpr ⟨rfl, (List.forall_mem_cons.mpr ⟨rfl, (List.forall_mem_cons.mpr ⟨rfl, (List.forall_mem_cons.mpr ⟨rfl, (fun _ h => nomatch h)⟩)⟩)⟩)⟩) ?_
  exact bX11_putText_2 hd hJ hT hW hP  hw

