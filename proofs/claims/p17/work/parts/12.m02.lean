def wX11_docAt (a1 : Int) (S : St) (K : Int → St → Prop) : Prop := rng a1 → (iv 0 3000 (S.1 54 41) → ((S.1 54 41 ≤ a1 → K ((-1)) S) ∧ ((¬ (S.1 54 41 ≤ a1)) → ((0 : Int) ≤ a1 ∧ a1 < (3000 : Int) ∧ (iv (-2147483648) 2147483647 (S.2 84 (a1)) → K (S.2 84 (a1)) S)))))
set_option maxRecDepth 100000 in
set_option maxHeartbeats 4000000 in
theorem lX11_docAt {G : xG} {sh : Nat → Option Sh} {J : St → List va_E → Prop} {a1 : Int} {S : St} {cs : List va_E} {K : Int → St → Prop} (d : Nat) (hd : 0 ≤ d) (hJ : Stb sh J) (hT : isM sh) (hW : Wd G sh mT J S cs) (g1 : rng a1) (hw : wX11_docAt a1 S K) : X G yX11_docAt cX11_docAt 2 (some .int) d [.ref (G.1 + 54), .int (Int32.ofInt a1)] cs (qI G sh mT J K) := by
  refine X.of false (by decide +kernel) (by decide) (Nat.le_of_ble_eq_true rfl) ?_
  show Z (RX11, cX11_docAt, 2, some .int, false) G d _ 0 [(0, .ref (G.1 + 54)), (1, .int (Int32.ofInt a1))] [] cs
  have hP : ∀ (v : Int) (S : St) (cs : List va_E), K v S → Wd G sh mT J S cs → qI G sh mT J K (some (.int (Int32.ofInt v))) cs := fun v S cs a b => ⟨v, S, rfl, a, b⟩
  unfold wX11_docAt at hw
  have hw := hw g1
  refine z_iload_n dX11_docAt_0 rfl rfl ?_
  refine z_aload_n dX11_docAt_1 rfl rfl ?_
  have q1 : iv 0 3000 (S.1 54 41) := mI41 hW
  have hw := hw q1
  refine g_getI hW hT.1 mr41 kX11 fX11_340 dX11_docAt_2 ?_
  refine i_icmp_ge (tgt := 17) dX11_docAt_5 (by decide) g1 (rngq q1 (by decide) (by decide)) (fun h2 => ?_) (fun h2 => ?_)
  · have hw := hw.1 h2
    refine z_iconst (v := Int32.ofInt (-1)) dX11_docAt_17 rfl ?_
    exact z_ireturn dX11_docAt_18 rfl rfl (hP _ _ _ hw hW)
  · have hw := hw.2 h2
    refine z_aload_n dX11_docAt_8 rfl rfl ?_
    refine g_getR hW hT.1 mr42 kX11 fX11_102 dX11_docAt_9 ?_
    refine z_iload_n dX11_docAt_12 rfl rfl ?_
    obtain ⟨q3a, q3b, hw⟩ := hw
    have q4 : iv (-2147483648) 2147483647 (S.2 84 (a1)) := mA84 hW _
    have hw := hw q4
    refine g_iald hW (ma84 hT) q3a q3b (by decide) dX11_docAt_13 ?_
    refine z_goto (tgt := 18) dX11_docAt_14 (by decide) ?_
    exact z_ireturn dX11_docAt_18 rfl rfl (hP _ _ _ hw hW)

def wX11_fail (a1 : Int) (S : St) (K : Int → St → Prop) : Prop := rng a1 → (iv (-2) 4000 (S.1 54 59) → ((¬ S.1 54 59 = (-2) → (∀ S3, S3 = pI S 54 59 (S.1 54 59) → K 0 S3)) ∧ ((¬ (¬ S.1 54 59 = (-2))) → (iv (-2) 4000 (a1) ∧ (∀ S4, S4 = pI S 54 59 (a1) → K 0 S4)))))
set_option maxRecDepth 100000 in
set_option maxHeartbeats 4000000 in
theorem lX11_fail {G : xG} {sh : Nat → Option Sh} {J : St → List va_E → Prop} {a1 : Int} {S : St} {cs : List va_E} {K : Int → St → Prop} (d : Nat) (hd : 0 ≤ d) (hJ : Stb sh J) (hT : isM sh) (hW : Wd G sh mT J S cs) (g1 : rng a1) (hw : wX11_fail a1 S K) : X G yX11_fail cX11_fail 2 none d [.ref (G.1 + 54), .int (Int32.ofInt a1)] cs (qV G sh mT J K) := by
  refine X.of false (by decide +kernel) (by decide) (Nat.le_of_ble_eq_true rfl) ?_
  show Z (RX11, cX11_fail, 2, none, false) G d _ 0 [(0, .ref (G.1 + 54)), (1, .int (Int32.ofInt a1))] [] cs
  have hP : ∀ (v : Int) (S : St) (cs : List va_E), K v S → Wd G sh mT J S cs → qV G sh mT J K (none) cs := fun v S cs a b => ⟨v, S, rfl, a, b⟩
  unfold wX11_fail at hw
  have hw := hw g1
  refine z_aload_n dX11_fail_0 rfl rfl ?_
  refine z_aload_n dX11_fail_1 rfl rfl ?_
  have q1 : iv (-2) 4000 (S.1 54 59) := mI59 hW
  have hw := hw q1
  refine g_getI hW hT.1 mr59 kX11 fX11_343 dX11_fail_2 ?_
  refine z_bipush (v := Int32.ofInt (-2)) dX11_fail_5 (by decide) ?_
  refine i_icmp_ne (tgt := 14) dX11_fail_7 (by decide) (rngq q1 (by decide) (by decide)) ⟨by decide, by decide⟩ (fun h2 => ?_) (fun h2 => ?_)
  · have hw := hw.1 h2
    refine z_aload_n dX11_fail_14 rfl rfl ?_
    refine g_getI hW hT.1 mr59 kX11 fX11_343 dX11_fail_15 ?_
    refine g_putI hJ hW hT.1 mr59 kX11 fX11_343 dX11_fail_18 rfl rfl rfl q1 (fun cs hW => ?_)
    obtain ⟨S3, hS3⟩ : ∃ x, x = pI S 54 59 (S.1 54 59) := ⟨_, rfl⟩
    rw [← hS3] at hW
    have hw := hw S3 hS3
    exact z_return dX11_fail_21 rfl (hP 0 _ _ hw hW)
  · have hw := hw.2 h2
    refine z_iload_n dX11_fail_10 rfl rfl ?_
    refine z_goto (tgt := 18) dX11_fail_11 (by decide) ?_
    obtain ⟨q5, hw⟩ := hw
    refine g_putI hJ hW hT.1 mr59 kX11 fX11_343 dX11_fail_18 rfl rfl rfl q5 (fun cs hW => ?_)
    obtain ⟨S4, hS4⟩ : ∃ x, x = pI S 54 59 (a1) := ⟨_, rfl⟩
    rw [← hS4] at hW
    have hw := hw S4 hS4
    exact z_return dX11_fail_21 rfl (hP 0 _ _ hw hW)

def wX11_keep (a1 a2 : Int) (S : St) (K : Int → St → Prop) : Prop := rng a1 → rng a2 → (iv 0 3000 (S.1 54 56) → ((0 : Int) ≤ S.1 54 56 ∧ S.1 54 56 < (3000 : Int) ∧ (iv (-2147483648) 2147483647 (a1) ∧ (∀ S3, S3 = pA S 96 (S.1 54 56) (a1) → (iv 0 3000 (S3.1 54 56) → ((0 : Int) ≤ S3.1 54 56 ∧ S3.1 54 56 < (3000 : Int) ∧ (iv (-2) 199 (a2) ∧ (∀ S7, S7 = pA S3 97 (S3.1 54 56) (a2) → (iv 0 3000 (S7.1 54 56) → (iv 0 3000 ((S7.1 54 56 + 1)) ∧ (∀ S10, S10 = pI S7 54 56 ((S7.1 54 56 + 1)) → K 0 S10)))))))))))
set_option maxRecDepth 100000 in
set_option maxHeartbeats 4000000 in
theorem lX11_keep {G : xG} {sh : Nat → Option Sh} {J : St → List va_E → Prop} {a1 a2 : Int} {S : St} {cs : List va_E} {K : Int → St → Prop} (d : Nat) (hd : 0 ≤ d) (hJ : Stb sh J) (hT : isM sh) (hW : Wd G sh mT J S cs) (g1 : rng a1) (g2 : rng a2) (hw : wX11_keep a1 a2 S K) : X G yX11_keep cX11_keep 3 none d [.ref (G.1 + 54), .int (Int32.ofInt a1), .int (Int32.ofInt a2)] cs (qV G sh mT J K) := by
  refine X.of false (by decide +kernel) (by decide) (Nat.le_of_ble_eq_true rfl) ?_
  show Z (RX11, cX11_keep, 3, none, false) G d _ 0 [(0, .ref (G.1 + 54)), (1, .int (Int32.ofInt a1)), (2, .int (Int32.ofInt a2))] [] cs
  have hP : ∀ (v : Int) (S : St) (cs : List va_E), K v S → Wd G sh mT J S cs → qV G sh mT J K (none) cs := fun v S cs a b => ⟨v, S, rfl, a, b⟩
  unfold wX11_keep at hw
  have hw := hw g1 g2
  refine z_aload_n dX11_keep_0 rfl rfl ?_
  refine g_getR hW hT.1 mr57 kX11 fX11_138 dX11_keep_1 ?_
  refine z_aload_n dX11_keep_4 rfl rfl ?_
  have q1 : iv 0 3000 (S.1 54 56) := mI56 hW
  have hw := hw q1
  refine g_getI hW hT.1 mr56 kX11 fX11_355 dX11_keep_5 ?_
  refine z_iload_n dX11_keep_8 rfl rfl ?_
  obtain ⟨q2a, q2b, hw⟩ := hw
  obtain ⟨q4, hw⟩ := hw
  refine g_iast hJ hW (ma96 hT) q2a q2b (by decide) q4 dX11_keep_9 (fun cs hW => ?_)
  obtain ⟨S3, hS3⟩ : ∃ x, x = pA S 96 (S.1 54 56) (a1) := ⟨_, rfl⟩
  rw [← hS3] at hW
  have hw := hw S3 hS3
  refine z_aload_n dX11_keep_10 rfl rfl ?_
  refine g_getR hW hT.1 mr58 kX11 fX11_141 dX11_keep_11 ?_
  refine z_aload_n dX11_keep_14 rfl rfl ?_
  have q5 : iv 0 3000 (S3.1 54 56) := mI56 hW
  have hw := hw q5
  refine g_getI hW hT.1 mr56 kX11 fX11_355 dX11_keep_15 ?_
  refine z_iload_n dX11_keep_18 rfl rfl ?_
  obtain ⟨q6a, q6b, hw⟩ := hw
  obtain ⟨q8, hw⟩ := hw
  refine g_iast hJ hW (ma97 hT) q6a q6b (by decide) q8 dX11_keep_19 (fun cs hW => ?_)
  obtain ⟨S7, hS7⟩ : ∃ x, x = pA S3 97 (S3.1 54 56) (a2) := ⟨_, rfl⟩
  rw [← hS7] at hW
  have hw := hw S7 hS7
  refine z_aload_n dX11_keep_20 rfl rfl ?_
  refine z_dup dX11_keep_21 rfl ?_
  have q9 : iv 0 3000 (S7.1 54 56) := mI56 hW
  have hw := hw q9
  refine g_getI hW hT.1 mr56 kX11 fX11_355 dX11_keep_22 ?_
  refine z_iconst (v := Int32.ofInt 1) dX11_keep_25 rfl ?_
  refine i_iadd dX11_keep_26 ?_
  obtain ⟨q11, hw⟩ := hw
  refine g_putI hJ hW hT.1 mr56 kX11 fX11_355 dX11_keep_27 rfl rfl rfl q11 (fun cs hW => ?_)
  obtain ⟨S10, hS10⟩ : ∃ x, x = pI S7 54 56 ((S7.1 54 56 + 1)) := ⟨_, rfl⟩
  rw [← hS10] at hW
  have hw := hw S10 hS10
  exact z_return dX11_keep_30 rfl (hP 0 _ _ hw hW)

def wX11_isLetter_12 (l0 : Int) (S : St) (K : Int → St → Prop) : Prop := (rng (l0) ∧ ((l0 < 65 → K (0) S) ∧ ((¬ (l0 < 65)) → ((90 < l0 → K (0) S) ∧ ((¬ (90 < l0)) → K (1) S)))))
set_option maxRecDepth 100000 in
set_option maxHeartbeats 4000000 in
theorem bX11_isLetter_12 {G : xG} {sh : Nat → Option Sh} {J : St → List va_E → Prop} {d : Nat} {Post : xP} {l0 : Int} {S : St} {cs : List va_E} {K : Int → St → Prop} (hd : 0 ≤ d) (hJ : Stb sh J) (hT : isM sh) (hW : Wd G sh mT J S cs) (hP : ∀ (v : Int) (S : St) (cs : List va_E), K v S → Wd G sh mT J S cs → Post (some (.int (Int32.ofInt v))) cs)  (hw : wX11_isLetter_12 l0 S K ) : Z (RX11, cX11_isLetter, 1, some .boolean, false) G d Post 12 [(0, .int (Int32.ofInt (l0)))] [] cs := by
  unfold wX11_isLetter_12 at hw
  refine z_iload_n dX11_isLetter_12 rfl rfl ?_
  refine z_bipush (v := Int32.ofInt 65) dX11_isLetter_13 (by decide) ?_
  obtain ⟨q2, hw⟩ := hw
  refine i_icmp_lt (tgt := 28) dX11_isLetter_15 (by decide) q2 ⟨by decide, by decide⟩ (fun h1 => ?_) (fun h1 => ?_)
  · have hw := hw.1 h1
    refine z_iconst (v := Int32.ofInt 0) dX11_isLetter_28 rfl ?_
    exact z_ireturn dX11_isLetter_29 rfl (nar01 (by decide)) (hP _ _ _ hw hW)
  · have hw := hw.2 h1
    refine z_iload_n dX11_isLetter_18 rfl rfl ?_
    refine z_bipush (v := Int32.ofInt 90) dX11_isLetter_19 (by decide) ?_
    refine i_icmp_gt (tgt := 28) dX11_isLetter_21 (by decide) q2 ⟨by decide, by decide⟩ (fun h3 => ?_) (fun h3 => ?_)
    · have hw := hw.1 h3
      refine z_iconst (v := Int32.ofInt 0) dX11_isLetter_28 rfl ?_
      exact z_ireturn dX11_isLetter_29 rfl (nar01 (by decide)) (hP _ _ _ hw hW)
    · have hw := hw.2 h3
      refine z_iconst (v := Int32.ofInt 1) dX11_isLetter_24 rfl ?_
      refine z_goto (tgt := 29) dX11_isLetter_25 (by decide) ?_
      exact z_ireturn dX11_isLetter_29 rfl (nar01 (by decide)) (hP _ _ _ hw hW)
def wX11_isLetter (a1 : Int) (S : St) (K : Int → St → Prop) : Prop := rng a1 → ((a1 < 97 → wX11_isLetter_12 (a1) S K) ∧ ((¬ (a1 < 97)) → ((a1 ≤ 122 → K (1) S) ∧ ((¬ (a1 ≤ 122)) → wX11_isLetter_12 (a1) S K))))
set_option maxRecDepth 100000 in
set_option maxHeartbeats 4000000 in
theorem lX11_isLetter {G : xG} {sh : Nat → Option Sh} {J : St → List va_E → Prop} {a1 : Int} {S : St} {cs : List va_E} {K : Int → St → Prop} (d : Nat) (hd : 0 ≤ d) (hJ : Stb sh J) (hT : isM sh) (hW : Wd G sh mT J S cs) (g1 : rng a1) (hw : wX11_isLetter a1 S K) : X G yX11_isLetter cX11_isLetter 1 (some .boolean) d [.int (Int32.ofInt a1)] cs (qI G sh mT J K) := by
  refine X.of false (by decide +kernel) (by decide) (Nat.le_of_ble_eq_true rfl) ?_
  show Z (RX11, cX11_isLetter, 1, some .boolean, false) G d _ 0 [(0, .int (Int32.ofInt a1))] [] cs
  have hP : ∀ (v : Int) (S : St) (cs : List va_E), K v S → Wd G sh mT J S cs → qI G sh mT J K (some (.int (Int32.ofInt v))) cs := fun v S cs a b => ⟨v, S, rfl, a, b⟩
  unfold wX11_isLetter at hw
  have hw := hw g1
  refine z_iload_n dX11_isLetter_0 rfl rfl ?_
  refine z_bipush (v := Int32.ofInt 97) dX11_isLetter_1 (by decide) ?_
  refine i_icmp_lt (tgt := 12) dX11_isLetter_3 (by decide) g1 ⟨by decide, by decide⟩ (fun h1 => ?_) (fun h1 => ?_)
  · have hw := hw.1 h1
    refine z_loc (L' := [(0, .int (Int32.ofInt (a1)))]) (List.forall_mem_cons.mpr ⟨rfl, (fun _ h => nomatch h)⟩) ?_
    exact bX11_isLetter_12 hd hJ hT hW hP  hw
  · have hw := hw.2 h1
    refine z_iload_n dX11_isLetter_6 rfl rfl ?_
    refine z_bipush (v := Int32.ofInt 122) dX11_isLetter_7 (by decide) ?_
    refine i_icmp_le (tgt := 24) dX11_isLetter_9 (by decide) g1 ⟨by decide, by decide⟩ (fun h2 => ?_) (fun h2 => ?_)
    · have hw := hw.1 h2
      refine z_iconst (v := Int32.ofInt 1) dX11_isLetter_24 rfl ?_
      refine z_goto (tgt := 29) dX11_isLetter_25 (by decide) ?_
      exact z_ireturn dX11_isLetter_29 rfl (nar01 (by decide)) (hP _ _ _ hw hW)
    · have hw := hw.2 h2
      refine z_loc (L' := [(0, .int (Int32.ofInt (a1)))]) (List.forall_mem_cons.mpr ⟨rfl, (fun _ h => nomatch h)⟩) ?_
      exact bX11_isLetter_12 hd hJ hT hW hP  hw

def wX11_beginsName (a1 : Int) (S : St) (K : Int → St → Prop) : Prop := rng a1 → (wX11_isLetter (a1) S (fun r1 S2 => (rng (r1) ∧ ((¬ r1 = 0 → K (1) S2) ∧ ((¬ (¬ r1 = 0)) → ((¬ a1 = 95 → K (0) S2) ∧ ((¬ (¬ a1 = 95)) → K (1) S2)))))))
set_option maxRecDepth 100000 in
set_option maxHeartbeats 4000000 in
theorem lX11_beginsName {G : xG} {sh : Nat → Option Sh} {J : St → List va_E → Prop} {a1 : Int} {S : St} {cs : List va_E} {K : Int → St → Prop} (d : Nat) (hd : 1 ≤ d) (hJ : Stb sh J) (hT : isM sh) (hW : Wd G sh mT J S cs) (g1 : rng a1) (hw : wX11_beginsName a1 S K) : X G yX11_beginsName cX11_beginsName 1 (some .boolean) d [.int (Int32.ofInt a1)] cs (qI G sh mT J K) := by
  refine X.of false (by decide +kernel) (by decide) (Nat.le_of_ble_eq_true rfl) ?_
  show Z (RX11, cX11_beginsName, 1, some .boolean, false) G d _ 0 [(0, .int (Int32.ofInt a1))] [] cs
  have hP : ∀ (v : Int) (S : St) (cs : List va_E), K v S → Wd G sh mT J S cs → qI G sh mT J K (some (.int (Int32.ofInt v))) cs := fun v S cs a b => ⟨v, S, rfl, a, b⟩
  unfold wX11_beginsName at hw
  have hw := hw g1
  refine z_iload_n dX11_beginsName_0 rfl rfl ?_
  have hX := lX11_isLetter 0 (Nat.le_refl _) hJ hT hW g1 hw
  refine z_callS (As := [_]) eX11_isLetter sX11_isLetter lX11_186 dX11_beginsName_1 hX (Nat.le_trans (by decide) hd) rfl (Nat.le_of_ble_eq_true rfl) (fun r cs hp => ?_)
  obtain ⟨r1, S2, rfl, hw, hW⟩ := hp
  refine z_st (st' := [.int (Int32.ofInt (r1))]) rfl ?_
  obtain ⟨q4, hw⟩ := hw
  refine i_if_ne (tgt := 13) dX11_beginsName_4 (by decide) q4 (fun h3 => ?_) (fun h3 => ?_)
  · have hw := hw.1 h3
    refine z_iconst (v := Int32.ofInt 1) dX11_beginsName_13 rfl ?_
    refine z_goto (tgt := 18) dX11_beginsName_14 (by decide) ?_
    exact z_ireturn dX11_beginsName_18 rfl (nar01 (by decide)) (hP _ _ _ hw hW)
  · have hw := hw.2 h3
    refine z_iload_n dX11_beginsName_7 rfl rfl ?_
    refine z_bipush (v := Int32.ofInt 95) dX11_beginsName_8 (by decide) ?_
    refine i_icmp_ne (tgt := 17) dX11_beginsName_10 (by decide) g1 ⟨by decide, by decide⟩ (fun h5 => ?_) (fun h5 => ?_)
    · have hw := hw.1 h5
      refine z_iconst (v := Int32.ofInt 0) dX11_beginsName_17 rfl ?_
      exact z_ireturn dX11_beginsName_18 rfl (nar01 (by decide)) (hP _ _ _ hw hW)
    · have hw := hw.2 h5
      refine z_iconst (v := Int32.ofInt 1) dX11_beginsName_13 rfl ?_
      refine z_goto (tgt := 18) dX11_beginsName_14 (by decide) ?_
      exact z_ireturn dX11_beginsName_18 rfl (nar01 (by decide)) (hP _ _ _ hw hW)

def wX11_isDigit (a1 : Int) (S : St) (K : Int → St → Prop) : Prop := rng a1 → ((a1 < 48 → K (0) S) ∧ ((¬ (a1 < 48)) → ((57 < a1 → K (0) S) ∧ ((¬ (57 < a1)) → K (1) S))))
set_option maxRecDepth 100000 in
set_option maxHeartbeats 4000000 in
theorem lX11_isDigit {G : xG} {sh : Nat → Option Sh} {J : St → List va_E → Prop} {a1 : Int} {S : St} {cs : List va_E} {K : Int → St → Prop} (d : Nat) (hd : 0 ≤ d) (hJ : Stb sh J) (hT : isM sh) (hW : Wd G sh mT J S cs) (g1 : rng a1) (hw : wX11_isDigit a1 S K) : X G yX11_isDigit cX11_isDigit 1 (some .boolean) d [.int (Int32.ofInt a1)] cs (qI G sh mT J K) := by
  refine X.of false (by decide +kernel) (by decide) (Nat.le_of_ble_eq_true rfl) ?_
  show Z (RX11, cX11_isDigit, 1, some .boolean, false) G d _ 0 [(0, .int (Int32.ofInt a1))] [] cs
  have hP : ∀ (v : Int) (S : St) (cs : List va_E), K v S → Wd G sh mT J S cs → qI G sh mT J K (some (.int (Int32.ofInt v))) cs := fun v S cs a b => ⟨v, S, rfl, a, b⟩
  unfold wX11_isDigit at hw
  have hw := hw g1
  refine z_iload_n dX11_isDigit_0 rfl rfl ?_
  refine z_bipush (v := Int32.ofInt 48) dX11_isDigit_1 (by decide) ?_
  refine i_icmp_lt (tgt := 16) dX11_isDigit_3 (by decide) g1 ⟨by decide, by decide⟩ (fun h1 => ?_) (fun h1 => ?_)
  · have hw := hw.1 h1
    refine z_iconst (v := Int32.ofInt 0) dX11_isDigit_16 rfl ?_
    exact z_ireturn dX11_isDigit_17 rfl (nar01 (by decide)) (hP _ _ _ hw hW)
  · have hw := hw.2 h1
    refine z_iload_n dX11_isDigit_6 rfl rfl ?_
    refine z_bipush (v := Int32.ofInt 57) dX11_isDigit_7 (by decide) ?_
    refine i_icmp_gt (tgt := 16) dX11_isDigit_9 (by decide) g1 ⟨by decide, by decide⟩ (fun h2 => ?_) (fun h2 => ?_)
    · have hw := hw.1 h2
      refine z_iconst (v := Int32.ofInt 0) dX11_isDigit_16 rfl ?_
      exact z_ireturn dX11_isDigit_17 rfl (nar01 (by decide)) (hP _ _ _ hw hW)
    · have hw := hw.2 h2
      refine z_iconst (v := Int32.ofInt 1) dX11_isDigit_12 rfl ?_
      refine z_goto (tgt := 17) dX11_isDigit_13 (by decide) ?_
      exact z_ireturn dX11_isDigit_17 rfl (nar01 (by decide)) (hP _ _ _ hw hW)

def wX11_inName (a1 : Int) (S : St) (K : Int → St → Prop) : Prop := rng a1 → (wX11_beginsName (a1) S (fun r1 S2 => (rng (r1) ∧ ((¬ r1 = 0 → K (1) S2) ∧ ((¬ (¬ r1 = 0)) → (wX11_isDigit (a1) S2 (fun r5 S6 => (rng (r5) ∧ ((¬ r5 = 0 → K (1) S6) ∧ ((¬ (¬ r5 = 0)) → ((a1 = 45 → K (1) S6) ∧ ((¬ (a1 = 45)) → ((¬ a1 = 46 → K (0) S6) ∧ ((¬ (¬ a1 = 46)) → K (1) S6))))))))))))))
set_option maxRecDepth 100000 in
set_option maxHeartbeats 4000000 in
theorem lX11_inName {G : xG} {sh : Nat → Option Sh} {J : St → List va_E → Prop} {a1 : Int} {S : St} {cs : List va_E} {K : Int → St → Prop} (d : Nat) (hd : 2 ≤ d) (hJ : Stb sh J) (hT : isM sh) (hW : Wd G sh mT J S cs) (g1 : rng a1) (hw : wX11_inName a1 S K) : X G yX11_inName cX11_inName 1 (some .boolean) d [.int (Int32.ofInt a1)] cs (qI G sh mT J K) := by
  refine X.of false (by decide +kernel) (by decide) (Nat.le_of_ble_eq_true rfl) ?_
  show Z (RX11, cX11_inName, 1, some .boolean, false) G d _ 0 [(0, .int (Int32.ofInt a1))] [] cs
  have hP : ∀ (v : Int) (S : St) (cs : List va_E), K v S → Wd G sh mT J S cs → qI G sh mT J K (some (.int (Int32.ofInt v))) cs := fun v S cs a b => ⟨v, S, rfl, a, b⟩
  unfold wX11_inName at hw
  have hw := hw g1
  refine z_iload_n dX11_inName_0 rfl rfl ?_
  have hX := lX11_beginsName 1 (Nat.le_refl _) hJ hT hW g1 hw
  refine z_callS (As := [_]) eX11_beginsName sX11_beginsName lX11_346 dX11_inName_1 hX (Nat.le_trans (by decide) hd) rfl (Nat.le_of_ble_eq_true rfl) (fun r cs hp => ?_)
  obtain ⟨r1, S2, rfl, hw, hW⟩ := hp
  refine z_st (st' := [.int (Int32.ofInt (r1))]) rfl ?_
  obtain ⟨q4, hw⟩ := hw
  refine i_if_ne (tgt := 26) dX11_inName_4 (by decide) q4 (fun h3 => ?_) (fun h3 => ?_)
  · have hw := hw.1 h3
    refine z_iconst (v := Int32.ofInt 1) dX11_inName_26 rfl ?_
    refine z_goto (tgt := 31) dX11_inName_27 (by decide) ?_
    exact z_ireturn dX11_inName_31 rfl (nar01 (by decide)) (hP _ _ _ hw hW)
  · have hw := hw.2 h3
    refine z_iload_n dX11_inName_7 rfl rfl ?_
    have hX := lX11_isDigit 0 (Nat.le_refl _) hJ hT hW g1 hw
    refine z_callS (As := [_]) eX11_isDigit sX11_isDigit lX11_189 dX11_inName_8 hX (Nat.le_trans (by decide) hd) rfl (Nat.le_of_ble_eq_true rfl) (fun r cs hp => ?_)
    obtain ⟨r5, S6, rfl, hw, hW⟩ := hp
    refine z_st (st' := [.int (Int32.ofInt (r5))]) rfl ?_
    obtain ⟨q8, hw⟩ := hw
    refine i_if_ne (tgt := 26) dX11_inName_11 (by decide) q8 (fun h7 => ?_) (fun h7 => ?_)
    · have hw := hw.1 h7
      refine z_iconst (v := Int32.ofInt 1) dX11_inName_26 rfl ?_
      refine z_goto (tgt := 31) dX11_inName_27 (by decide) ?_
      exact z_ireturn dX11_inName_31 rfl (nar01 (by decide)) (hP _ _ _ hw hW)
    · have hw := hw.2 h7
      refine z_iload_n dX11_inName_14 rfl rfl ?_
      refine z_bipush (v := Int32.ofInt 45) dX11_inName_15 (by decide) ?_
      refine i_icmp_eq (tgt := 26) dX11_inName_17 (by decide) g1 ⟨by decide, by decide⟩ (fun h9 => ?_) (fun h9 => ?_)
      · have hw := hw.1 h9
        refine z_iconst (v := Int32.ofInt 1) dX11_inName_26 rfl ?_
        refine z_goto (tgt := 31) dX11_inName_27 (by decide) ?_
        exact z_ireturn dX11_inName_31 rfl (nar01 (by decide)) (hP _ _ _ hw hW)
      · have hw := hw.2 h9
        refine z_iload_n dX11_inName_20 rfl rfl ?_
        refine z_bipush (v := Int32.ofInt 46) dX11_inName_21 (by decide) ?_
        refine i_icmp_ne (tgt := 30) dX11_inName_23 (by decide) g1 ⟨by decide, by decide⟩ (fun h10 => ?_) (fun h10 => ?_)
        · have hw := hw.1 h10
          refine z_iconst (v := Int32.ofInt 0) dX11_inName_30 rfl ?_
          exact z_ireturn dX11_inName_31 rfl (nar01 (by decide)) (hP _ _ _ hw hW)
        · have hw := hw.2 h10
          refine z_iconst (v := Int32.ofInt 1) dX11_inName_26 rfl ?_
          refine z_goto (tgt := 31) dX11_inName_27 (by decide) ?_
          exact z_ireturn dX11_inName_31 rfl (nar01 (by decide)) (hP _ _ _ hw hW)

def wX11_nameEnd_2' (l2 : Int) (S : St) (K : Int → St → Prop) (B2 : Int → St → Prop) : Prop := (rng (l2) ∧ (wX11_docAt (l2) S (fun r2 S3 => (rng (r2) ∧ (wX11_inName (r2) S3 (fun r5 S6 => (rng (r5) ∧ ((r5 = 0 → K (l2) S6) ∧ ((¬ (r5 = 0)) → B2 ((l2 + 1)) S6)))))))))
set_option maxRecDepth 100000 in
set_option maxHeartbeats 4000000 in
theorem bX11_nameEnd_2' {G : xG} {sh : Nat → Option Sh} {J : St → List va_E → Prop} {d : Nat} {Post : xP} {l2 : Int} {S : St} {cs : List va_E} {K : Int → St → Prop} {B2 : Int → St → Prop} (hd : 3 ≤ d) (hJ : Stb sh J) (hT : isM sh) (hW : Wd G sh mT J S cs) (hP : ∀ (v : Int) (S : St) (cs : List va_E), K v S → Wd G sh mT J S cs → Post (some (.int (Int32.ofInt v))) cs) (hB2 : ∀ (l2 : Int) (S : St) (cs : List va_E), B2 l2 S → Wd G sh mT J S cs → Z (RX11, cX11_nameEnd, 3, some .int, false) G d Post 2 [(0, .ref (G.1 + 54)), (2, .int (Int32.ofInt (l2)))] [] cs) (hw : wX11_nameEnd_2' l2 S K B2) : Z (RX11, cX11_nameEnd, 3, some .int, false) G d Post 2 [(0, .ref (G.1 + 54)), (2, .int (Int32.ofInt (l2)))] [] cs := by
  unfold wX11_nameEnd_2' at hw
  refine z_aload_n dX11_nameEnd_2 rfl rfl ?_
  refine z_iload_n dX11_nameEnd_3 rfl rfl ?_
  obtain ⟨q1, hw⟩ := hw
  have hX := lX11_docAt 0 (Nat.le_refl _) hJ hT hW q1 hw
  refine z_callV (As := [_]) eX11_docAt sX11_docAt lX11_349 rfl dX11_nameEnd_4 (hW.1 _ _ hT.1) hX (Nat.le_trans (by decide) hd) rfl (Nat.le_of_ble_eq_true rfl) (fun r cs hp => ?_)
  obtain ⟨r2, S3, rfl, hw, hW⟩ := hp
  refine z_st (st' := [.int (Int32.ofInt (r2))]) rfl ?_
  obtain ⟨q4, hw⟩ := hw
  have hX := lX11_inName 2 (Nat.le_refl _) hJ hT hW q4 hw
  refine z_callS (As := [_]) eX11_inName sX11_inName lX11_352 dX11_nameEnd_7 hX (Nat.le_trans (by decide) hd) rfl (Nat.le_of_ble_eq_true rfl) (fun r cs hp => ?_)
  obtain ⟨r5, S6, rfl, hw, hW⟩ := hp
  refine z_st (st' := [.int (Int32.ofInt (r5))]) rfl ?_
  obtain ⟨q8, hw⟩ := hw
  refine i_if_eq (tgt := 19) dX11_nameEnd_10 (by decide) q8 (fun h7 => ?_) (fun h7 => ?_)
  · have hw := hw.1 h7
    refine z_iload_n dX11_nameEnd_19 rfl rfl ?_
    exact z_ireturn dX11_nameEnd_20 rfl rfl (hP _ _ _ hw hW)
  · have hw := hw.2 h7
    refine i_iinc (l := l2) dX11_nameEnd_13 rfl (by decide) ?_
    refine z_loc (L' := [(0, .ref (G.1 + 54)), (2, .int (Int32.ofInt ((l2 + 1))))]) (List.forall_mem_cons.mpr ⟨rfl, (List.forall_mem_cons.mpr ⟨rfl, (fun _ h => nomatch h)⟩)⟩) ?_
    refine z_goto (tgt := 2) dX11_nameEnd_16 (by decide) ?_
    refine z_loc (L' := [(0, .ref (G.1 + 54)), (2, .int (Int32.ofInt ((l2 + 1))))]) (List.forall_mem_cons.mpr ⟨rfl, (List.forall_mem_cons.mpr ⟨rfl, (fun _ h => nomatch h)⟩)⟩) ?_
    exact hB2 _ _ _ hw hW
def wX11_nameEnd_2 (l2 : Int) (S : St) (K : Int → St → Prop) : Prop := ∃ (Iv : Int → St → Prop) (mu : Int → St → Nat), Iv l2 S ∧ ∀ (l2 : Int) (S : St), Iv l2 S → wX11_nameEnd_2' l2 S K  (fun ml2 T => Iv ml2 T ∧ mu ml2 T < mu l2 S)
set_option maxRecDepth 100000 in
set_option maxHeartbeats 4000000 in
theorem bX11_nameEnd_2 {G : xG} {sh : Nat → Option Sh} {J : St → List va_E → Prop} {d : Nat} {Post : xP} {l2 : Int} {S : St} {cs : List va_E} {K : Int → St → Prop} (hd : 3 ≤ d) (hJ : Stb sh J) (hT : isM sh) (hW : Wd G sh mT J S cs) (hP : ∀ (v : Int) (S : St) (cs : List va_E), K v S → Wd G sh mT J S cs → Post (some (.int (Int32.ofInt v))) cs)  (hw : wX11_nameEnd_2 l2 S K ) : Z (RX11, cX11_nameEnd, 3, some .int, false) G d Post 2 [(0, .ref (G.1 + 54)), (2, .int (Int32.ofInt (l2)))] [] cs := by
  unfold wX11_nameEnd_2 at hw
  obtain ⟨Iv, mu, h0, hs⟩ := hw
  have key : ∀ (n : Nat) (l2 : Int) (S : St) (cs : List va_E), mu l2 S < n → Iv l2 S → Wd G sh mT J S cs → Z (RX11, cX11_nameEnd, 3, some .int, false) G d Post 2 [(0, .ref (G.1 + 54)), (2, .int (Int32.ofInt (l2)))] [] cs := by
    intro n
    induction n with
    | zero => intro l2 S cs hn; exact absurd hn (Nat.not_lt_zero _)
    | succ n ih =>
      intro l2 S cs hn hI hW
      exact bX11_nameEnd_2' hd hJ hT hW hP  (fun l2 S cs hb hW => ih l2 S cs (Nat.lt_of_lt_of_le hb.2 (Nat.le_of_lt_succ hn)) hb.1 hW) (hs l2 S hI)
  exact key _ _ _ _ (Nat.lt_succ_self _) h0 hW
def wX11_nameEnd (a1 : Int) (S : St) (K : Int → St → Prop) : Prop := rng a1 → wX11_nameEnd_2 (a1) S K
set_option maxRecDepth 100000 in
set_option maxHeartbeats 4000000 in
theorem lX11_nameEnd {G : xG} {sh : Nat → Option Sh} {J : St → List va_E → Prop} {a1 : Int} {S : St} {cs : List va_E} {K : Int → St → Prop} (d : Nat) (hd : 3 ≤ d) (hJ : Stb sh J) (hT : isM sh) (hW : Wd G sh mT J S cs) (g1 : rng a1) (hw : wX11_nameEnd a1 S K) : X G yX11_nameEnd cX11_nameEnd 3 (some .int) d [.ref (G.1 + 54), .int (Int32.ofInt a1)] cs (qI G sh mT J K) := by
  refine X.of false (by decide +kernel) (by decide) (Nat.le_of_ble_eq_true rfl) ?_
  show Z (RX11, cX11_nameEnd, 3, some .int, false) G d _ 0 [(0, .ref (G.1 + 54)), (1, .int (Int32.ofInt a1))] [] cs
  have hP : ∀ (v : Int) (S : St) (cs : List va_E), K v S → Wd G sh mT J S cs → qI G sh mT J K (some (.int (Int32.ofInt v))) cs := fun v S cs a b => ⟨v, S, rfl, a, b⟩
  unfold wX11_nameEnd at hw
  have hw := hw g1
  refine z_iload_n dX11_nameEnd_0 rfl rfl ?_
  refine z_istore_n dX11_nameEnd_1 rfl (by decide) ?_
  refine z_loc (L' := [(0, .ref (G.1 + 54)), (1, .int (Int32.ofInt (a1))), (2, .int (Int32.ofInt (a1)))]) (List.forall_mem_cons.mpr ⟨rfl, (List.forall_mem_cons.mpr ⟨rfl, (List.forall_mem_cons.mpr ⟨rfl, (fun _ h => nomatch h)⟩)⟩)⟩) ?_
  refine z_loc (L' := [(0, .ref (G.1 + 54)), (2, .int (Int32.ofInt (a1)))]) (List.forall_mem_cons.mpr ⟨rfl, (List.forall_mem_cons.mpr ⟨rfl, (fun _ h => nomatch h)⟩)⟩) ?_
  exact bX11_nameEnd_2 hd hJ hT hW hP  hw

def wX11_entity (a1 : Int) (S : St) (K : Int → St → Prop) : Prop := rng a1 → ((¬ a1 = 0 → ((¬ a1 = 1 → ((¬ a1 = 2 → ((¬ a1 = 3 → K (39) S) ∧ ((¬ (¬ a1 = 3)) → K (34) S))) ∧ ((¬ (¬ a1 = 2)) → K (62) S))) ∧ ((¬ (¬ a1 = 1)) → K (60) S))) ∧ ((¬ (¬ a1 = 0)) → K (38) S))
set_option maxRecDepth 100000 in
set_option maxHeartbeats 4000000 in
theorem lX11_entity {G : xG} {sh : Nat → Option Sh} {J : St → List va_E → Prop} {a1 : Int} {S : St} {cs : List va_E} {K : Int → St → Prop} (d : Nat) (hd : 0 ≤ d) (hJ : Stb sh J) (hT : isM sh) (hW : Wd G sh mT J S cs) (g1 : rng a1) (hw : wX11_entity a1 S K) : X G yX11_entity cX11_entity 1 (some .int) d [.int (Int32.ofInt a1)] cs (qI G sh mT J K) := by
  refine X.of false (by decide +kernel) (by decide) (Nat.le_of_ble_eq_true rfl) ?_
  show Z (RX11, cX11_entity, 1, some .int, false) G d _ 0 [(0, .int (Int32.ofInt a1))] [] cs
  have hP : ∀ (v : Int) (S : St) (cs : List va_E), K v S → Wd G sh mT J S cs → qI G sh mT J K (some (.int (Int32.ofInt v))) cs := fun v S cs a b => ⟨v, S, rfl, a, b⟩
  unfold wX11_entity at hw
  have hw := hw g1
  refine z_iload_n dX11_entity_0 rfl rfl ?_
  refine i_if_ne (tgt := 9) dX11_entity_1 (by decide) g1 (fun h1 => ?_) (fun h1 => ?_)
  · have hw := hw.1 h1
    refine z_iload_n dX11_entity_9 rfl rfl ?_
    refine z_iconst (v := Int32.ofInt 1) dX11_entity_10 rfl ?_
    refine i_icmp_ne (tgt := 19) dX11_entity_11 (by decide) g1 ⟨by decide, by decide⟩ (fun h2 => ?_) (fun h2 => ?_)
    · have hw := hw.1 h2
      refine z_iload_n dX11_entity_19 rfl rfl ?_
      refine z_iconst (v := Int32.ofInt 2) dX11_entity_20 rfl ?_
      refine i_icmp_ne (tgt := 29) dX11_entity_21 (by decide) g1 ⟨by decide, by decide⟩ (fun h3 => ?_) (fun h3 => ?_)
      · have hw := hw.1 h3
        refine z_iload_n dX11_entity_29 rfl rfl ?_
        refine z_iconst (v := Int32.ofInt 3) dX11_entity_30 rfl ?_
        refine i_icmp_ne (tgt := 39) dX11_entity_31 (by decide) g1 ⟨by decide, by decide⟩ (fun h4 => ?_) (fun h4 => ?_)
        · have hw := hw.1 h4
          refine z_bipush (v := Int32.ofInt 39) dX11_entity_39 (by decide) ?_
          exact z_ireturn dX11_entity_41 rfl rfl (hP _ _ _ hw hW)
        · have hw := hw.2 h4
          refine z_bipush (v := Int32.ofInt 34) dX11_entity_34 (by decide) ?_
          refine z_goto (tgt := 41) dX11_entity_36 (by decide) ?_
          exact z_ireturn dX11_entity_41 rfl rfl (hP _ _ _ hw hW)
      · have hw := hw.2 h3
        refine z_bipush (v := Int32.ofInt 62) dX11_entity_24 (by decide) ?_
        refine z_goto (tgt := 41) dX11_entity_26 (by decide) ?_
        exact z_ireturn dX11_entity_41 rfl rfl (hP _ _ _ hw hW)
    · have hw := hw.2 h2
      refine z_bipush (v := Int32.ofInt 60) dX11_entity_14 (by decide) ?_
      refine z_goto (tgt := 41) dX11_entity_16 (by decide) ?_
      exact z_ireturn dX11_entity_41 rfl rfl (hP _ _ _ hw hW)
  · have hw := hw.2 h1
    refine z_bipush (v := Int32.ofInt 38) dX11_entity_4 (by decide) ?_
    refine z_goto (tgt := 41) dX11_entity_6 (by decide) ?_
    exact z_ireturn dX11_entity_41 rfl rfl (hP _ _ _ hw hW)

def wX11_entitySign (a1 a2 : Int) (S : St) (K : Int → St → Prop) : Prop := rng a1 → rng a2 → (rng (((5 * a1) + a2)) ∧ ((¬ (0 ≤ ((5 * a1) + a2) ∧ ((5 * a1) + a2) ≤ 24) → K (0) S) ∧ ((((5 * a1) + a2) = 0 → K (97) S) ∧ ((((5 * a1) + a2) = 1 → K (109) S) ∧ ((((5 * a1) + a2) = 2 → K (112) S) ∧ ((((5 * a1) + a2) = 3 → K (59) S) ∧ ((((5 * a1) + a2) = 4 → K (0) S) ∧ ((((5 * a1) + a2) = 5 → K (108) S) ∧ ((((5 * a1) + a2) = 6 → K (116) S) ∧ ((((5 * a1) + a2) = 7 → K (59) S) ∧ ((((5 * a1) + a2) = 8 → K (0) S) ∧ ((((5 * a1) + a2) = 9 → K (0) S) ∧ ((((5 * a1) + a2) = 10 → K (103) S) ∧ ((((5 * a1) + a2) = 11 → K (116) S) ∧ ((((5 * a1) + a2) = 12 → K (59) S) ∧ ((((5 * a1) + a2) = 13 → K (0) S) ∧ ((((5 * a1) + a2) = 14 → K (0) S) ∧ ((((5 * a1) + a2) = 15 → K (113) S) ∧ ((((5 * a1) + a2) = 16 → K (117) S) ∧ ((((5 * a1) + a2) = 17 → K (111) S) ∧ ((((5 * a1) + a2) = 18 → K (116) S) ∧ ((((5 * a1) + a2) = 19 → K (59) S) ∧ ((((5 * a1) + a2) = 20 → K (97) S) ∧ ((((5 * a1) + a2) = 21 → K (112) S) ∧ ((((5 * a1) + a2) = 22 → K (111) S) ∧ ((((5 * a1) + a2) = 23 → K (115) S) ∧ (((5 * a1) + a2) = 24 → K (59) S)))))))))))))))))))))))))))
set_option maxRecDepth 100000 in
set_option maxHeartbeats 4000000 in
theorem lX11_entitySign {G : xG} {sh : Nat → Option Sh} {J : St → List va_E → Prop} {a1 a2 : Int} {S : St} {cs : List va_E} {K : Int → St → Prop} (d : Nat) (hd : 0 ≤ d) (hJ : Stb sh J) (hT : isM sh) (hW : Wd G sh mT J S cs) (g1 : rng a1) (g2 : rng a2) (hw : wX11_entitySign a1 a2 S K) : X G yX11_entitySign cX11_entitySign 2 (some .int) d [.int (Int32.ofInt a1), .int (Int32.ofInt a2)] cs (qI G sh mT J K) := by
  refine X.of false (by decide +kernel) (by decide) (Nat.le_of_ble_eq_true rfl) ?_
  show Z (RX11, cX11_entitySign, 2, some .int, false) G d _ 0 [(0, .int (Int32.ofInt a1)), (1, .int (Int32.ofInt a2))] [] cs
  have hP : ∀ (v : Int) (S : St) (cs : List va_E), K v S → Wd G sh mT J S cs → qI G sh mT J K (some (.int (Int32.ofInt v))) cs := fun v S cs a b => ⟨v, S, rfl, a, b⟩
  unfold wX11_entitySign at hw
  have hw := hw g1 g2
  refine z_iconst (v := Int32.ofInt 5) dX11_entitySign_0 rfl ?_
  refine z_iload_n dX11_entitySign_1 rfl rfl ?_
  refine i_imul dX11_entitySign_2 ?_
  refine z_iload_n dX11_entitySign_3 rfl rfl ?_
  refine i_iadd dX11_entitySign_4 ?_
  obtain ⟨q1, hw⟩ := hw
  rcases (show (¬ (0 ≤ ((5 * a1) + a2) ∧ ((5 * a1) + a2) ≤ 24)) ∨ ((5 * a1) + a2) = 0 ∨ ((5 * a1) + a2) = 1 ∨ ((5 * a1) + a2) = 2 ∨ ((5 * a1) + a2) = 3 ∨ ((5 * a1) + a2) = 4 ∨ ((5 * a1) + a2) = 5 ∨ ((5 * a1) + a2) = 6 ∨ ((5 * a1) + a2) = 7 ∨ ((5 * a1) + a2) = 8 ∨ ((5 * a1) + a2) = 9 ∨ ((5 * a1) + a2) = 10 ∨ ((5 * a1) + a2) = 11 ∨ ((5 * a1) + a2) = 12 ∨ ((5 * a1) + a2) = 13 ∨ ((5 * a1) + a2) = 14 ∨ ((5 * a1) + a2) = 15 ∨ ((5 * a1) + a2) = 16 ∨ ((5 * a1) + a2) = 17 ∨ ((5 * a1) + a2) = 18 ∨ ((5 * a1) + a2) = 19 ∨ ((5 * a1) + a2) = 20 ∨ ((5 * a1) + a2) = 21 ∨ ((5 * a1) + a2) = 22 ∨ ((5 * a1) + a2) = 23 ∨ ((5 * a1) + a2) = 24 by omega) with h2 | h2 | h2 | h2 | h2 | h2 | h2 | h2 | h2 | h2 | h2 | h2 | h2 | h2 | h2 | h2 | h2 | h2 | h2 | h2 | h2 | h2 | h2 | h2 | h2 | h2
  · have hw := hw.1 h2
    refine i_tableOut (tgt := 180) dX11_entitySign_5 q1 h2 (by decide) ?_
    refine z_iconst (v := Int32.ofInt 0) dX11_entitySign_180 rfl ?_
    exact z_ireturn dX11_entitySign_181 rfl rfl (hP _ _ _ hw hW)
  · have hw := hw.2.1 h2
    refine i_tableIn (c := 0) (off := 115) (tgt := 120) dX11_entitySign_5 h2 ⟨by decide, by decide⟩ (by decide) (by decide) rfl (by decide) ?_
    refine z_bipush (v := Int32.ofInt 97) dX11_entitySign_120 (by decide) ?_
    exact z_ireturn dX11_entitySign_122 rfl rfl (hP _ _ _ hw hW)
  · have hw := hw.2.2.1 h2
    refine i_tableIn (c := 1) (off := 118) (tgt := 123) dX11_entitySign_5 h2 ⟨by decide, by decide⟩ (by decide) (by decide) rfl (by decide) ?_
    refine z_bipush (v := Int32.ofInt 109) dX11_entitySign_123 (by decide) ?_
    exact z_ireturn dX11_entitySign_125 rfl rfl (hP _ _ _ hw hW)
  · have hw := hw.2.2.2.1 h2
    refine i_tableIn (c := 2) (off := 121) (tgt := 126) dX11_entitySign_5 h2 ⟨by decide, by decide⟩ (by decide) (by decide) rfl (by decide) ?_
    refine z_bipush (v := Int32.ofInt 112) dX11_entitySign_126 (by decide) ?_
    exact z_ireturn dX11_entitySign_128 rfl rfl (hP _ _ _ hw hW)
  · have hw := hw.2.2.2.2.1 h2
    refine i_tableIn (c := 3) (off := 124) (tgt := 129) dX11_entitySign_5 h2 ⟨by decide, by decide⟩ (by decide) (by decide) rfl (by decide) ?_
    refine z_bipush (v := Int32.ofInt 59) dX11_entitySign_129 (by decide) ?_
    exact z_ireturn dX11_entitySign_131 rfl rfl (hP _ _ _ hw hW)
  · have hw := hw.2.2.2.2.2.1 h2
    refine i_tableIn (c := 4) (off := 175) (tgt := 180) dX11_entitySign_5 h2 ⟨by decide, by decide⟩ (by decide) (by decide) rfl (by decide) ?_
    refine z_iconst (v := Int32.ofInt 0) dX11_entitySign_180 rfl ?_
    exact z_ireturn dX11_entitySign_181 rfl rfl (hP _ _ _ hw hW)
  · have hw := hw.2.2.2.2.2.2.1 h2
    refine i_tableIn (c := 5) (off := 127) (tgt := 132) dX11_entitySign_5 h2 ⟨by decide, by decide⟩ (by decide) (by decide) rfl (by decide) ?_
    refine z_bipush (v := Int32.ofInt 108) dX11_entitySign_132 (by decide) ?_
    exact z_ireturn dX11_entitySign_134 rfl rfl (hP _ _ _ hw hW)
  · have hw := hw.2.2.2.2.2.2.2.1 h2
    refine i_tableIn (c := 6) (off := 130) (tgt := 135) dX11_entitySign_5 h2 ⟨by decide, by decide⟩ (by decide) (by decide) rfl (by decide) ?_
    refine z_bipush (v := Int32.ofInt 116) dX11_entitySign_135 (by decide) ?_
    exact z_ireturn dX11_entitySign_137 rfl rfl (hP _ _ _ hw hW)
  · have hw := hw.2.2.2.2.2.2.2.2.1 h2
    refine i_tableIn (c := 7) (off := 133) (tgt := 138) dX11_entitySign_5 h2 ⟨by decide, by decide⟩ (by decide) (by decide) rfl (by decide) ?_
    refine z_bipush (v := Int32.ofInt 59) dX11_entitySign_138 (by decide) ?_
    exact z_ireturn dX11_entitySign_140 rfl rfl (hP _ _ _ hw hW)
  · have hw := hw.2.2.2.2.2.2.2.2.2.1 h2
    refine i_tableIn (c := 8) (off := 175) (tgt := 180) dX11_entitySign_5 h2 ⟨by decide, by decide⟩ (by decide) (by decide) rfl (by decide) ?_
    refine z_iconst (v := Int32.ofInt 0) dX11_entitySign_180 rfl ?_
    exact z_ireturn dX11_entitySign_181 rfl rfl (hP _ _ _ hw hW)
  · have hw := hw.2.2.2.2.2.2.2.2.2.2.1 h2
    refine i_tableIn (c := 9) (off := 175) (tgt := 180) dX11_entitySign_5 h2 ⟨by decide, by decide⟩ (by decide) (by decide) rfl (by decide) ?_
    refine z_iconst (v := Int32.ofInt 0) dX11_entitySign_180 rfl ?_
    exact z_ireturn dX11_entitySign_181 rfl rfl (hP _ _ _ hw hW)
  · have hw := hw.2.2.2.2.2.2.2.2.2.2.2.1 h2
    refine i_tableIn (c := 10) (off := 136) (tgt := 141) dX11_entitySign_5 h2 ⟨by decide, by decide⟩ (by decide) (by decide) rfl (by decide) ?_
    refine z_bipush (v := Int32.ofInt 103) dX11_entitySign_141 (by decide) ?_
    exact z_ireturn dX11_entitySign_143 rfl rfl (hP _ _ _ hw hW)
  · have hw := hw.2.2.2.2.2.2.2.2.2.2.2.2.1 h2
    refine i_tableIn (c := 11) (off := 139) (tgt := 144) dX11_entitySign_5 h2 ⟨by decide, by decide⟩ (by decide) (by decide) rfl (by decide) ?_
    refine z_bipush (v := Int32.ofInt 116) dX11_entitySign_144 (by decide) ?_
    exact z_ireturn dX11_entitySign_146 rfl rfl (hP _ _ _ hw hW)
  · have hw := hw.2.2.2.2.2.2.2.2.2.2.2.2.2.1 h2
    refine i_tableIn (c := 12) (off := 142) (tgt := 147) dX11_entitySign_5 h2 ⟨by decide, by decide⟩ (by decide) (by decide) rfl (by decide) ?_
    refine z_bipush (v := Int32.ofInt 59) dX11_entitySign_147 (by decide) ?_
    exact z_ireturn dX11_entitySign_149 rfl rfl (hP _ _ _ hw hW)
  · have hw := hw.2.2.2.2.2.2.2.2.2.2.2.2.2.2.1 h2
    refine i_tableIn (c := 13) (off := 175) (tgt := 180) dX11_entitySign_5 h2 ⟨by decide, by decide⟩ (by decide) (by decide) rfl (by decide) ?_
    refine z_iconst (v := Int32.ofInt 0) dX11_entitySign_180 rfl ?_
    exact z_ireturn dX11_entitySign_181 rfl rfl (hP _ _ _ hw hW)
  · have hw := hw.2.2.2.2.2.2.2.2.2.2.2.2.2.2.2.1 h2
    refine i_tableIn (c := 14) (off := 175) (tgt := 180) dX11_entitySign_5 h2 ⟨by decide, by decide⟩ (by decide) (by decide) rfl (by decide) ?_
    refine z_iconst (v := Int32.ofInt 0) dX11_entitySign_180 rfl ?_
    exact z_ireturn dX11_entitySign_181 rfl rfl (hP _ _ _ hw hW)
  · have hw := hw.2.2.2.2.2.2.2.2.2.2.2.2.2.2.2.2.1 h2
    refine i_tableIn (c := 15) (off := 145) (tgt := 150) dX11_entitySign_5 h2 ⟨by decide, by decide⟩ (by decide) (by decide) rfl (by decide) ?_
    refine z_bipush (v := Int32.ofInt 113) dX11_entitySign_150 (by decide) ?_
    exact z_ireturn dX11_entitySign_152 rfl rfl (hP _ _ _ hw hW)
  · have hw := hw.2.2.2.2.2.2.2.2.2.2.2.2.2.2.2.2.2.1 h2
    refine i_tableIn (c := 16) (off := 148) (tgt := 153) dX11_entitySign_5 h2 ⟨by decide, by decide⟩ (by decide) (by decide) rfl (by decide) ?_
    refine z_bipush (v := Int32.ofInt 117) dX11_entitySign_153 (by decide) ?_
    exact z_ireturn dX11_entitySign_155 rfl rfl (hP _ _ _ hw hW)
  · have hw := hw.2.2.2.2.2.2.2.2.2.2.2.2.2.2.2.2.2.2.1 h2
    refine i_tableIn (c := 17) (off := 151) (tgt := 156) dX11_entitySign_5 h2 ⟨by decide, by decide⟩ (by decide) (by decide) rfl (by decide) ?_
    refine z_bipush (v := Int32.ofInt 111) dX11_entitySign_156 (by decide) ?_
    exact z_ireturn dX11_entitySign_158 rfl rfl (hP _ _ _ hw hW)
  · have hw := hw.2.2.2.2.2.2.2.2.2.2.2.2.2.2.2.2.2.2.2.1 h2
    refine i_tableIn (c := 18) (off := 154) (tgt := 159) dX11_entitySign_5 h2 ⟨by decide, by decide⟩ (by decide) (by decide) rfl (by decide) ?_
    refine z_bipush (v := Int32.ofInt 116) dX11_entitySign_159 (by decide) ?_
    exact z_ireturn dX11_entitySign_161 rfl rfl (hP _ _ _ hw hW)
  · have hw := hw.2.2.2.2.2.2.2.2.2.2.2.2.2.2.2.2.2.2.2.2.1 h2
    refine i_tableIn (c := 19) (off := 157) (tgt := 162) dX11_entitySign_5 h2 ⟨by decide, by decide⟩ (by decide) (by decide) rfl (by decide) ?_
    refine z_bipush (v := Int32.ofInt 59) dX11_entitySign_162 (by decide) ?_
    exact z_ireturn dX11_entitySign_164 rfl rfl (hP _ _ _ hw hW)
  · have hw := hw.2.2.2.2.2.2.2.2.2.2.2.2.2.2.2.2.2.2.2.2.2.1 h2
    refine i_tableIn (c := 20) (off := 160) (tgt := 165) dX11_entitySign_5 h2 ⟨by decide, by decide⟩ (by decide) (by decide) rfl (by decide) ?_
    refine z_bipush (v := Int32.ofInt 97) dX11_entitySign_165 (by decide) ?_
    exact z_ireturn dX11_entitySign_167 rfl rfl (hP _ _ _ hw hW)
  · have hw := hw.2.2.2.2.2.2.2.2.2.2.2.2.2.2.2.2.2.2.2.2.2.2.1 h2
    refine i_tableIn (c := 21) (off := 163) (tgt := 168) dX11_entitySign_5 h2 ⟨by decide, by decide⟩ (by decide) (by decide) rfl (by decide) ?_
    refine z_bipush (v := Int32.ofInt 112) dX11_entitySign_168 (by decide) ?_
    exact z_ireturn dX11_entitySign_170 rfl rfl (hP _ _ _ hw hW)
  · have hw := hw.2.2.2.2.2.2.2.2.2.2.2.2.2.2.2.2.2.2.2.2.2.2.2.1 h2
    refine i_tableIn (c := 22) (off := 166) (tgt := 171) dX11_entitySign_5 h2 ⟨by decide, by decide⟩ (by decide) (by decide) rfl (by decide) ?_
    refine z_bipush (v := Int32.ofInt 111) dX11_entitySign_171 (by decide) ?_
    exact z_ireturn dX11_entitySign_173 rfl rfl (hP _ _ _ hw hW)
  · have hw := hw.2.2.2.2.2.2.2.2.2.2.2.2.2.2.2.2.2.2.2.2.2.2.2.2.1 h2
    refine i_tableIn (c := 23) (off := 169) (tgt := 174) dX11_entitySign_5 h2 ⟨by decide, by decide⟩ (by decide) (by decide) rfl (by decide) ?_
    refine z_bipush (v := Int32.ofInt 115) dX11_entitySign_174 (by decide) ?_
    exact z_ireturn dX11_entitySign_176 rfl rfl (hP _ _ _ hw hW)
  · have hw := hw.2.2.2.2.2.2.2.2.2.2.2.2.2.2.2.2.2.2.2.2.2.2.2.2.2 h2
    refine i_tableIn (c := 24) (off := 172) (tgt := 177) dX11_entitySign_5 h2 ⟨by decide, by decide⟩ (by decide) (by decide) rfl (by decide) ?_
    refine z_bipush (v := Int32.ofInt 59) dX11_entitySign_177 (by decide) ?_
    exact z_ireturn dX11_entitySign_179 rfl rfl (hP _ _ _ hw hW)

def wX11_figure_40 (l0 l1 : Int) (S : St) (K : Int → St → Prop) : Prop := (rng (l1) ∧ ((l1 = 0 → K ((-2)) S) ∧ ((¬ (l1 = 0)) → (rng (l0) ∧ ((l0 < 65 → K ((-2)) S) ∧ ((¬ (l0 < 65)) → ((70 < l0 → K ((-2)) S) ∧ ((¬ (70 < l0)) → K (((l0 - 65) + 10)) S))))))))
set_option maxRecDepth 100000 in
set_option maxHeartbeats 4000000 in
theorem bX11_figure_40 {G : xG} {sh : Nat → Option Sh} {J : St → List va_E → Prop} {d : Nat} {Post : xP} {l0 l1 : Int} {S : St} {cs : List va_E} {K : Int → St → Prop} (hd : 1 ≤ d) (hJ : Stb sh J) (hT : isM sh) (hW : Wd G sh mT J S cs) (hP : ∀ (v : Int) (S : St) (cs : List va_E), K v S → Wd G sh mT J S cs → Post (some (.int (Int32.ofInt v))) cs)  (hw : wX11_figure_40 l0 l1 S K ) : Z (RX11, cX11_figure, 2, some .int, false) G d Post 40 [(0, .int (Int32.ofInt (l0))), (1, .int (Int32.ofInt (l1)))] [] cs := by
  unfold wX11_figure_40 at hw
  refine z_iload_n dX11_figure_40 rfl rfl ?_
  obtain ⟨q2, hw⟩ := hw
  refine i_if_eq (tgt := 66) dX11_figure_41 (by decide) q2 (fun h1 => ?_) (fun h1 => ?_)
  · have hw := hw.1 h1
    refine z_bipush (v := Int32.ofInt (-2)) dX11_figure_66 (by decide) ?_
    exact z_ireturn dX11_figure_68 rfl rfl (hP _ _ _ hw hW)
  · have hw := hw.2 h1
    refine z_iload_n dX11_figure_44 rfl rfl ?_
    refine z_bipush (v := Int32.ofInt 65) dX11_figure_45 (by decide) ?_
    obtain ⟨q4, hw⟩ := hw
    refine i_icmp_lt (tgt := 66) dX11_figure_47 (by decide) q4 ⟨by decide, by decide⟩ (fun h3 => ?_) (fun h3 => ?_)
    · have hw := hw.1 h3
      refine z_bipush (v := Int32.ofInt (-2)) dX11_figure_66 (by decide) ?_
      exact z_ireturn dX11_figure_68 rfl rfl (hP _ _ _ hw hW)
    · have hw := hw.2 h3
      refine z_iload_n dX11_figure_50 rfl rfl ?_
      refine z_bipush (v := Int32.ofInt 70) dX11_figure_51 (by decide) ?_
      refine i_icmp_gt (tgt := 66) dX11_figure_53 (by decide) q4 ⟨by decide, by decide⟩ (fun h5 => ?_) (fun h5 => ?_)
      · have hw := hw.1 h5
        refine z_bipush (v := Int32.ofInt (-2)) dX11_figure_66 (by decide) ?_
        exact z_ireturn dX11_figure_68 rfl rfl (hP _ _ _ hw hW)
      · have hw := hw.2 h5
        refine z_iload_n dX11_figure_56 rfl rfl ?_
        refine z_bipush (v := Int32.ofInt 65) dX11_figure_57 (by decide) ?_
        refine i_isub dX11_figure_59 ?_
        refine z_bipush (v := Int32.ofInt 10) dX11_figure_60 (by decide) ?_
        refine i_iadd dX11_figure_62 ?_
        refine z_goto (tgt := 68) dX11_figure_63 (by decide) ?_
        exact z_ireturn dX11_figure_68 rfl rfl (hP _ _ _ hw hW)
def wX11_figure (a1 a2 : Int) (S : St) (K : Int → St → Prop) : Prop := rng a1 → rng a2 → (wX11_isDigit (a1) S (fun r1 S2 => (rng (r1) ∧ ((r1 = 0 → ((a2 = 0 → wX11_figure_40 (a1) (a2) S2 K) ∧ ((¬ (a2 = 0)) → ((a1 < 97 → wX11_figure_40 (a1) (a2) S2 K) ∧ ((¬ (a1 < 97)) → ((102 < a1 → wX11_figure_40 (a1) (a2) S2 K) ∧ ((¬ (102 < a1)) → K (((a1 - 97) + 10)) S2))))))) ∧ ((¬ (r1 = 0)) → K ((a1 - 48)) S2)))))
set_option maxRecDepth 100000 in
set_option maxHeartbeats 4000000 in
theorem lX11_figure {G : xG} {sh : Nat → Option Sh} {J : St → List va_E → Prop} {a1 a2 : Int} {S : St} {cs : List va_E} {K : Int → St → Prop} (d : Nat) (hd : 1 ≤ d) (hJ : Stb sh J) (hT : isM sh) (hW : Wd G sh mT J S cs) (g1 : rng a1) (g2 : rng a2) (hw : wX11_figure a1 a2 S K) : X G yX11_figure cX11_figure 2 (some .int) d [.int (Int32.ofInt a1), .int (Int32.ofInt a2)] cs (qI G sh mT J K) := by
  refine X.of false (by decide +kernel) (by decide) (Nat.le_of_ble_eq_true rfl) ?_
  show Z (RX11, cX11_figure, 2, some .int, false) G d _ 0 [(0, .int (Int32.ofInt a1)), (1, .int (Int32.ofInt a2))] [] cs
  have hP : ∀ (v : Int) (S : St) (cs : List va_E), K v S → Wd G sh mT J S cs → qI G sh mT J K (some (.int (Int32.ofInt v))) cs := fun v S cs a b => ⟨v, S, rfl, a, b⟩
  unfold wX11_figure at hw
  have hw := hw g1 g2
  refine z_iload_n dX11_figure_0 rfl rfl ?_
  have hX := lX11_isDigit 0 (Nat.le_refl _) hJ hT hW g1 hw
  refine z_callS (As := [_]) eX11_isDigit sX11_isDigit lX11_189 dX11_figure_1 hX (Nat.le_trans (by decide) hd) rfl (Nat.le_of_ble_eq_true rfl) (fun r cs hp => ?_)
  obtain ⟨r1, S2, rfl, hw, hW⟩ := hp
  refine z_st (st' := [.int (Int32.ofInt (r1))]) rfl ?_
  obtain ⟨q4, hw⟩ := hw
  refine i_if_eq (tgt := 14) dX11_figure_4 (by decide) q4 (fun h3 => ?_) (fun h3 => ?_)
  · have hw := hw.1 h3
    refine z_iload_n dX11_figure_14 rfl rfl ?_
    refine i_if_eq (tgt := 40) dX11_figure_15 (by decide) g2 (fun h5 => ?_) (fun h5 => ?_)
    · have hw := hw.1 h5
      refine z_loc (L' := [(0, .int (Int32.ofInt (a1))), (1, .int (Int32.ofInt (a2)))]) (List.forall_mem_cons.mpr ⟨rfl, (List.forall_mem_cons.mpr ⟨rfl, (fun _ h => nomatch h)⟩)⟩) ?_
      exact bX11_figure_40 hd hJ hT hW hP  hw
    · have hw := hw.2 h5
      refine z_iload_n dX11_figure_18 rfl rfl ?_
      refine z_bipush (v := Int32.ofInt 97) dX11_figure_19 (by decide) ?_
      refine i_icmp_lt (tgt := 40) dX11_figure_21 (by decide) g1 ⟨by decide, by decide⟩ (fun h6 => ?_) (fun h6 => ?_)
      · have hw := hw.1 h6
        refine z_loc (L' := [(0, .int (Int32.ofInt (a1))), (1, .int (Int32.ofInt (a2)))]) (List.forall_mem_cons.mpr ⟨rfl, (List.forall_mem_cons.mpr ⟨rfl, (fun _ h => nomatch h)⟩)⟩) ?_
        exact bX11_figure_40 hd hJ hT hW hP  hw
      · have hw := hw.2 h6
        refine z_iload_n dX11_figure_24 rfl rfl ?_
        refine z_bipush (v := Int32.ofInt 102) dX11_figure_25 (by decide) ?_
        refine i_icmp_gt (tgt := 40) dX11_figure_27 (by decide) g1 ⟨by decide, by decide⟩ (fun h7 => ?_) (fun h7 => ?_)
        · have hw := hw.1 h7
          refine z_loc (L' := [(0, .int (Int32.ofInt (a1))), (1, .int (Int32.ofInt (a2)))]) (List.forall_mem_cons.mpr ⟨rfl, (List.forall_mem_cons.mpr ⟨rfl, (fun _ h => nomatch h)⟩)⟩) ?_
          exact bX11_figure_40 hd hJ hT hW hP  hw
        · have hw := hw.2 h7
          refine z_iload_n dX11_figure_30 rfl rfl ?_
          refine z_bipush (v := Int32.ofInt 97) dX11_figure_31 (by decide) ?_
          refine i_isub dX11_figure_33 ?_
          refine z_bipush (v := Int32.ofInt 10) dX11_figure_34 (by decide) ?_
          refine i_iadd dX11_figure_36 ?_
          refine z_goto (tgt := 68) dX11_figure_37 (by decide) ?_
          exact z_ireturn dX11_figure_68 rfl rfl (hP _ _ _ hw hW)
  · have hw := hw.2 h3
    refine z_iload_n dX11_figure_7 rfl rfl ?_
    refine z_bipush (v := Int32.ofInt 48) dX11_figure_8 (by decide) ?_
    refine i_isub dX11_figure_10 ?_
    refine z_goto (tgt := 68) dX11_figure_11 (by decide) ?_
    exact z_ireturn dX11_figure_68 rfl rfl (hP _ _ _ hw hW)

