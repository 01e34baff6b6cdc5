def wX11_blanksFrom_2' (l2 : Int) (S : St) (K : Int → St → Prop) (B2 : Int → St → Prop) : Prop := (rng (l2) ∧ (wX11_docAt (l2) S (fun r2 S3 => (rng (r2) ∧ (wX11_isBlank (r2) S3 (fun r5 S6 => (rng (r5) ∧ ((r5 = 0 → K (l2) S6) ∧ ((¬ (r5 = 0)) → B2 ((l2 + 1)) S6)))))))))
set_option maxRecDepth 100000 in
set_option maxHeartbeats 4000000 in
theorem bX11_blanksFrom_2' {G : xG} {sh : Nat → Option Sh} {J : St → List va_E → Prop} {d : Nat} {Post : xP} {l2 : Int} {S : St} {cs : List va_E} {K : Int → St → Prop} {B2 : Int → St → Prop} (hd : 1 ≤ d) (hJ : Stb sh J) (hT : isM sh) (hW : Wd G sh mT J S cs) (hP : ∀ (v : Int) (S : St) (cs : List va_E), K v S → Wd G sh mT J S cs → Post (some (.int (Int32.ofInt v))) cs) (hB2 : ∀ (l2 : Int) (S : St) (cs : List va_E), B2 l2 S → Wd G sh mT J S cs → Z (RX11, cX11_blanksFrom, 3, some .int, false) G d Post 2 [(0, .ref (G.1 + 54)), (2, .int (Int32.ofInt (l2)))] [] cs) (hw : wX11_blanksFrom_2' l2 S K B2) : Z (RX11, cX11_blanksFrom, 3, some .int, false) G d Post 2 [(0, .ref (G.1 + 54)), (2, .int (Int32.ofInt (l2)))] [] cs := by
  unfold wX11_blanksFrom_2' at hw
  refine z_aload_n dX11_blanksFrom_2 rfl rfl ?_
  refine z_iload_n dX11_blanksFrom_3 rfl rfl ?_
  obtain ⟨q1, hw⟩ := hw
  have hX := lX11_docAt 0 (Nat.le_refl _) hJ hT hW q1 hw
  refine z_callV (As := [_]) eX11_docAt sX11_docAt lX11_349 rfl dX11_blanksFrom_4 (hW.1 _ _ hT.1) hX (Nat.le_trans (by decide) hd) rfl (Nat.le_of_ble_eq_true rfl) (fun r cs hp => ?_)
  obtain ⟨r2, S3, rfl, hw, hW⟩ := hp
  refine z_st (st' := [.int (Int32.ofInt (r2))]) rfl ?_
  obtain ⟨q4, hw⟩ := hw
  have hX := lX11_isBlank 0 (Nat.le_refl _) hJ hT hW q4 hw
  refine z_callS (As := [_]) eX11_isBlank sX11_isBlank lX11_178 dX11_blanksFrom_7 hX (Nat.le_trans (by decide) hd) rfl (Nat.le_of_ble_eq_true rfl) (fun r cs hp => ?_)
  obtain ⟨r5, S6, rfl, hw, hW⟩ := hp
  refine z_st (st' := [.int (Int32.ofInt (r5))]) rfl ?_
  obtain ⟨q8, hw⟩ := hw
  refine i_if_eq (tgt := 19) dX11_blanksFrom_10 (by decide) q8 (fun h7 => ?_) (fun h7 => ?_)
  · have hw := hw.1 h7
    refine z_iload_n dX11_blanksFrom_19 rfl rfl ?_
    exact z_ireturn dX11_blanksFrom_20 rfl rfl (hP _ _ _ hw hW)
  · have hw := hw.2 h7
    refine i_iinc (l := l2) dX11_blanksFrom_13 rfl (by decide) ?_
    refine z_loc (L' := [(0, .ref (G.1 + 54)), (2, .int (Int32.ofInt ((l2 + 1))))]) (List.forall_mem_cons.mpr ⟨rfl, (List.forall_mem_cons.mpr ⟨rfl, (fun _ h => nomatch h)⟩)⟩) ?_
    refine z_goto (tgt := 2) dX11_blanksFrom_16 (by decide) ?_
    refine z_loc (L' := [(0, .ref (G.1 + 54)), (2, .int (Int32.ofInt ((l2 + 1))))]) (List.forall_mem_cons.mpr ⟨rfl, (List.forall_mem_cons.mpr ⟨rfl, (fun _ h => nomatch h)⟩)⟩) ?_
    exact hB2 _ _ _ hw hW
def wX11_blanksFrom_2 (l2 : Int) (S : St) (K : Int → St → Prop) : Prop := ∃ (Iv : Int → St → Prop) (mu : Int → St → Nat), Iv l2 S ∧ ∀ (l2 : Int) (S : St), Iv l2 S → wX11_blanksFrom_2' l2 S K  (fun ml2 T => Iv ml2 T ∧ mu ml2 T < mu l2 S)
set_option maxRecDepth 100000 in
set_option maxHeartbeats 4000000 in
theorem bX11_blanksFrom_2 {G : xG} {sh : Nat → Option Sh} {J : St → List va_E → Prop} {d : Nat} {Post : xP} {l2 : Int} {S : St} {cs : List va_E} {K : Int → St → Prop} (hd : 1 ≤ d) (hJ : Stb sh J) (hT : isM sh) (hW : Wd G sh mT J S cs) (hP : ∀ (v : Int) (S : St) (cs : List va_E), K v S → Wd G sh mT J S cs → Post (some (.int (Int32.ofInt v))) cs)  (hw : wX11_blanksFrom_2 l2 S K ) : Z (RX11, cX11_blanksFrom, 3, some .int, false) G d Post 2 [(0, .ref (G.1 + 54)), (2, .int (Int32.ofInt (l2)))] [] cs := by
  unfold wX11_blanksFrom_2 at hw
  obtain ⟨Iv, mu, h0, hs⟩ := hw
  have key : ∀ (n : Nat) (l2 : Int) (S : St) (cs : List va_E), mu l2 S < n → Iv l2 S → Wd G sh mT J S cs → Z (RX11, cX11_blanksFrom, 3, some .int, false) G d Post 2 [(0, .ref (G.1 + 54)), (2, .int (Int32.ofInt (l2)))] [] cs := by
    intro n
    induction n with
    | zero => intro l2 S cs hn; exact absurd hn (Nat.not_lt_zero _)
    | succ n ih =>
      intro l2 S cs hn hI hW
      exact bX11_blanksFrom_2' hd hJ hT hW hP  (fun l2 S cs hb hW => ih l2 S cs (Nat.lt_of_lt_of_le hb.2 (Nat.le_of_lt_succ hn)) hb.1 hW) (hs l2 S hI)
  exact key _ _ _ _ (Nat.lt_succ_self _) h0 hW
def wX11_blanksFrom (a1 : Int) (S : St) (K : Int → St → Prop) : Prop := rng a1 → wX11_blanksFrom_2 (a1) S K
set_option maxRecDepth 100000 in
set_option maxHeartbeats 4000000 in
theorem lX11_blanksFrom {G : xG} {sh : Nat → Option Sh} {J : St → List va_E → Prop} {a1 : Int} {S : St} {cs : List va_E} {K : Int → St → Prop} (d : Nat) (hd : 1 ≤ d) (hJ : Stb sh J) (hT : isM sh) (hW : Wd G sh mT J S cs) (g1 : rng a1) (hw : wX11_blanksFrom a1 S K) : X G yX11_blanksFrom cX11_blanksFrom 3 (some .int) d [.ref (G.1 + 54), .int (Int32.ofInt a1)] cs (qI G sh mT J K) := by
  refine X.of false (by decide +kernel) (by decide) (Nat.le_of_ble_eq_true rfl) ?_
  show Z (RX11, cX11_blanksFrom, 3, some .int, false) G d _ 0 [(0, .ref (G.1 + 54)), (1, .int (Int32.ofInt a1))] [] cs
  have hP : ∀ (v : Int) (S : St) (cs : List va_E), K v S → Wd G sh mT J S cs → qI G sh mT J K (some (.int (Int32.ofInt v))) cs := fun v S cs a b => ⟨v, S, rfl, a, b⟩
  unfold wX11_blanksFrom at hw
  have hw := hw g1
  refine z_iload_n dX11_blanksFrom_0 rfl rfl ?_
  refine z_istore_n dX11_blanksFrom_1 rfl (by decide) ?_
  refine z_loc (L' := [(0, .ref (G.1 + 54)), (1, .int (Int32.ofInt (a1))), (2, .int (Int32.ofInt (a1)))]) (List.forall_mem_cons.mpr ⟨rfl, (List.forall_mem_cons.mpr ⟨rfl, (List.forall_mem_cons.mpr ⟨rfl, (fun _ h => nomatch h)⟩)⟩)⟩) ?_
  refine z_loc (L' := [(0, .ref (G.1 + 54)), (2, .int (Int32.ofInt (a1)))]) (List.forall_mem_cons.mpr ⟨rfl, (List.forall_mem_cons.mpr ⟨rfl, (fun _ h => nomatch h)⟩)⟩) ?_
  exact bX11_blanksFrom_2 hd hJ hT hW hP  hw

def wX11_beginTag_42 (l1 l4 : Int) (S : St) (K : Int → St → Prop) : Prop := (rng (l1) ∧ (wX11_fail (l1) S (fun r2 S3 => K (l4) S3)))
set_option maxRecDepth 100000 in
set_option maxHeartbeats 4000000 in
theorem bX11_beginTag_42 {G : xG} {sh : Nat → Option Sh} {J : St → List va_E → Prop} {d : Nat} {Post : xP} {l1 l4 : Int} {S : St} {cs : List va_E} {K : Int → St → Prop} (hd : 5 ≤ d) (hJ : Stb sh J) (hT : isM sh) (hW : Wd G sh mT J S cs) (hP : ∀ (v : Int) (S : St) (cs : List va_E), K v S → Wd G sh mT J S cs → Post (some (.int (Int32.ofInt v))) cs)  (hw : wX11_beginTag_42 l1 l4 S K ) : Z (RX11, cX11_beginTag, 9, some .int, false) G d Post 42 [(0, .ref (G.1 + 54)), (1, .int (Int32.ofInt (l1))), (4, .int (Int32.ofInt (l4)))] [] cs := by
  unfold wX11_beginTag_42 at hw
  refine z_aload_n dX11_beginTag_42 rfl rfl ?_
  refine z_iload_n dX11_beginTag_43 rfl rfl ?_
  obtain ⟨q1, hw⟩ := hw
  have hX := lX11_fail 0 (Nat.le_refl _) hJ hT hW q1 hw
  refine z_callV (As := [_]) eX11_fail sX11_fail lX11_362 rfl dX11_beginTag_44 (hW.1 _ _ hT.1) hX (Nat.le_trans (by decide) hd) rfl (Nat.le_of_ble_eq_true rfl) (fun r cs hp => ?_)
  obtain ⟨r2, S3, rfl, hw, hW⟩ := hp
  refine z_st (st' := []) rfl ?_
  refine z_iload dX11_beginTag_47 rfl ?_
  exact z_ireturn dX11_beginTag_49 rfl rfl (hP _ _ _ hw hW)
def wX11_beginTag_331 (l4 s0 : Int) (S : St) (K : Int → St → Prop) : Prop := (iv 0 1 (s0) ∧ (∀ S1, S1 = pI S 54 60 (s0) → (iv 0 1 (S1.1 54 60) → ((S1.1 54 60 = 0 → (rng (l4) ∧ (wX11_docAt (l4) S1 (fun r6 S7 => (rng (r6) ∧ ((r6 = 47 → (rng ((l4 + 1)) ∧ (wX11_docAt ((l4 + 1)) S7 (fun r11 S12 => (rng (r11) ∧ ((r11 = 62 → K ((l4 + 2)) S12) ∧ ((¬ (r11 = 62)) → (wX11_fail ((l4 + 1)) S12 (fun r15 S16 => K ((l4 + 2)) S16))))))))) ∧ ((¬ (r6 = 47)) → (wX11_fail (l4) S7 (fun r17 S18 => K ((l4 + 2)) S18))))))))) ∧ ((¬ (S1.1 54 60 = 0)) → K ((l4 + 1)) S1)))))
set_option maxRecDepth 100000 in
set_option maxHeartbeats 4000000 in
theorem bX11_beginTag_331 {G : xG} {sh : Nat → Option Sh} {J : St → List va_E → Prop} {d : Nat} {Post : xP} {l4 s0 : Int} {S : St} {cs : List va_E} {K : Int → St → Prop} (hd : 5 ≤ d) (hJ : Stb sh J) (hT : isM sh) (hW : Wd G sh mT J S cs) (hP : ∀ (v : Int) (S : St) (cs : List va_E), K v S → Wd G sh mT J S cs → Post (some (.int (Int32.ofInt v))) cs)  (hw : wX11_beginTag_331 l4 s0 S K ) : Z (RX11, cX11_beginTag, 9, some .int, false) G d Post 331 [(0, .ref (G.1 + 54)), (4, .int (Int32.ofInt (l4)))] [.int (Int32.ofInt (s0)), .ref (G.1 + 54)] cs := by
  unfold wX11_beginTag_331 at hw
  obtain ⟨q2, hw⟩ := hw
  refine g_putI hJ hW hT.1 mr60 kX11 fX11_395 dX11_beginTag_331 rfl (nar01 (b01 q2)) (fit01 (b01 q2)) q2 (fun cs hW => ?_)
  obtain ⟨S1, hS1⟩ : ∃ x, x = pI S 54 60 (s0) := ⟨_, rfl⟩
  rw [← hS1] at hW
  have hw := hw S1 hS1
  refine z_aload_n dX11_beginTag_334 rfl rfl ?_
  have q3 : iv 0 1 (S1.1 54 60) := mI60 hW
  have hw := hw q3
  refine g_getI hW hT.1 mr60 kX11 fX11_395 dX11_beginTag_335 ?_
  refine i_if_eq (tgt := 346) dX11_beginTag_338 (by decide) (rngq q3 (by decide) (by decide)) (fun h4 => ?_) (fun h4 => ?_)
  · have hw := hw.1 h4
    refine z_aload_n dX11_beginTag_346 rfl rfl ?_
    refine z_iload dX11_beginTag_347 rfl ?_
    obtain ⟨q5, hw⟩ := hw
    have hX := lX11_docAt 0 (Nat.le_refl _) hJ hT hW q5 hw
    refine z_callV (As := [_]) eX11_docAt sX11_docAt lX11_349 rfl dX11_beginTag_349 (hW.1 _ _ hT.1) hX (Nat.le_trans (by decide) hd) rfl (Nat.le_of_ble_eq_true rfl) (fun r cs hp => ?_)
    obtain ⟨r6, S7, rfl, hw, hW⟩ := hp
    refine z_st (st' := [.int (Int32.ofInt (r6))]) rfl ?_
    refine z_bipush (v := Int32.ofInt 47) dX11_beginTag_352 (by decide) ?_
    obtain ⟨q9, hw⟩ := hw
    refine i_icmp_eq (tgt := 366) dX11_beginTag_354 (by decide) q9 ⟨by decide, by decide⟩ (fun h8 => ?_) (fun h8 => ?_)
    · have hw := hw.1 h8
      refine z_aload_n dX11_beginTag_366 rfl rfl ?_
      refine z_iload dX11_beginTag_367 rfl ?_
      refine z_iconst (v := Int32.ofInt 1) dX11_beginTag_369 rfl ?_
      refine i_iadd dX11_beginTag_370 ?_
      obtain ⟨q10, hw⟩ := hw
      have hX := lX11_docAt 0 (Nat.le_refl _) hJ hT hW q10 hw
      refine z_callV (As := [_]) eX11_docAt sX11_docAt lX11_349 rfl dX11_beginTag_371 (hW.1 _ _ hT.1) hX (Nat.le_trans (by decide) hd) rfl (Nat.le_of_ble_eq_true rfl) (fun r cs hp => ?_)
      obtain ⟨r11, S12, rfl, hw, hW⟩ := hp
      refine z_st (st' := [.int (Int32.ofInt (r11))]) rfl ?_
      refine z_bipush (v := Int32.ofInt 62) dX11_beginTag_374 (by decide) ?_
      obtain ⟨q14, hw⟩ := hw
      refine i_icmp_eq (tgt := 387) dX11_beginTag_376 (by decide) q14 ⟨by decide, by decide⟩ (fun h13 => ?_) (fun h13 => ?_)
      · have hw := hw.1 h13
        refine z_iload dX11_beginTag_387 rfl ?_
        refine z_iconst (v := Int32.ofInt 2) dX11_beginTag_389 rfl ?_
        refine i_iadd dX11_beginTag_390 ?_
        exact z_ireturn dX11_beginTag_391 rfl rfl (hP _ _ _ hw hW)
      · have hw := hw.2 h13
        refine z_aload_n dX11_beginTag_379 rfl rfl ?_
        refine z_iload dX11_beginTag_380 rfl ?_
        refine z_iconst (v := Int32.ofInt 1) dX11_beginTag_382 rfl ?_
        refine i_iadd dX11_beginTag_383 ?_
        have hX := lX11_fail 0 (Nat.le_refl _) hJ hT hW q10 hw
        refine z_callV (As := [_]) eX11_fail sX11_fail lX11_362 rfl dX11_beginTag_384 (hW.1 _ _ hT.1) hX (Nat.le_trans (by decide) hd) rfl (Nat.le_of_ble_eq_true rfl) (fun r cs hp => ?_)
        obtain ⟨r15, S16, rfl, hw, hW⟩ := hp
        refine z_st (st' := []) rfl ?_
        refine z_iload dX11_beginTag_387 rfl ?_
        refine z_iconst (v := Int32.ofInt 2) dX11_beginTag_389 rfl ?_
        refine i_iadd dX11_beginTag_390 ?_
        exact z_ireturn dX11_beginTag_391 rfl rfl (hP _ _ _ hw hW)
    · have hw := hw.2 h8
      refine z_aload_n dX11_beginTag_357 rfl rfl ?_
      refine z_iload dX11_beginTag_358 rfl ?_
      have hX := lX11_fail 0 (Nat.le_refl _) hJ hT hW q5 hw
      refine z_callV (As := [_]) eX11_fail sX11_fail lX11_362 rfl dX11_beginTag_360 (hW.1 _ _ hT.1) hX (Nat.le_trans (by decide) hd) rfl (Nat.le_of_ble_eq_true rfl) (fun r cs hp => ?_)
      obtain ⟨r17, S18, rfl, hw, hW⟩ := hp
      refine z_st (st' := []) rfl ?_
      refine z_goto (tgt := 387) dX11_beginTag_363 (by decide) ?_
      refine z_iload dX11_beginTag_387 rfl ?_
      refine z_iconst (v := Int32.ofInt 2) dX11_beginTag_389 rfl ?_
      refine i_iadd dX11_beginTag_390 ?_
      exact z_ireturn dX11_beginTag_391 rfl rfl (hP _ _ _ hw hW)
  · have hw := hw.2 h4
    refine z_iload dX11_beginTag_341 rfl ?_
    refine z_iconst (v := Int32.ofInt 1) dX11_beginTag_343 rfl ?_
    refine i_iadd dX11_beginTag_344 ?_
    exact z_ireturn dX11_beginTag_345 rfl rfl (hP _ _ _ hw hW)
def wX11_beginTag_302 (l4 : Int) (S : St) (K : Int → St → Prop) : Prop := (iv (-2) 4000 (S.1 54 59) → ((S.1 54 59 = (-2) → (rng (l4) ∧ (wX11_docAt (l4) S (fun r4 S5 => (rng (r4) ∧ ((¬ r4 = 62 → wX11_beginTag_331 (l4) (0) S5 K) ∧ ((¬ (¬ r4 = 62)) → wX11_beginTag_331 (l4) (1) S5 K))))))) ∧ ((¬ (S.1 54 59 = (-2))) → K (l4) S)))
set_option maxRecDepth 100000 in
set_option maxHeartbeats 4000000 in
theorem bX11_beginTag_302 {G : xG} {sh : Nat → Option Sh} {J : St → List va_E → Prop} {d : Nat} {Post : xP} {l4 : Int} {S : St} {cs : List va_E} {K : Int → St → Prop} (hd : 5 ≤ d) (hJ : Stb sh J) (hT : isM sh) (hW : Wd G sh mT J S cs) (hP : ∀ (v : Int) (S : St) (cs : List va_E), K v S → Wd G sh mT J S cs → Post (some (.int (Int32.ofInt v))) cs)  (hw : wX11_beginTag_302 l4 S K ) : Z (RX11, cX11_beginTag, 9, some .int, false) G d Post 302 [(0, .ref (G.1 + 54)), (4, .int (Int32.ofInt (l4)))] [] cs := by
  unfold wX11_beginTag_302 at hw
  refine z_aload_n dX11_beginTag_302 rfl rfl ?_
  have q1 : iv (-2) 4000 (S.1 54 59) := mI59 hW
  have hw := hw q1
  refine g_getI hW hT.1 mr59 kX11 fX11_343 dX11_beginTag_303 ?_
  refine z_bipush (v := Int32.ofInt (-2)) dX11_beginTag_306 (by decide) ?_
  refine i_icmp_eq (tgt := 314) dX11_beginTag_308 (by decide) (rngq q1 (by decide) (by decide)) ⟨by decide, by decide⟩ (fun h2 => ?_) (fun h2 => ?_)
  · have hw := hw.1 h2
    refine z_aload_n dX11_beginTag_314 rfl rfl ?_
    refine z_aload_n dX11_beginTag_315 rfl rfl ?_
    refine z_iload dX11_beginTag_316 rfl ?_
    obtain ⟨q3, hw⟩ := hw
    have hX := lX11_docAt 0 (Nat.le_refl _) hJ hT hW q3 hw
    refine z_callV (As := [_]) eX11_docAt sX11_docAt lX11_349 rfl dX11_beginTag_318 (hW.1 _ _ hT.1) hX (Nat.le_trans (by decide) hd) rfl (Nat.le_of_ble_eq_true rfl) (fun r cs hp => ?_)
    obtain ⟨r4, S5, rfl, hw, hW⟩ := hp
    refine z_st (st' := [.int (Int32.ofInt (r4)), .ref (G.1 + 54)]) rfl ?_
    refine z_bipush (v := Int32.ofInt 62) dX11_beginTag_321 (by decide) ?_
    obtain ⟨q7, hw⟩ := hw
    refine i_icmp_ne (tgt := 330) dX11_beginTag_323 (by decide) q7 ⟨by decide, by decide⟩ (fun h6 => ?_) (fun h6 => ?_)
    · have hw := hw.1 h6
      refine z_iconst (v := Int32.ofInt 0) dX11_beginTag_330 rfl ?_
      refine z_loc (L' := [(0, .ref (G.1 + 54)), (4, .int (Int32.ofInt (l4)))]) (List.forall_mem_cons.mpr ⟨rfl, (List.forall_mem_cons.mpr ⟨rfl, (fun _ h => nomatch h)⟩)⟩) ?_
      exact bX11_beginTag_331 hd hJ hT hW hP  hw
    · have hw := hw.2 h6
      refine z_iconst (v := Int32.ofInt 1) dX11_beginTag_326 rfl ?_
      refine z_goto (tgt := 331) dX11_beginTag_327 (by decide) ?_
      refine z_loc (L' := [(0, .ref (G.1 + 54)), (4, .int (Int32.ofInt (l4)))]) (List.forall_mem_cons.mpr ⟨rfl, (List.forall_mem_cons.mpr ⟨rfl, (fun _ h => nomatch h)⟩)⟩) ?_
      exact bX11_beginTag_331 hd hJ hT hW hP  hw
  · have hw := hw.2 h2
    refine z_iload dX11_beginTag_311 rfl ?_
    exact z_ireturn dX11_beginTag_313 rfl rfl (hP _ _ _ hw hW)
def wX11_beginTag_299 (l4 l5 l6 : Int) (S : St) (K : Int → St → Prop) (B234 : Int → Int → Int → St → Prop) : Prop := B234 (l4) (l5) (l6) S
set_option maxRecDepth 100000 in
set_option maxHeartbeats 4000000 in
theorem bX11_beginTag_299 {G : xG} {sh : Nat → Option Sh} {J : St → List va_E → Prop} {d : Nat} {Post : xP} {l4 l5 l6 : Int} {S : St} {cs : List va_E} {K : Int → St → Prop} {B234 : Int → Int → Int → St → Prop} (hd : 5 ≤ d) (hJ : Stb sh J) (hT : isM sh) (hW : Wd G sh mT J S cs) (hP : ∀ (v : Int) (S : St) (cs : List va_E), K v S → Wd G sh mT J S cs → Post (some (.int (Int32.ofInt v))) cs) (hB234 : ∀ (l4 : Int) (l5 : Int) (l6 : Int) (S : St) (cs : List va_E), B234 l4 l5 l6 S → Wd G sh mT J S cs → Z (RX11, cX11_beginTag, 9, some .int, false) G d Post 234 [(0, .ref (G.1 + 54)), (4, .int (Int32.ofInt (l4))), (5, .int (Int32.ofInt (l5))), (6, .int (Int32.ofInt (l6)))] [] cs) (hw : wX11_beginTag_299 l4 l5 l6 S K B234) : Z (RX11, cX11_beginTag, 9, some .int, false) G d Post 299 [(0, .ref (G.1 + 54)), (4, .int (Int32.ofInt (l4))), (5, .int (Int32.ofInt (l5))), (6, .int (Int32.ofInt (l6)))] [] cs := by
  unfold wX11_beginTag_299 at hw
  refine z_goto (tgt := 234) dX11_beginTag_299 (by decide) ?_
  refine z_loc (L' := [(0, .ref (G.1 + 54)), (4, .int (Int32.ofInt (l4))), (5, .int (Int32.ofInt (l5))), (6, .int (Int32.ofInt (l6)))]) (List.forall_mem_cons.mpr ⟨rfl, (List.forall_mem_cons.mpr ⟨rfl, (List.forall_mem_cons.mpr ⟨rfl, (List.forall_mem_cons.mpr ⟨rfl, (fun _ h => nomatch h)⟩)⟩)⟩)⟩) ?_
  exact hB234 _ _ _ _ _ hw hW
def wX11_beginTag_292 (l5 l7 : Int) (S : St) (K : Int → St → Prop) (B234 : Int → Int → Int → St → Prop) : Prop := wX11_beginTag_299 (l7) (l5) (0) S K B234
set_option maxRecDepth 100000 in
set_option maxHeartbeats 4000000 in
theorem bX11_beginTag_292 {G : xG} {sh : Nat → Option Sh} {J : St → List va_E → Prop} {d : Nat} {Post : xP} {l5 l7 : Int} {S : St} {cs : List va_E} {K : Int → St → Prop} {B234 : Int → Int → Int → St → Prop} (hd : 5 ≤ d) (hJ : Stb sh J) (hT : isM sh) (hW : Wd G sh mT J S cs) (hP : ∀ (v : Int) (S : St) (cs : List va_E), K v S → Wd G sh mT J S cs → Post (some (.int (Int32.ofInt v))) cs) (hB234 : ∀ (l4 : Int) (l5 : Int) (l6 : Int) (S : St) (cs : List va_E), B234 l4 l5 l6 S → Wd G sh mT J S cs → Z (RX11, cX11_beginTag, 9, some .int, false) G d Post 234 [(0, .ref (G.1 + 54)), (4, .int (Int32.ofInt (l4))), (5, .int (Int32.ofInt (l5))), (6, .int (Int32.ofInt (l6)))] [] cs) (hw : wX11_beginTag_292 l5 l7 S K B234) : Z (RX11, cX11_beginTag, 9, some .int, false) G d Post 292 [(0, .ref (G.1 + 54)), (5, .int (Int32.ofInt (l5))), (7, .int (Int32.ofInt (l7)))] [] cs := by
  unfold wX11_beginTag_292 at hw
  refine z_iconst (v := Int32.ofInt 0) dX11_beginTag_292 rfl ?_
  refine z_istore dX11_beginTag_293 (by decide) ?_
  refine z_loc (L' := [(0, .ref (G.1 + 54)), (5, .int (Int32.ofInt (l5))), (6, .int (Int32.ofInt (0))), (7, .int (Int32.ofInt (l7)))]) (List.forall_mem_cons.mpr ⟨rfl, (List.forall_mem_cons.mpr ⟨rfl, (List.forall_mem_cons.mpr ⟨rfl, (List.forall_mem_cons.mpr ⟨rfl, (fun _ h => nomatch h)⟩)⟩)⟩)⟩) ?_
  refine z_iload dX11_beginTag_295 rfl ?_
  refine z_istore dX11_beginTag_297 (by decide) ?_
  refine z_loc (L' := [(0, .ref (G.1 + 54)), (4, .int (Int32.ofInt (l7))), (5, .int (Int32.ofInt (l5))), (6, .int (Int32.ofInt (0))), (7, .int (Int32.ofInt (l7)))]) (List.forall_mem_cons.mpr ⟨rfl, (List.forall_mem_cons.mpr ⟨rfl, (List.forall_mem_cons.mpr ⟨rfl, (List.forall_mem_cons.mpr ⟨rfl, (List.forall_mem_cons.mpr ⟨rfl, (fun _ h => nomatch h)⟩)⟩)⟩)⟩)⟩) ?_
  refine z_loc (L' := [(0, .ref (G.1 + 54)), (4, .int (Int32.ofInt (l7))), (5, .int (Int32.ofInt (l5))), (6, .int (Int32.ofInt (0)))]) (List.forall_mem_cons.mpr ⟨rfl, (List.forall_mem_cons.mpr ⟨rfl, (List.forall_mem_cons.mpr ⟨rfl, (List.forall_mem_cons.mpr ⟨rfl, (fun _ h => nomatch h)⟩)⟩)⟩)⟩) ?_
  exact bX11_beginTag_299 hd hJ hT hW hP hB234 hw
def wX11_beginTag_234' (l4 l5 l6 : Int) (S : St) (K : Int → St → Prop) (B234 : Int → Int → Int → St → Prop) : Prop := (rng (l6) ∧ ((l6 = 0 → wX11_beginTag_302 (l4) S K) ∧ ((¬ (l6 = 0)) → (iv (-2) 4000 (S.1 54 59) → ((¬ S.1 54 59 = (-2) → wX11_beginTag_302 (l4) S K) ∧ ((¬ (¬ S.1 54 59 = (-2))) → (rng (l4) ∧ (wX11_blanksFrom (l4) S (fun r6 S7 => (rng (r6) ∧ (wX11_docAt (r6) S7 (fun r9 S10 => ((r6 ≤ l4 → wX11_beginTag_292 (l5) (r6) S10 K B234) ∧ ((¬ (r6 ≤ l4)) → (rng (r9) ∧ (wX11_beginsName (r9) S10 (fun r13 S14 => (rng (r13) ∧ ((r13 = 0 → wX11_beginTag_292 (l5) (r6) S14 K B234) ∧ ((¬ (r13 = 0)) → (rng (l5) ∧ (wX11_attribute (r6) (l5) S14 (fun r18 S19 => wX11_beginTag_299 (r18) (l5) (l6) S19 K B234)))))))))))))))))))))))
set_option maxRecDepth 100000 in
set_option maxHeartbeats 4000000 in
theorem bX11_beginTag_234' {G : xG} {sh : Nat → Option Sh} {J : St → List va_E → Prop} {d : Nat} {Post : xP} {l4 l5 l6 : Int} {S : St} {cs : List va_E} {K : Int → St → Prop} {B234 : Int → Int → Int → St → Prop} (hd : 5 ≤ d) (hJ : Stb sh J) (hT : isM sh) (hW : Wd G sh mT J S cs) (hP : ∀ (v : Int) (S : St) (cs : List va_E), K v S → Wd G sh mT J S cs → Post (some (.int (Int32.ofInt v))) cs) (hB234 : ∀ (l4 : Int) (l5 : Int) (l6 : Int) (S : St) (cs : List va_E), B234 l4 l5 l6 S → Wd G sh mT J S cs → Z (RX11, cX11_beginTag, 9, some .int, false) G d Post 234 [(0, .ref (G.1 + 54)), (4, .int (Int32.ofInt (l4))), (5, .int (Int32.ofInt (l5))), (6, .int (Int32.ofInt (l6)))] [] cs) (hw : wX11_beginTag_234' l4 l5 l6 S K B234) : Z (RX11, cX11_beginTag, 9, some .int, false) G d Post 234 [(0, .ref (G.1 + 54)), (4, .int (Int32.ofInt (l4))), (5, .int (Int32.ofInt (l5))), (6, .int (Int32.ofInt (l6)))] [] cs := by
  unfold wX11_beginTag_234' at hw
  refine z_iload dX11_beginTag_234 rfl ?_
  obtain ⟨q2, hw⟩ := hw
  refine i_if_eq (tgt := 302) dX11_beginTag_236 (by decide) q2 (fun h1 => ?_) (fun h1 => ?_)
  · have hw := hw.1 h1
    refine z_loc (L' := [(0, .ref (G.1 + 54)), (4, .int (Int32.ofInt (l4)))]) (List.forall_mem_cons.mpr ⟨rfl, (List.forall_mem_cons.mpr ⟨rfl, (fun _ h => nomatch h)⟩)⟩) ?_
    exact bX11_beginTag_302 hd hJ hT hW hP  hw
  · have hw := hw.2 h1
    refine z_aload_n dX11_beginTag_239 rfl rfl ?_
    have q3 : iv (-2) 4000 (S.1 54 59) := mI59 hW
    have hw := hw q3
    refine g_getI hW hT.1 mr59 kX11 fX11_343 dX11_beginTag_240 ?_
    refine z_bipush (v := Int32.ofInt (-2)) dX11_beginTag_243 (by decide) ?_
    refine i_icmp_ne (tgt := 302) dX11_beginTag_245 (by decide) (rngq q3 (by decide) (by decide)) ⟨by decide, by decide⟩ (fun h4 => ?_) (fun h4 => ?_)
    · have hw := hw.1 h4
      refine z_loc (L' := [(0, .ref (G.1 + 54)), (4, .int (Int32.ofInt (l4)))]) (List.forall_mem_cons.mpr ⟨rfl, (List.forall_mem_cons.mpr ⟨rfl, (fun _ h => nomatch h)⟩)⟩) ?_
      exact bX11_beginTag_302 hd hJ hT hW hP  hw
    · have hw := hw.2 h4
      refine z_aload_n dX11_beginTag_248 rfl rfl ?_
      refine z_iload dX11_beginTag_249 rfl ?_
      obtain ⟨q5, hw⟩ := hw
      have hX := lX11_blanksFrom 1 (Nat.le_refl _) hJ hT hW q5 hw
      refine z_callV (As := [_]) eX11_blanksFrom sX11_blanksFrom lX11_389 rfl dX11_beginTag_251 (hW.1 _ _ hT.1) hX (Nat.le_trans (by decide) hd) rfl (Nat.le_of_ble_eq_true rfl) (fun r cs hp => ?_)
      obtain ⟨r6, S7, rfl, hw, hW⟩ := hp
      refine z_st (st' := [.int (Int32.ofInt (r6))]) rfl ?_
      refine z_istore dX11_beginTag_254 (by decide) ?_
      refine z_loc (L' := [(0, .ref (G.1 + 54)), (4, .int (Int32.ofInt (l4))), (5, .int (Int32.ofInt (l5))), (6, .int (Int32.ofInt (l6))), (7, .int (Int32.ofInt (r6)))]) (List.forall_mem_cons.mpr ⟨rfl, (List.forall_mem_cons.mpr ⟨rfl, (List.forall_mem_cons.mpr ⟨rfl, (List.forall_mem_cons.mpr ⟨rfl, (List.forall_mem_cons.mpr ⟨rfl, (fun _ h => nomatch h)⟩)⟩)⟩)⟩)⟩) ?_
      refine z_aload_n dX11_beginTag_256 rfl rfl ?_
      refine z_iload dX11_beginTag_257 rfl ?_
      obtain ⟨q8, hw⟩ := hw
      have hX := lX11_docAt 0 (Nat.le_refl _) hJ hT hW q8 hw
      refine z_callV (As := [_]) eX11_docAt sX11_docAt lX11_349 rfl dX11_beginTag_259 (hW.1 _ _ hT.1) hX (Nat.le_trans (by decide) hd) rfl (Nat.le_of_ble_eq_true rfl) (fun r cs hp => ?_)
      obtain ⟨r9, S10, rfl, hw, hW⟩ := hp
      refine z_st (st' := [.int (Int32.ofInt (r9))]) rfl ?_
      refine z_istore dX11_beginTag_262 (by decide) ?_
      refine z_loc (L' := [(0, .ref (G.1 + 54)), (4, .int (Int32.ofInt (l4))), (5, .int (Int32.ofInt (l5))), (6, .int (Int32.ofInt (l6))), (7, .int (Int32.ofInt (r6))), (8, .int (Int32.ofInt (r9)))]) (List.forall_mem_cons.mpr ⟨rfl, (List.forall_mem_cons.mpr ⟨rfl, (List.forall_mem_cons.mpr ⟨rfl, (List.forall_mem_cons.mpr ⟨rfl, (List.forall_mem_cons.mpr ⟨rfl, (List.forall_mem_cons.mpr ⟨rfl, (fun _ h => nomatch h)⟩)⟩)⟩)⟩)⟩)⟩) ?_
      refine z_iload dX11_beginTag_264 rfl ?_
      refine z_iload dX11_beginTag_266 rfl ?_
      refine i_icmp_le (tgt := 292) dX11_beginTag_268 (by decide) q8 q5 (fun h11 => ?_) (fun h11 => ?_)
      · have hw := hw.1 h11
        refine z_loc (L' := [(0, .ref (G.1 + 54)), (5, .int (Int32.ofInt (l5))), (7, .int (Int32.ofInt (r6)))]) (List.forall_mem_cons.mpr ⟨rfl, (List.forall_mem_cons.mpr ⟨rfl, (List.forall_mem_cons.mpr ⟨rfl, (fun _ h => nomatch h)⟩)⟩)⟩) ?_
        exact bX11_beginTag_292 hd hJ hT hW hP hB234 hw
      · have hw := hw.2 h11
        refine z_iload dX11_beginTag_271 rfl ?_
        obtain ⟨q12, hw⟩ := hw
        have hX := lX11_beginsName 1 (Nat.le_refl _) hJ hT hW q12 hw
        refine z_callS (As := [_]) eX11_beginsName sX11_beginsName lX11_346 dX11_beginTag_273 hX (Nat.le_trans (by decide) hd) rfl (Nat.le_of_ble_eq_true rfl) (fun r cs hp => ?_)
        obtain ⟨r13, S14, rfl, hw, hW⟩ := hp
        refine z_st (st' := [.int (Int32.ofInt (r13))]) rfl ?_
        obtain ⟨q16, hw⟩ := hw
        refine i_if_eq (tgt := 292) dX11_beginTag_276 (by decide) q16 (fun h15 => ?_) (fun h15 => ?_)
        · have hw := hw.1 h15
          refine z_loc (L' := [(0, .ref (G.1 + 54)), (5, .int (Int32.ofInt (l5))), (7, .int (Int32.ofInt (r6)))]) (List.forall_mem_cons.mpr ⟨rfl, (List.forall_mem_cons.mpr ⟨rfl, (List.forall_mem_cons.mpr ⟨rfl, (fun _ h => nomatch h)⟩)⟩)⟩) ?_
          exact bX11_beginTag_292 hd hJ hT hW hP hB234 hw
        · have hw := hw.2 h15
          refine z_aload_n dX11_beginTag_279 rfl rfl ?_
          refine z_iload dX11_beginTag_280 rfl ?_
          refine z_iload dX11_beginTag_282 rfl ?_
          obtain ⟨q17, hw⟩ := hw
          have hX := lX11_attribute 4 (Nat.le_refl _) hJ hT hW q8 q17 hw
          refine z_callV (As := [_, _]) eX11_attribute sX11_attribute lX11_392 rfl dX11_beginTag_284 (hW.1 _ _ hT.1) hX (Nat.le_trans (by decide) hd) rfl (Nat.le_of_ble_eq_true rfl) (fun r cs hp => ?_)
          obtain ⟨r18, S19, rfl, hw, hW⟩ := hp
          refine z_st (st' := [.int (Int32.ofInt (r18))]) rfl ?_
          refine z_istore dX11_beginTag_287 (by decide) ?_
          refine z_loc (L' := [(0, .ref (G.1 + 54)), (4, .int (Int32.ofInt (r18))), (5, .int (Int32.ofInt (l5))), (6, .int (Int32.ofInt (l6))), (7, .int (Int32.ofInt (r6))), (8, .int (Int32.ofInt (r9)))]) (List.forall_mem_cons.mpr ⟨rfl, (List.forall_mem_cons.mpr ⟨rfl, (List.forall_mem_cons.mpr ⟨rfl, (List.forall_mem_cons.mpr ⟨rfl, (List.forall_mem_cons.mpr ⟨rfl, (List.forall_mem_cons.mpr ⟨rfl, (fun _ h => nomatch h)⟩)⟩)⟩)⟩)⟩)⟩) ?_
          refine z_goto (tgt := 299) dX11_beginTag_289 (by decide) ?_
          refine z_loc (L' := [(0, .ref (G.1 + 54)), (4, .int (Int32.ofInt (r18))), (5, .int (Int32.ofInt (l5))), (6, .int (Int32.ofInt (l6)))]) (List.forall_mem_cons.mpr ⟨rfl, (List.forall_mem_cons.mpr ⟨rfl, (List.forall_mem_cons.mpr ⟨rfl, (List.forall_mem_cons.mpr ⟨rfl, (fun _ h => nomatch h)⟩)⟩)⟩)⟩) ?_
          exact bX11_beginTag_299 hd hJ hT hW hP hB234 hw
def wX11_beginTag_234 (l4 l5 l6 : Int) (S : St) (K : Int → St → Prop) : Prop := ∃ (Iv : Int → Int → Int → St → Prop) (mu : Int → Int → Int → St → Nat), Iv l4 l5 l6 S ∧ ∀ (l4 l5 l6 : Int) (S : St), Iv l4 l5 l6 S → wX11_beginTag_234' l4 l5 l6 S K  (fun ml4 ml5 ml6 T => Iv ml4 ml5 ml6 T ∧ mu ml4 ml5 ml6 T < mu l4 l5 l6 S)
set_option maxRecDepth 100000 in
set_option maxHeartbeats 4000000 in
theorem bX11_beginTag_234 {G : xG} {sh : Nat → Option Sh} {J : St → List va_E → Prop} {d : Nat} {Post : xP} {l4 l5 l6 : Int} {S : St} {cs : List va_E} {K : Int → St → Prop} (hd : 5 ≤ d) (hJ : Stb sh J) (hT : isM sh) (hW : Wd G sh mT J S cs) (hP : ∀ (v : Int) (S : St) (cs : List va_E), K v S → Wd G sh mT J S cs → Post (some (.int (Int32.ofInt v))) cs)  (hw : wX11_beginTag_234 l4 l5 l6 S K ) : Z (RX11, cX11_beginTag, 9, some .int, false) G d Post 234 [(0, .ref (G.1 + 54)), (4, .int (Int32.ofInt (l4))), (5, .int (Int32.ofInt (l5))), (6, .int (Int32.ofInt (l6)))] [] cs := by
  unfold wX11_beginTag_234 at hw
  obtain ⟨Iv, mu, h0, hs⟩ := hw
  have key : ∀ (n : Nat) (l4 l5 l6 : Int) (S : St) (cs : List va_E), mu l4 l5 l6 S < n → Iv l4 l5 l6 S → Wd G sh mT J S cs → Z (RX11, cX11_beginTag, 9, some .int, false) G d Post 234 [(0, .ref (G.1 + 54)), (4, .int (Int32.ofInt (l4))), (5, .int (Int32.ofInt (l5))), (6, .int (Int32.ofInt (l6)))] [] cs := by
    intro n
    induction n with
    | zero => intro l4 l5 l6 S cs hn; exact absurd hn (Nat.not_lt_zero _)
    | succ n ih =>
      intro l4 l5 l6 S cs hn hI hW
      exact bX11_beginTag_234' hd hJ hT hW hP  (fun l4 l5 l6 S cs hb hW => ih l4 l5 l6 S cs (Nat.lt_of_lt_of_le hb.2 (Nat.le_of_lt_succ hn)) hb.1 hW) (hs l4 l5 l6 S hI)
  exact key _ _ _ _ _ _ (Nat.lt_succ_self _) h0 hW
def wX11_beginTag_205 (l2 l4 l5 l6 s0 s1 : Int) (S : St) (K : Int → St → Prop) (B127 : Int → Int → Int → Int → St → Prop) : Prop := ((0 : Int) ≤ s1 ∧ s1 < (200 : Int) ∧ (iv 0 201 (s0) ∧ (∀ S2, S2 = pA S 89 (s1) (s0) → B127 (l2) (l4) (l5) ((l6 + 1)) S2)))
set_option maxRecDepth 100000 in
set_option maxHeartbeats 4000000 in
theorem bX11_beginTag_205 {G : xG} {sh : Nat → Option Sh} {J : St → List va_E → Prop} {d : Nat} {Post : xP} {l2 l4 l5 l6 s0 s1 : Int} {S : St} {cs : List va_E} {K : Int → St → Prop} {B127 : Int → Int → Int → Int → St → Prop} (hd : 5 ≤ d) (hJ : Stb sh J) (hT : isM sh) (hW : Wd G sh mT J S cs) (hP : ∀ (v : Int) (S : St) (cs : List va_E), K v S → Wd G sh mT J S cs → Post (some (.int (Int32.ofInt v))) cs) (hB127 : ∀ (l2 : Int) (l4 : Int) (l5 : Int) (l6 : Int) (S : St) (cs : List va_E), B127 l2 l4 l5 l6 S → Wd G sh mT J S cs → Z (RX11, cX11_beginTag, 9, some .int, false) G d Post 127 [(0, .ref (G.1 + 54)), (2, .int (Int32.ofInt (l2))), (4, .int (Int32.ofInt (l4))), (5, .int (Int32.ofInt (l5))), (6, .int (Int32.ofInt (l6)))] [] cs) (hw : wX11_beginTag_205 l2 l4 l5 l6 s0 s1 S K B127) : Z (RX11, cX11_beginTag, 9, some .int, false) G d Post 205 [(0, .ref (G.1 + 54)), (2, .int (Int32.ofInt (l2))), (4, .int (Int32.ofInt (l4))), (5, .int (Int32.ofInt (l5))), (6, .int (Int32.ofInt (l6)))] [.int (Int32.ofInt (s0)), .int (Int32.ofInt (s1)), .ref (G.1 + 89)] cs := by
  unfold wX11_beginTag_205 at hw
  obtain ⟨q1a, q1b, hw⟩ := hw
  obtain ⟨q3, hw⟩ := hw
  refine g_iast hJ hW (ma89 hT) q1a q1b (by decide) q3 dX11_beginTag_205 (fun cs hW => ?_)
  obtain ⟨S2, hS2⟩ : ∃ x, x = pA S 89 (s1) (s0) := ⟨_, rfl⟩
  rw [← hS2] at hW
  have hw := hw S2 hS2
  refine i_iinc (l := l6) dX11_beginTag_206 rfl (by decide) ?_
  refine z_loc (L' := [(0, .ref (G.1 + 54)), (2, .int (Int32.ofInt (l2))), (4, .int (Int32.ofInt (l4))), (5, .int (Int32.ofInt (l5))), (6, .int (Int32.ofInt ((l6 + 1))))]) (List.forall_mem_cons.mpr ⟨rfl, (List.forall_mem_cons.mpr ⟨rfl, (List.forall_mem_cons.mpr ⟨rfl, (List.forall_mem_cons.mpr ⟨rfl, (List.forall_mem_cons.mpr ⟨rfl, (fun _ h => nomatch h)⟩)⟩)⟩)⟩)⟩) ?_
  refine z_goto (tgt := 127) dX11_beginTag_209 (by decide) ?_
  refine z_loc (L' := [(0, .ref (G.1 + 54)), (2, .int (Int32.ofInt (l2))), (4, .int (Int32.ofInt (l4))), (5, .int (Int32.ofInt (l5))), (6, .int (Int32.ofInt ((l6 + 1))))]) (List.forall_mem_cons.mpr ⟨rfl, (List.forall_mem_cons.mpr ⟨rfl, (List.forall_mem_cons.mpr ⟨rfl, (List.forall_mem_cons.mpr ⟨rfl, (List.forall_mem_cons.mpr ⟨rfl, (fun _ h => nomatch h)⟩)⟩)⟩)⟩)⟩) ?_
  exact hB127 _ _ _ _ _ _ hw hW
def wX11_beginTag_198 (l2 l4 l5 l6 s0 : Int) (S : St) (K : Int → St → Prop) (B127 : Int → Int → Int → Int → St → Prop) : Prop := ((0 : Int) ≤ l5 ∧ l5 < (200 : Int) ∧ (iv 0 201 (S.2 89 (l5)) → wX11_beginTag_205 (l2) (l4) (l5) (l6) (S.2 89 (l5)) (s0) S K B127))
set_option maxRecDepth 100000 in
set_option maxHeartbeats 4000000 in
theorem bX11_beginTag_198 {G : xG} {sh : Nat → Option Sh} {J : St → List va_E → Prop} {d : Nat} {Post : xP} {l2 l4 l5 l6 s0 : Int} {S : St} {cs : List va_E} {K : Int → St → Prop} {B127 : Int → Int → Int → Int → St → Prop} (hd : 5 ≤ d) (hJ : Stb sh J) (hT : isM sh) (hW : Wd G sh mT J S cs) (hP : ∀ (v : Int) (S : St) (cs : List va_E), K v S → Wd G sh mT J S cs → Post (some (.int (Int32.ofInt v))) cs) (hB127 : ∀ (l2 : Int) (l4 : Int) (l5 : Int) (l6 : Int) (S : St) (cs : List va_E), B127 l2 l4 l5 l6 S → Wd G sh mT J S cs → Z (RX11, cX11_beginTag, 9, some .int, false) G d Post 127 [(0, .ref (G.1 + 54)), (2, .int (Int32.ofInt (l2))), (4, .int (Int32.ofInt (l4))), (5, .int (Int32.ofInt (l5))), (6, .int (Int32.ofInt (l6)))] [] cs) (hw : wX11_beginTag_198 l2 l4 l5 l6 s0 S K B127) : Z (RX11, cX11_beginTag, 9, some .int, false) G d Post 198 [(0, .ref (G.1 + 54)), (2, .int (Int32.ofInt (l2))), (4, .int (Int32.ofInt (l4))), (5, .int (Int32.ofInt (l5))), (6, .int (Int32.ofInt (l6)))] [.int (Int32.ofInt (s0)), .ref (G.1 + 89)] cs := by
  unfold wX11_beginTag_198 at hw
  refine z_aload_n dX11_beginTag_198 rfl rfl ?_
  refine g_getR hW hT.1 mr48 kX11 fX11_117 dX11_beginTag_199 ?_
  refine z_iload dX11_beginTag_202 rfl ?_
  obtain ⟨q1a, q1b, hw⟩ := hw
  have q2 : iv 0 201 (S.2 89 (l5)) := mA89 hW _
  have hw := hw q2
  refine g_iald hW (ma89 hT) q1a q1b (by decide) dX11_beginTag_204 ?_
  refine z_loc (L' := [(0, .ref (G.1 + 54)), (2, .int (Int32.ofInt (l2))), (4, .int (Int32.ofInt (l4))), (5, .int (Int32.ofInt (l5))), (6, .int (Int32.ofInt (l6)))]) (List.forall_mem_cons.mpr ⟨rfl, (List.forall_mem_cons.mpr ⟨rfl, (List.forall_mem_cons.mpr ⟨rfl, (List.forall_mem_cons.mpr ⟨rfl, (List.forall_mem_cons.mpr ⟨rfl, (fun _ h => nomatch h)⟩)⟩)⟩)⟩)⟩) ?_
  exact bX11_beginTag_205 hd hJ hT hW hP hB127 hw
def wX11_beginTag_127' (l2 l4 l5 l6 : Int) (S : St) (K : Int → St → Prop) (B127 : Int → Int → Int → Int → St → Prop) : Prop := (rng (l6) ∧ (rng (l5) ∧ ((l5 ≤ l6 → (iv 0 600 (S.1 54 51) → ((0 : Int) ≤ l5 ∧ l5 < (200 : Int) ∧ (∀ S6, S6 = pA S 90 (l5) (S.1 54 51) → ((0 : Int) ≤ l5 ∧ l5 < (200 : Int) ∧ (∀ S8, S8 = pA S6 91 (l5) (0) → wX11_beginTag_234 (l4) (l5) (1) S8 K)))))) ∧ ((¬ (l5 ≤ l6)) → ((0 : Int) ≤ l6 ∧ l6 < (200 : Int) ∧ (iv (-2) 199 (S.2 88 (l6)) → (rng (l2) ∧ ((¬ S.2 88 (l6) = l2 → wX11_beginTag_198 (l2) (l4) (l5) (l6) (l5) S K B127) ∧ ((¬ (¬ S.2 88 (l6) = l2)) → ((0 : Int) ≤ l6 ∧ l6 < (200 : Int) ∧ (iv 0 3000 (S.2 86 (l6)) → ((0 : Int) ≤ l6 ∧ l6 < (200 : Int) ∧ (iv 0 3000 (S.2 87 (l6)) → ((0 : Int) ≤ l5 ∧ l5 < (200 : Int) ∧ (iv 0 3000 (S.2 86 (l5)) → ((0 : Int) ≤ l5 ∧ l5 < (200 : Int) ∧ (iv 0 3000 (S.2 87 (l5)) → (wX11_sameNames (S.2 86 (l6)) (S.2 87 (l6)) (S.2 86 (l5)) (S.2 87 (l5)) S (fun r21 S22 => (rng (r21) ∧ ((r21 = 0 → wX11_beginTag_198 (l2) (l4) (l5) (l6) (l5) S22 K B127) ∧ ((¬ (r21 = 0)) → ((0 : Int) ≤ l5 ∧ l5 < (200 : Int) ∧ (iv 0 201 (S22.2 89 (l5)) → wX11_beginTag_205 (l2) (l4) (l5) (l6) ((S22.2 89 (l5) + 1)) (l5) S22 K B127))))))))))))))))))))))))
set_option maxRecDepth 100000 in
set_option maxHeartbeats 4000000 in
theorem bX11_beginTag_127' {G : xG} {sh : Nat → Option Sh} {J : St → List va_E → Prop} {d : Nat} {Post : xP} {l2 l4 l5 l6 : Int} {S : St} {cs : List va_E} {K : Int → St → Prop} {B127 : Int → Int → Int → Int → St → Prop} (hd : 5 ≤ d) (hJ : Stb sh J) (hT : isM sh) (hW : Wd G sh mT J S cs) (hP : ∀ (v : Int) (S : St) (cs : List va_E), K v S → Wd G sh mT J S cs → Post (some (.int (Int32.ofInt v))) cs) (hB127 : ∀ (l2 : Int) (l4 : Int) (l5 : Int) (l6 : Int) (S : St) (cs : List va_E), B127 l2 l4 l5 l6 S → Wd G sh mT J S cs → Z (RX11, cX11_beginTag, 9, some .int, false) G d Post 127 [(0, .ref (G.1 + 54)), (2, .int (Int32.ofInt (l2))), (4, .int (Int32.ofInt (l4))), (5, .int (Int32.ofInt (l5))), (6, .int (Int32.ofInt (l6)))] [] cs) (hw : wX11_beginTag_127' l2 l4 l5 l6 S K B127) : Z (RX11, cX11_beginTag, 9, some .int, false) G d Post 127 [(0, .ref (G.1 + 54)), (2, .int (Int32.ofInt (l2))), (4, .int (Int32.ofInt (l4))), (5, .int (Int32.ofInt (l5))), (6, .int (Int32.ofInt (l6)))] [] cs := by
  unfold wX11_beginTag_127' at hw
  refine z_iload dX11_beginTag_127 rfl ?_
  refine z_iload dX11_beginTag_129 rfl ?_
  obtain ⟨q2, hw⟩ := hw
  obtain ⟨q3, hw⟩ := hw
  refine i_icmp_ge (tgt := 212) dX11_beginTag_131 (by decide) q2 q3 (fun h1 => ?_) (fun h1 => ?_)
  · have hw := hw.1 h1
    refine z_aload_n dX11_beginTag_212 rfl rfl ?_
    refine g_getR hW hT.1 mr49 kX11 fX11_120 dX11_beginTag_213 ?_
    refine z_iload dX11_beginTag_216 rfl ?_
    refine z_aload_n dX11_beginTag_218 rfl rfl ?_
    have q4 : iv 0 600 (S.1 54 51) := mI51 hW
    have hw := hw q4
    refine g_getI hW hT.1 mr51 kX11 fX11_377 dX11_beginTag_219 ?_
    obtain ⟨q5a, q5b, hw⟩ := hw
    refine g_iast hJ hW (ma90 hT) q5a q5b (by decide) q4 dX11_beginTag_222 (fun cs hW => ?_)
    obtain ⟨S6, hS6⟩ : ∃ x, x = pA S 90 (l5) (S.1 54 51) := ⟨_, rfl⟩
    rw [← hS6] at hW
    have hw := hw S6 hS6
    refine z_aload_n dX11_beginTag_223 rfl rfl ?_
    refine g_getR hW hT.1 mr50 kX11 fX11_123 dX11_beginTag_224 ?_
    refine z_iload dX11_beginTag_227 rfl ?_
    refine z_iconst (v := Int32.ofInt 0) dX11_beginTag_229 rfl ?_
    obtain ⟨q7a, q7b, hw⟩ := hw
    refine g_iast hJ hW (ma91 hT) q7a q7b (by decide) ⟨by decide, by decide⟩ dX11_beginTag_230 (fun cs hW => ?_)
    obtain ⟨S8, hS8⟩ : ∃ x, x = pA S6 91 (l5) (0) := ⟨_, rfl⟩
    rw [← hS8] at hW
    have hw := hw S8 hS8
    refine z_iconst (v := Int32.ofInt 1) dX11_beginTag_231 rfl ?_
    refine z_istore dX11_beginTag_232 (by decide) ?_
    refine z_loc (L' := [(0, .ref (G.1 + 54)), (2, .int (Int32.ofInt (l2))), (4, .int (Int32.ofInt (l4))), (5, .int (Int32.ofInt (l5))), (6, .int (Int32.ofInt (1)))]) (List.forall_mem_cons.mpr ⟨rfl, (List.forall_mem_cons.mpr ⟨rfl, (List.forall_mem_cons.mpr ⟨rfl, (List.forall_mem_cons.mpr ⟨rfl, (List.forall_mem_cons.mpr ⟨rfl, (fun _ h => nomatch h)⟩)⟩)⟩)⟩)⟩) ?_
    refine z_loc (L' := [(0, .ref (G.1 + 54)), (4, .int (Int32.ofInt (l4))), (5, .int (Int32.ofInt (l5))), (6, .int (Int32.ofInt (1)))]) (List.forall_mem_cons.mpr ⟨rfl, (List.forall_mem_cons.mpr ⟨rfl, (List.forall_mem_cons.mpr ⟨rfl, (List.forall_mem_cons.mpr ⟨rfl, (fun _ h => nomatch h)⟩)⟩)⟩)⟩) ?_
    exact bX11_beginTag_234 hd hJ hT hW hP  hw
  · have hw := hw.2 h1
    refine z_aload_n dX11_beginTag_134 rfl rfl ?_
    refine g_getR hW hT.1 mr48 kX11 fX11_117 dX11_beginTag_135 ?_
    refine z_iload dX11_beginTag_138 rfl ?_
    refine z_aload_n dX11_beginTag_140 rfl rfl ?_
    refine g_getR hW hT.1 mr47 kX11 fX11_114 dX11_beginTag_141 ?_
    refine z_iload dX11_beginTag_144 rfl ?_
    obtain ⟨q9a, q9b, hw⟩ := hw
    have q10 : iv (-2) 199 (S.2 88 (l6)) := mA88 hW _
    have hw := hw q10
    refine g_iald hW (ma88 hT) q9a q9b (by decide) dX11_beginTag_146 ?_
    refine z_iload_n dX11_beginTag_147 rfl rfl ?_
    obtain ⟨q12, hw⟩ := hw
    refine i_icmp_ne (tgt := 198) dX11_beginTag_148 (by decide) (rngq q10 (by decide) (by decide)) q12 (fun h11 => ?_) (fun h11 => ?_)
    · have hw := hw.1 h11
      refine z_loc (L' := [(0, .ref (G.1 + 54)), (2, .int (Int32.ofInt (l2))), (4, .int (Int32.ofInt (l4))), (5, .int (Int32.ofInt (l5))), (6, .int (Int32.ofInt (l6)))]) (List.forall_mem_cons.mpr ⟨rfl, (List.forall_mem_cons.mpr ⟨rfl, (List.forall_mem_cons.mpr ⟨rfl, (List.forall_mem_cons.mpr ⟨rfl, (List.forall_mem_cons.mpr ⟨rfl, (fun _ h => nomatch h)⟩)⟩)⟩)⟩)⟩) ?_
      exact bX11_beginTag_198 hd hJ hT hW hP hB127 hw
    · have hw := hw.2 h11
      refine z_aload_n dX11_beginTag_151 rfl rfl ?_
      refine z_aload_n dX11_beginTag_152 rfl rfl ?_
      refine g_getR hW hT.1 mr45 kX11 fX11_108 dX11_beginTag_153 ?_
      refine z_iload dX11_beginTag_156 rfl ?_
      obtain ⟨q13a, q13b, hw⟩ := hw
      have q14 : iv 0 3000 (S.2 86 (l6)) := mA86 hW _
      have hw := hw q14
      refine g_iald hW (ma86 hT) q13a q13b (by decide) dX11_beginTag_158 ?_
      refine z_aload_n dX11_beginTag_159 rfl rfl ?_
      refine g_getR hW hT.1 mr46 kX11 fX11_111 dX11_beginTag_160 ?_
      refine z_iload dX11_beginTag_163 rfl ?_
      obtain ⟨q15a, q15b, hw⟩ := hw
      have q16 : iv 0 3000 (S.2 87 (l6)) := mA87 hW _
      have hw := hw q16
      refine g_iald hW (ma87 hT) q15a q15b (by decide) dX11_beginTag_165 ?_
      refine z_aload_n dX11_beginTag_166 rfl rfl ?_
      refine g_getR hW hT.1 mr45 kX11 fX11_108 dX11_beginTag_167 ?_
      refine z_iload dX11_beginTag_170 rfl ?_
      obtain ⟨q17a, q17b, hw⟩ := hw
      have q18 : iv 0 3000 (S.2 86 (l5)) := mA86 hW _
      have hw := hw q18
      refine g_iald hW (ma86 hT) q17a q17b (by decide) dX11_beginTag_172 ?_
      refine z_aload_n dX11_beginTag_173 rfl rfl ?_
      refine g_getR hW hT.1 mr46 kX11 fX11_111 dX11_beginTag_174 ?_
      refine z_iload dX11_beginTag_177 rfl ?_
      obtain ⟨q19a, q19b, hw⟩ := hw
      have q20 : iv 0 3000 (S.2 87 (l5)) := mA87 hW _
      have hw := hw q20
      refine g_iald hW (ma87 hT) q19a q19b (by decide) dX11_beginTag_179 ?_
      have hX := lX11_sameNames 0 (Nat.le_refl _) hJ hT hW (rngq q14 (by decide) (by decide)) (rngq q16 (by decide) (by decide)) (rngq q18 (by decide) (by decide)) (rngq q20 (by decide) (by decide)) hw
      refine z_callV (As := [_, _, _, _]) eX11_sameNames sX11_sameNames lX11_380 rfl dX11_beginTag_180 (hW.1 _ _ hT.1) hX (Nat.le_trans (by decide) hd) rfl (Nat.le_of_ble_eq_true rfl) (fun r cs hp => ?_)
      obtain ⟨r21, S22, rfl, hw, hW⟩ := hp
      refine z_st (st' := [.int (Int32.ofInt (r21)), .int (Int32.ofInt (l5)), .ref (G.1 + 89)]) rfl ?_
      obtain ⟨q24, hw⟩ := hw
      refine i_if_eq (tgt := 198) dX11_beginTag_183 (by decide) q24 (fun h23 => ?_) (fun h23 => ?_)
      · have hw := hw.1 h23
        refine z_loc (L' := [(0, .ref (G.1 + 54)), (2, .int (Int32.ofInt (l2))), (4, .int (Int32.ofInt (l4))), (5, .int (Int32.ofInt (l5))), (6, .int (Int32.ofInt (l6)))]) (List.forall_mem_cons.mpr ⟨rfl, (List.forall_mem_cons.mpr ⟨rfl, (List.forall_mem_cons.mpr ⟨rfl, (List.forall_mem_cons.mpr ⟨rfl, (List.forall_mem_cons.mpr ⟨rfl, (fun _ h => nomatch h)⟩)⟩)⟩)⟩)⟩) ?_
        exact bX11_beginTag_198 hd hJ hT hW hP hB127 hw
      · have hw := hw.2 h23
        refine z_aload_n dX11_beginTag_186 rfl rfl ?_
        refine g_getR hW hT.1 mr48 kX11 fX11_117 dX11_beginTag_187 ?_
        refine z_iload dX11_beginTag_190 rfl ?_
        obtain ⟨q25a, q25b, hw⟩ := hw
        have q26 : iv 0 201 (S22.2 89 (l5)) := mA89 hW _
        have hw := hw q26
        refine g_iald hW (ma89 hT) q25a q25b (by decide) dX11_beginTag_192 ?_
        refine z_iconst (v := Int32.ofInt 1) dX11_beginTag_193 rfl ?_
        refine i_iadd dX11_beginTag_194 ?_
        refine z_goto (tgt := 205) dX11_beginTag_195 (by decide) ?_
        refine z_loc (L' := [(0, .ref (G.1 + 54)), (2, .int (Int32.ofInt (l2))), (4, .int (Int32.ofInt (l4))), (5, .int (Int32.ofInt (l5))), (6, .int (Int32.ofInt (l6)))]) (List.forall_mem_cons.mpr ⟨rfl, (List.forall_mem_cons.mpr ⟨rfl, (List.forall_mem_cons.mpr ⟨rfl, (List.forall_mem_cons.mpr ⟨rfl, (List.forall_mem_cons.mpr ⟨rfl, (fun _ h => nomatch h)⟩)⟩)⟩)⟩)⟩) ?_
        exact bX11_beginTag_205 hd hJ hT hW hP hB127 hw
def wX11_beginTag_127 (l2 l4 l5 l6 : Int) (S : St) (K : Int → St → Prop) : Prop := ∃ (Iv : Int → Int → Int → Int → St → Prop) (mu : Int → Int → Int → Int → St → Nat), Iv l2 l4 l5 l6 S ∧ ∀ (l2 l4 l5 l6 : Int) (S : St), Iv l2 l4 l5 l6 S → wX11_beginTag_127' l2 l4 l5 l6 S K  (fun ml2 ml4 ml5 ml6 T => Iv ml2 ml4 ml5 ml6 T ∧ mu ml2 ml4 ml5 ml6 T < mu l2 l4 l5 l6 S)
set_option maxRecDepth 100000 in
set_option maxHeartbeats 4000000 in
theorem bX11_beginTag_127 {G : xG} {sh : Nat → Option Sh} {J : St → List va_E → Prop} {d : Nat} {Post : xP} {l2 l4 l5 l6 : Int} {S : St} {cs : List va_E} {K : Int → St → Prop} (hd : 5 ≤ d) (hJ : Stb sh J) (hT : isM sh) (hW : Wd G sh mT J S cs) (hP : ∀ (v : Int) (S : St) (cs : List va_E), K v S → Wd G sh mT J S cs → Post (some (.int (Int32.ofInt v))) cs)  (hw : wX11_beginTag_127 l2 l4 l5 l6 S K ) : Z (RX11, cX11_beginTag, 9, some .int, false) G d Post 127 [(0, .ref (G.1 + 54)), (2, .int (Int32.ofInt (l2))), (4, .int (Int32.ofInt (l4))), (5, .int (Int32.ofInt (l5))), (6, .int (Int32.ofInt (l6)))] [] cs := by
  unfold wX11_beginTag_127 at hw
  obtain ⟨Iv, mu, h0, hs⟩ := hw
  have key : ∀ (n : Nat) (l2 l4 l5 l6 : Int) (S : St) (cs : List va_E), mu l2 l4 l5 l6 S < n → Iv l2 l4 l5 l6 S → Wd G sh mT J S cs → Z (RX11, cX11_beginTag, 9, some .int, false) G d Post 127 [(0, .ref (G.1 + 54)), (2, .int (Int32.ofInt (l2))), (4, .int (Int32.ofInt (l4))), (5, .int (Int32.ofInt (l5))), (6, .int (Int32.ofInt (l6)))] [] cs := by
    intro n
    induction n with
    | zero => intro l2 l4 l5 l6 S cs hn; exact absurd hn (Nat.not_lt_zero _)
    | succ n ih =>
      intro l2 l4 l5 l6 S cs hn hI hW
      exact bX11_beginTag_127' hd hJ hT hW hP  (fun l2 l4 l5 l6 S cs hb hW => ih l2 l4 l5 l6 S cs (Nat.lt_of_lt_of_le hb.2 (Nat.le_of_lt_succ hn)) hb.1 hW) (hs l2 l4 l5 l6 S hI)
  exact key _ _ _ _ _ _ _ (Nat.lt_succ_self _) h0 hW
def wX11_beginTag (a1 a2 a3 : Int) (S : St) (K : Int → St → Prop) : Prop := rng a1 → rng a2 → rng a3 → (∀ x1 : Int, x1 = (a1 + 1) → (rng (x1) ∧ (wX11_docAt (x1) S (fun r3 S4 => (rng (r3) ∧ (wX11_beginsName (r3) S4 (fun r6 S7 => (rng (r6) ∧ ((¬ r6 = 0 → (iv 0 200 (S7.1 54 43) → ((S7.1 54 43 = 200 → wX11_beginTag_42 (a1) (x1) S7 K) ∧ ((¬ (S7.1 54 43 = 200)) → ((¬ a3 = 40 → (iv 0 200 ((S7.1 54 43 + 1)) ∧ (∀ S13, S13 = pI S7 54 43 ((S7.1 54 43 + 1)) → ((0 : Int) ≤ S7.1 54 43 ∧ S7.1 54 43 < (200 : Int) ∧ (iv 0 3000 (a1) ∧ (∀ S16, S16 = pA S13 85 (S7.1 54 43) (a1) → ((0 : Int) ≤ S7.1 54 43 ∧ S7.1 54 43 < (200 : Int) ∧ (iv 0 3000 (x1) ∧ (∀ S19, S19 = pA S16 86 (S7.1 54 43) (x1) → (wX11_nameEnd (x1) S19 (fun r21 S22 => ((0 : Int) ≤ S7.1 54 43 ∧ S7.1 54 43 < (200 : Int) ∧ (iv 0 3000 (S22.2 86 (S7.1 54 43)) → ((0 : Int) ≤ S7.1 54 43 ∧ S7.1 54 43 < (200 : Int) ∧ (iv 0 3000 ((r21 - S22.2 86 (S7.1 54 43))) ∧ (∀ S26, S26 = pA S22 87 (S7.1 54 43) ((r21 - S22.2 86 (S7.1 54 43))) → ((0 : Int) ≤ S7.1 54 43 ∧ S7.1 54 43 < (200 : Int) ∧ (iv (-2) 199 (a2) ∧ (∀ S29, S29 = pA S26 88 (S7.1 54 43) (a2) → ((0 : Int) ≤ S7.1 54 43 ∧ S7.1 54 43 < (200 : Int) ∧ (∀ S32, S32 = pA S29 89 (S7.1 54 43) (1) → wX11_beginTag_127 (a2) (r21) (S7.1 54 43) (0) S32 K))))))))))))))))))))) ∧ ((¬ (¬ a3 = 40)) → wX11_beginTag_42 (a1) (x1) S7 K)))))) ∧ ((¬ (¬ r6 = 0)) → (wX11_fail (x1) S7 (fun r33 S34 => K (x1) S34))))))))))))
set_option maxRecDepth 100000 in
set_option maxHeartbeats 4000000 in
theorem lX11_beginTag {G : xG} {sh : Nat → Option Sh} {J : St → List va_E → Prop} {a1 a2 a3 : Int} {S : St} {cs : List va_E} {K : Int → St → Prop} (d : Nat) (hd : 5 ≤ d) (hJ : Stb sh J) (hT : isM sh) (hW : Wd G sh mT J S cs) (g1 : rng a1) (g2 : rng a2) (g3 : rng a3) (hw : wX11_beginTag a1 a2 a3 S K) : X G yX11_beginTag cX11_beginTag 9 (some .int) d [.ref (G.1 + 54), .int (Int32.ofInt a1), .int (Int32.ofInt a2), .int (Int32.ofInt a3)] cs (qI G sh mT J K) := by
  refine X.of false (by decide +kernel) (by decide) (Nat.le_of_ble_eq_true rfl) ?_
  show Z (RX11, cX11_beginTag, 9, some .int, false) G d _ 0 [(0, .ref (G.1 + 54)), (1, .int (Int32.ofInt a1)), (2, .int (Int32.ofInt a2)), (3, .int (Int32.ofInt a3))] [] cs
  have hP : ∀ (v : Int) (S : St) (cs : List va_E), K v S → Wd G sh mT J S cs → qI G sh mT J K (some (.int (Int32.ofInt v))) cs := fun v S cs a b => ⟨v, S, rfl, a, b⟩
  unfold wX11_beginTag at hw
  have hw := hw g1 g2 g3
  refine z_iload_n dX11_beginTag_0 rfl rfl ?_
  refine z_iconst (v := Int32.ofInt 1) dX11_beginTag_1 rfl ?_
  refine i_iadd dX11_beginTag_2 ?_
  obtain ⟨x1, hx1⟩ : ∃ x : Int, x = (a1 + 1) := ⟨_, rfl⟩
  have hw := hw x1 hx1
  refine z_st (st' := [.int (Int32.ofInt x1)]) (by rw [hx1]) ?_
  refine z_istore dX11_beginTag_3 (by decide) ?_
  refine z_loc (L' := [(0, .ref (G.1 + 54)), (1, .int (Int32.ofInt (a1))), (2, .int (Int32.ofInt (a2))), (3, .int (Int32.ofInt (a3))), (4, .int (Int32.ofInt (x1)))]) (List.forall_mem_cons.mpr ⟨rfl, (List.forall_mem_cons.mpr ⟨rfl, (List.forall_mem_cons.mpr ⟨rfl, (List.forall_mem_cons.mpr ⟨rfl, (List.forall_mem_cons.mpr ⟨rfl, (fun _ h => nomatch h)⟩)⟩)⟩)⟩)⟩) ?_
  refine z_aload_n dX11_beginTag_5 rfl rfl ?_
  refine z_iload dX11_beginTag_6 rfl ?_
  obtain ⟨q2, hw⟩ := hw
  have hX := lX11_docAt 0 (Nat.le_refl _) hJ hT hW q2 hw
  refine z_callV (As := [_]) eX11_docAt sX11_docAt lX11_349 rfl dX11_beginTag_8 (hW.1 _ _ hT.1) hX (Nat.le_trans (by decide) hd) rfl (Nat.le_of_ble_eq_true rfl) (fun r cs hp => ?_)
  obtain ⟨r3, S4, rfl, hw, hW⟩ := hp
  refine z_st (st' := [.int (Int32.ofInt (r3))]) rfl ?_
  obtain ⟨q5, hw⟩ := hw
  have hX := lX11_beginsName 1 (Nat.le_refl _) hJ hT hW q5 hw
  refine z_callS (As := [_]) eX11_beginsName sX11_beginsName lX11_346 dX11_beginTag_11 hX (Nat.le_trans (by decide) hd) rfl (Nat.le_of_ble_eq_true rfl) (fun r cs hp => ?_)
  obtain ⟨r6, S7, rfl, hw, hW⟩ := hp
  refine z_st (st' := [.int (Int32.ofInt (r6))]) rfl ?_
  obtain ⟨q9, hw⟩ := hw
  refine i_if_ne (tgt := 26) dX11_beginTag_14 (by decide) q9 (fun h8 => ?_) (fun h8 => ?_)
  · have hw := hw.1 h8
    refine z_aload_n dX11_beginTag_26 rfl rfl ?_
    have q10 : iv 0 200 (S7.1 54 43) := mI43 hW
    have hw := hw q10
    refine g_getI hW hT.1 mr43 kX11 fX11_386 dX11_beginTag_27 ?_
    refine z_sipush (v := Int32.ofInt 200) dX11_beginTag_30 (by decide) ?_
    refine i_icmp_eq (tgt := 42) dX11_beginTag_33 (by decide) (rngq q10 (by decide) (by decide)) ⟨by decide, by decide⟩ (fun h11 => ?_) (fun h11 => ?_)
    · have hw := hw.1 h11
      refine z_loc (L' := [(0, .ref (G.1 + 54)), (1, .int (Int32.ofInt (a1))), (4, .int (Int32.ofInt (x1)))]) (List.forall_mem_cons.mpr ⟨rfl, (List.forall_mem_cons.mpr ⟨rfl, (List.forall_mem_cons.mpr ⟨rfl, (fun _ h => nomatch h)⟩)⟩)⟩) ?_
      exact bX11_beginTag_42 hd hJ hT hW hP  hw
    · have hw := hw.2 h11
      refine z_iload_n dX11_beginTag_36 rfl rfl ?_
      refine z_bipush (v := Int32.ofInt 40) dX11_beginTag_37 (by decide) ?_
      refine i_icmp_ne (tgt := 50) dX11_beginTag_39 (by decide) g3 ⟨by decide, by decide⟩ (fun h12 => ?_) (fun h12 => ?_)
      · have hw := hw.1 h12
        refine z_aload_n dX11_beginTag_50 rfl rfl ?_
        refine g_getI hW hT.1 mr43 kX11 fX11_386 dX11_beginTag_51 ?_
        refine z_istore dX11_beginTag_54 (by decide) ?_
        refine z_loc (L' := [(0, .ref (G.1 + 54)), (1, .int (Int32.ofInt (a1))), (2, .int (Int32.ofInt (a2))), (3, .int (Int32.ofInt (a3))), (4, .int (Int32.ofInt (x1))), (5, .int (Int32.ofInt (S7.1 54 43)))]) (List.forall_mem_cons.mpr ⟨rfl, (List.forall_mem_cons.mpr ⟨rfl, (List.forall_mem_cons.mpr ⟨rfl, (List.forall_mem_cons.mpr ⟨rfl, (List.forall_mem_cons.mpr ⟨rfl, (List.forall_mem_cons.mpr ⟨rfl, (fun _ h => nomatch h)⟩)⟩)⟩)⟩)⟩)⟩) ?_
        refine z_aload_n dX11_beginTag_56 rfl rfl ?_
        refine z_dup dX11_beginTag_57 rfl ?_
        refine g_getI hW hT.1 mr43 kX11 fX11_386 dX11_beginTag_58 ?_
        refine z_iconst (v := Int32.ofInt 1) dX11_beginTag_61 rfl ?_
        refine i_iadd dX11_beginTag_62 ?_
        obtain ⟨q14, hw⟩ := hw
        refine g_putI hJ hW hT.1 mr43 kX11 fX11_386 dX11_beginTag_63 rfl rfl rfl q14 (fun cs hW => ?_)
        obtain ⟨S13, hS13⟩ : ∃ x, x = pI S7 54 43 ((S7.1 54 43 + 1)) := ⟨_, rfl⟩
        rw [← hS13] at hW
        have hw := hw S13 hS13
        refine z_aload_n dX11_beginTag_66 rfl rfl ?_
        refine g_getR hW hT.1 mr44 kX11 fX11_105 dX11_beginTag_67 ?_
        refine z_iload dX11_beginTag_70 rfl ?_
        refine z_iload_n dX11_beginTag_72 rfl rfl ?_
        obtain ⟨q15a, q15b, hw⟩ := hw
        obtain ⟨q17, hw⟩ := hw
        refine g_iast hJ hW (ma85 hT) q15a q15b (by decide) q17 dX11_beginTag_73 (fun cs hW => ?_)
        obtain ⟨S16, hS16⟩ : ∃ x, x = pA S13 85 (S7.1 54 43) (a1) := ⟨_, rfl⟩
        rw [← hS16] at hW
        have hw := hw S16 hS16
        refine z_aload_n dX11_beginTag_74 rfl rfl ?_
        refine g_getR hW hT.1 mr45 kX11 fX11_108 dX11_beginTag_75 ?_
        refine z_iload dX11_beginTag_78 rfl ?_
        refine z_iload dX11_beginTag_80 rfl ?_
        obtain ⟨q18a, q18b, hw⟩ := hw
        obtain ⟨q20, hw⟩ := hw
        refine g_iast hJ hW (ma86 hT) q18a q18b (by decide) q20 dX11_beginTag_82 (fun cs hW => ?_)
        obtain ⟨S19, hS19⟩ : ∃ x, x = pA S16 86 (S7.1 54 43) (x1) := ⟨_, rfl⟩
        rw [← hS19] at hW
        have hw := hw S19 hS19
        refine z_aload_n dX11_beginTag_83 rfl rfl ?_
        refine z_iload dX11_beginTag_84 rfl ?_
        have hX := lX11_nameEnd 3 (Nat.le_refl _) hJ hT hW q2 hw
        refine z_callV (As := [_]) eX11_nameEnd sX11_nameEnd lX11_374 rfl dX11_beginTag_86 (hW.1 _ _ hT.1) hX (Nat.le_trans (by decide) hd) rfl (Nat.le_of_ble_eq_true rfl) (fun r cs hp => ?_)
        obtain ⟨r21, S22, rfl, hw, hW⟩ := hp
        refine z_st (st' := [.int (Int32.ofInt (r21))]) rfl ?_
        refine z_istore dX11_beginTag_89 (by decide) ?_
        refine z_loc (L' := [(0, .ref (G.1 + 54)), (1, .int (Int32.ofInt (a1))), (2, .int (Int32.ofInt (a2))), (3, .int (Int32.ofInt (a3))), (4, .int (Int32.ofInt (r21))), (5, .int (Int32.ofInt (S7.1 54 43)))]) (List.forall_mem_cons.mpr ⟨rfl, (List.forall_mem_cons.mpr ⟨rfl, (List.forall_mem_cons.mpr ⟨rfl, (List.forall_mem_cons.mpr ⟨rfl, (List.forall_mem_cons.mpr ⟨rfl, (List.forall_mem_cons.mpr ⟨rfl, (fun _ h => nomatch h)⟩)⟩)⟩)⟩)⟩)⟩) ?_
        refine z_aload_n dX11_beginTag_91 rfl rfl ?_
        refine g_getR hW hT.1 mr46 kX11 fX11_111 dX11_beginTag_92 ?_
        refine z_iload dX11_beginTag_95 rfl ?_
        refine z_iload dX11_beginTag_97 rfl ?_
        refine z_aload_n dX11_beginTag_99 rfl rfl ?_
        refine g_getR hW hT.1 mr45 kX11 fX11_108 dX11_beginTag_100 ?_
        refine z_iload dX11_beginTag_103 rfl ?_
        obtain ⟨q23a, q23b, hw⟩ := hw
        have q24 : iv 0 3000 (S22.2 86 (S7.1 54 43)) := mA86 hW _
        have hw := hw q24
        refine g_iald hW (ma86 hT) q23a q23b (by decide) dX11_beginTag_105 ?_
        refine i_isub dX11_beginTag_106 ?_
        obtain ⟨q25a, q25b, hw⟩ := hw
        obtain ⟨q27, hw⟩ := hw
        refine g_iast hJ hW (ma87 hT) q25a q25b (by decide) q27 dX11_beginTag_107 (fun cs hW => ?_)
        obtain ⟨S26, hS26⟩ : ∃ x, x = pA S22 87 (S7.1 54 43) ((r21 - S22.2 86 (S7.1 54 43))) := ⟨_, rfl⟩
        rw [← hS26] at hW
        have hw := hw S26 hS26
        refine z_aload_n dX11_beginTag_108 rfl rfl ?_
        refine g_getR hW hT.1 mr47 kX11 fX11_114 dX11_beginTag_109 ?_
        refine z_iload dX11_beginTag_112 rfl ?_
        refine z_iload_n dX11_beginTag_114 rfl rfl ?_
        obtain ⟨q28a, q28b, hw⟩ := hw
        obtain ⟨q30, hw⟩ := hw
        refine g_iast hJ hW (ma88 hT) q28a q28b (by decide) q30 dX11_beginTag_115 (fun cs hW => ?_)
        obtain ⟨S29, hS29⟩ : ∃ x, x = pA S26 88 (S7.1 54 43) (a2) := ⟨_, rfl⟩
        rw [← hS29] at hW
        have hw := hw S29 hS29
        refine z_aload_n dX11_beginTag_116 rfl rfl ?_
        refine g_getR hW hT.1 mr48 kX11 fX11_117 dX11_beginTag_117 ?_
        refine z_iload dX11_beginTag_120 rfl ?_
        refine z_iconst (v := Int32.ofInt 1) dX11_beginTag_122 rfl ?_
        obtain ⟨q31a, q31b, hw⟩ := hw
        refine g_iast hJ hW (ma89 hT) q31a q31b (by decide) ⟨by decide, by decide⟩ dX11_beginTag_123 (fun cs hW => ?_)
        obtain ⟨S32, hS32⟩ : ∃ x, x = pA S29 89 (S7.1 54 43) (1) := ⟨_, rfl⟩
        rw [← hS32] at hW
        have hw := hw S32 hS32
        refine z_iconst (v := Int32.ofInt 0) dX11_beginTag_124 rfl ?_
        refine z_istore dX11_beginTag_125 (by decide) ?_
        refine z_loc (L' := [(0, .ref (G.1 + 54)), (1, .int (Int32.ofInt (a1))), (2, .int (Int32.ofInt (a2))), (3, .int (Int32.ofInt (a3))), (4, .int (Int32.ofInt (r21))), (5, .int (Int32.ofInt (S7.1 54 43))), (6, .int (Int32.ofInt (0)))]) (List.forall_mem_cons.mpr ⟨rfl, (List.forall_mem_cons.mpr ⟨rfl, (List.forall_mem_cons.mpr ⟨rfl, (List.forall_mem_cons.mpr ⟨rfl, (List.forall_mem_cons.mpr ⟨rfl, (List.forall_mem_cons.mpr ⟨rfl, (List.forall_mem_cons.mpr ⟨rfl, (fun _ h => nomatch h)⟩)⟩)⟩)⟩)⟩)⟩)⟩) ?_
        refine z_loc (L' := [(0, .ref (G.1 + 54)), (2, .int (Int32.ofInt (a2))), (4, .int (Int32.ofInt (r21))), (5, .int (Int32.ofInt (S7.1 54 43))), (6, .int (Int32.ofInt (0)))]) (List.forall_mem_cons.mpr ⟨rfl, (List.forall_mem_cons.mpr ⟨rfl, (List.forall_mem_cons.mpr ⟨rfl, (List.forall_mem_cons.mpr ⟨rfl, (List.forall_mem_cons.mpr ⟨rfl, (fun _ h => nomatch h)⟩)⟩)⟩)⟩)⟩) ?_
        exact bX11_beginTag_127 hd hJ hT hW hP  hw
      · have hw := hw.2 h12
        refine z_loc (L' := [(0, .ref (G.1 + 54)), (1, .int (Int32.ofInt (a1))), (4, .int (Int32.ofInt (x1)))]) (List.forall_mem_cons.mpr ⟨rfl, (List.forall_mem_cons.mpr ⟨rfl, (List.forall_mem_cons.mpr ⟨rfl, (fun _ h => nomatch h)⟩)⟩)⟩) ?_
        exact bX11_beginTag_42 hd hJ hT hW hP  hw
  · have hw := hw.2 h8
    refine z_aload_n dX11_beginTag_17 rfl rfl ?_
    refine z_iload dX11_beginTag_18 rfl ?_
    have hX := lX11_fail 0 (Nat.le_refl _) hJ hT hW q2 hw
    refine z_callV (As := [_]) eX11_fail sX11_fail lX11_362 rfl dX11_beginTag_20 (hW.1 _ _ hT.1) hX (Nat.le_trans (by decide) hd) rfl (Nat.le_of_ble_eq_true rfl) (fun r cs hp => ?_)
    obtain ⟨r33, S34, rfl, hw, hW⟩ := hp
    refine z_st (st' := []) rfl ?_
    refine z_iload dX11_beginTag_23 rfl ?_
    exact z_ireturn dX11_beginTag_25 rfl rfl (hP _ _ _ hw hW)

