def wX11_parse_300 (l1 : Int) (S : St) (K : Int → St → Prop) : Prop := (iv (-2) 4000 (S.1 54 59) → ((S.1 54 59 = (-2) → (rng (l1) ∧ (wX11_blanksFrom (l1) S (fun r4 S5 => (iv 0 3000 (S5.1 54 41) → (rng (r4) ∧ ((S5.1 54 41 ≤ r4 → K 0 S5) ∧ ((¬ (S5.1 54 41 ≤ r4)) → (wX11_fail (r4) S5 (fun r9 S10 => K 0 S10)))))))))) ∧ ((¬ (S.1 54 59 = (-2))) → K 0 S)))
set_option maxRecDepth 100000 in
set_option maxHeartbeats 4000000 in
theorem bX11_parse_300 {G : xG} {sh : Nat → Option Sh} {J : St → List va_E → Prop} {d : Nat} {Post : xP} {l1 : Int} {S : St} {cs : List va_E} {K : Int → St → Prop} (hd : 6 ≤ d) (hJ : Stb sh J) (hT : isM sh) (hW : Wd G sh mT J S cs) (hP : ∀ (v : Int) (S : St) (cs : List va_E), K v S → Wd G sh mT J S cs → Post (none) cs)  (hw : wX11_parse_300 l1 S K ) : Z (RX11, cX11_parse, 8, none, false) G d Post 300 [(0, .ref (G.1 + 54)), (1, .int (Int32.ofInt (l1)))] [] cs := by
  unfold wX11_parse_300 at hw
  refine z_aload_n dX11_parse_300 rfl rfl ?_
  have q1 : iv (-2) 4000 (S.1 54 59) := mI59 hW
  have hw := hw q1
  refine g_getI hW hT.1 mr59 kX11 fX11_343 dX11_parse_301 ?_
  refine z_bipush (v := Int32.ofInt (-2)) dX11_parse_304 (by decide) ?_
  refine i_icmp_eq (tgt := 310) dX11_parse_306 (by decide) (rngq q1 (by decide) (by decide)) ⟨by decide, by decide⟩ (fun h2 => ?_) (fun h2 => ?_)
  · have hw := hw.1 h2
    refine z_aload_n dX11_parse_310 rfl rfl ?_
    refine z_iload_n dX11_parse_311 rfl rfl ?_
    obtain ⟨q3, hw⟩ := hw
    have hX := lX11_blanksFrom 1 (Nat.le_refl _) hJ hT hW q3 hw
    refine z_callV (As := [_]) eX11_blanksFrom sX11_blanksFrom lX11_389 rfl dX11_parse_312 (hW.1 _ _ hT.1) hX (Nat.le_trans (by decide) hd) rfl (Nat.le_of_ble_eq_true rfl) (fun r cs hp => ?_)
    obtain ⟨r4, S5, rfl, hw, hW⟩ := hp
    refine z_st (st' := [.int (Int32.ofInt (r4))]) rfl ?_
    refine z_istore_n dX11_parse_315 rfl (by decide) ?_
    refine z_loc (L' := [(0, .ref (G.1 + 54)), (1, .int (Int32.ofInt (r4)))]) (List.forall_mem_cons.mpr ⟨rfl, (List.forall_mem_cons.mpr ⟨rfl, (fun _ h => nomatch h)⟩)⟩) ?_
    refine z_iload_n dX11_parse_316 rfl rfl ?_
    refine z_aload_n dX11_parse_317 rfl rfl ?_
    have q6 : iv 0 3000 (S5.1 54 41) := mI41 hW
    have hw := hw q6
    refine g_getI hW hT.1 mr41 kX11 fX11_340 dX11_parse_318 ?_
    obtain ⟨q8, hw⟩ := hw
    refine i_icmp_ge (tgt := 329) dX11_parse_321 (by decide) q8 (rngq q6 (by decide) (by decide)) (fun h7 => ?_) (fun h7 => ?_)
    · have hw := hw.1 h7
      exact z_return dX11_parse_329 rfl (hP 0 _ _ hw hW)
    · have hw := hw.2 h7
      refine z_aload_n dX11_parse_324 rfl rfl ?_
      refine z_iload_n dX11_parse_325 rfl rfl ?_
      have hX := lX11_fail 0 (Nat.le_refl _) hJ hT hW q8 hw
      refine z_callV (As := [_]) eX11_fail sX11_fail lX11_362 rfl dX11_parse_326 (hW.1 _ _ hT.1) hX (Nat.le_trans (by decide) hd) rfl (Nat.le_of_ble_eq_true rfl) (fun r cs hp => ?_)
      obtain ⟨r9, S10, rfl, hw, hW⟩ := hp
      refine z_st (st' := []) rfl ?_
      exact z_return dX11_parse_329 rfl (hP 0 _ _ hw hW)
  · have hw := hw.2 h2
    exact z_return dX11_parse_309 rfl (hP 0 _ _ hw hW)
def wX11_parse_297 (l1 l2 l3 l4 : Int) (S : St) (K : Int → St → Prop) (B51 : Int → Int → Int → Int → St → Prop) : Prop := B51 (l1) (l2) (l3) (l4) S
set_option maxRecDepth 100000 in
set_option maxHeartbeats 4000000 in
theorem bX11_parse_297 {G : xG} {sh : Nat → Option Sh} {J : St → List va_E → Prop} {d : Nat} {Post : xP} {l1 l2 l3 l4 : Int} {S : St} {cs : List va_E} {K : Int → St → Prop} {B51 : Int → Int → Int → Int → St → Prop} (hd : 6 ≤ d) (hJ : Stb sh J) (hT : isM sh) (hW : Wd G sh mT J S cs) (hP : ∀ (v : Int) (S : St) (cs : List va_E), K v S → Wd G sh mT J S cs → Post (none) cs) (hB51 : ∀ (l1 : Int) (l2 : Int) (l3 : Int) (l4 : Int) (S : St) (cs : List va_E), B51 l1 l2 l3 l4 S → Wd G sh mT J S cs → Z (RX11, cX11_parse, 8, none, false) G d Post 51 [(0, .ref (G.1 + 54)), (1, .int (Int32.ofInt (l1))), (2, .int (Int32.ofInt (l2))), (3, .int (Int32.ofInt (l3))), (4, .int (Int32.ofInt (l4)))] [] cs) (hw : wX11_parse_297 l1 l2 l3 l4 S K B51) : Z (RX11, cX11_parse, 8, none, false) G d Post 297 [(0, .ref (G.1 + 54)), (1, .int (Int32.ofInt (l1))), (2, .int (Int32.ofInt (l2))), (3, .int (Int32.ofInt (l3))), (4, .int (Int32.ofInt (l4)))] [] cs := by
  unfold wX11_parse_297 at hw
  refine z_goto (tgt := 51) dX11_parse_297 (by decide) ?_
  refine z_loc (L' := [(0, .ref (G.1 + 54)), (1, .int (Int32.ofInt (l1))), (2, .int (Int32.ofInt (l2))), (3, .int (Int32.ofInt (l3))), (4, .int (Int32.ofInt (l4)))]) (List.forall_mem_cons.mpr ⟨rfl, (List.forall_mem_cons.mpr ⟨rfl, (List.forall_mem_cons.mpr ⟨rfl, (List.forall_mem_cons.mpr ⟨rfl, (List.forall_mem_cons.mpr ⟨rfl, (fun _ h => nomatch h)⟩)⟩)⟩)⟩)⟩) ?_
  exact hB51 _ _ _ _ _ _ hw hW
def wX11_parse_295 (l1 l2 l3 s0 : Int) (S : St) (K : Int → St → Prop) (B51 : Int → Int → Int → Int → St → Prop) : Prop := wX11_parse_297 (l1) (l2) (l3) (s0) S K B51
set_option maxRecDepth 100000 in
set_option maxHeartbeats 4000000 in
theorem bX11_parse_295 {G : xG} {sh : Nat → Option Sh} {J : St → List va_E → Prop} {d : Nat} {Post : xP} {l1 l2 l3 s0 : Int} {S : St} {cs : List va_E} {K : Int → St → Prop} {B51 : Int → Int → Int → Int → St → Prop} (hd : 6 ≤ d) (hJ : Stb sh J) (hT : isM sh) (hW : Wd G sh mT J S cs) (hP : ∀ (v : Int) (S : St) (cs : List va_E), K v S → Wd G sh mT J S cs → Post (none) cs) (hB51 : ∀ (l1 : Int) (l2 : Int) (l3 : Int) (l4 : Int) (S : St) (cs : List va_E), B51 l1 l2 l3 l4 S → Wd G sh mT J S cs → Z (RX11, cX11_parse, 8, none, false) G d Post 51 [(0, .ref (G.1 + 54)), (1, .int (Int32.ofInt (l1))), (2, .int (Int32.ofInt (l2))), (3, .int (Int32.ofInt (l3))), (4, .int (Int32.ofInt (l4)))] [] cs) (hw : wX11_parse_295 l1 l2 l3 s0 S K B51) : Z (RX11, cX11_parse, 8, none, false) G d Post 295 [(0, .ref (G.1 + 54)), (1, .int (Int32.ofInt (l1))), (2, .int (Int32.ofInt (l2))), (3, .int (Int32.ofInt (l3)))] [.int (Int32.ofInt (s0))] cs := by
  unfold wX11_parse_295 at hw
  refine z_istore dX11_parse_295 (by decide) ?_
  refine z_loc (L' := [(0, .ref (G.1 + 54)), (1, .int (Int32.ofInt (l1))), (2, .int (Int32.ofInt (l2))), (3, .int (Int32.ofInt (l3))), (4, .int (Int32.ofInt (s0)))]) (List.forall_mem_cons.mpr ⟨rfl, (List.forall_mem_cons.mpr ⟨rfl, (List.forall_mem_cons.mpr ⟨rfl, (List.forall_mem_cons.mpr ⟨rfl, (List.forall_mem_cons.mpr ⟨rfl, (fun _ h => nomatch h)⟩)⟩)⟩)⟩)⟩) ?_
  refine z_loc (L' := [(0, .ref (G.1 + 54)), (1, .int (Int32.ofInt (l1))), (2, .int (Int32.ofInt (l2))), (3, .int (Int32.ofInt (l3))), (4, .int (Int32.ofInt (s0)))]) (List.forall_mem_cons.mpr ⟨rfl, (List.forall_mem_cons.mpr ⟨rfl, (List.forall_mem_cons.mpr ⟨rfl, (List.forall_mem_cons.mpr ⟨rfl, (List.forall_mem_cons.mpr ⟨rfl, (fun _ h => nomatch h)⟩)⟩)⟩)⟩)⟩) ?_
  exact bX11_parse_297 hd hJ hT hW hP hB51 hw
def wX11_parse_283 (l1 l3 s0 : Int) (S : St) (K : Int → St → Prop) (B51 : Int → Int → Int → Int → St → Prop) : Prop := (rng (s0) ∧ ((s0 = (-2) → wX11_parse_295 (l1) (s0) (l3) (0) S K B51) ∧ ((¬ (s0 = (-2))) → wX11_parse_295 (l1) (s0) (l3) (1) S K B51)))
set_option maxRecDepth 100000 in
set_option maxHeartbeats 4000000 in
theorem bX11_parse_283 {G : xG} {sh : Nat → Option Sh} {J : St → List va_E → Prop} {d : Nat} {Post : xP} {l1 l3 s0 : Int} {S : St} {cs : List va_E} {K : Int → St → Prop} {B51 : Int → Int → Int → Int → St → Prop} (hd : 6 ≤ d) (hJ : Stb sh J) (hT : isM sh) (hW : Wd G sh mT J S cs) (hP : ∀ (v : Int) (S : St) (cs : List va_E), K v S → Wd G sh mT J S cs → Post (none) cs) (hB51 : ∀ (l1 : Int) (l2 : Int) (l3 : Int) (l4 : Int) (S : St) (cs : List va_E), B51 l1 l2 l3 l4 S → Wd G sh mT J S cs → Z (RX11, cX11_parse, 8, none, false) G d Post 51 [(0, .ref (G.1 + 54)), (1, .int (Int32.ofInt (l1))), (2, .int (Int32.ofInt (l2))), (3, .int (Int32.ofInt (l3))), (4, .int (Int32.ofInt (l4)))] [] cs) (hw : wX11_parse_283 l1 l3 s0 S K B51) : Z (RX11, cX11_parse, 8, none, false) G d Post 283 [(0, .ref (G.1 + 54)), (1, .int (Int32.ofInt (l1))), (3, .int (Int32.ofInt (l3)))] [.int (Int32.ofInt (s0))] cs := by
  unfold wX11_parse_283 at hw
  refine z_istore_n dX11_parse_283 rfl (by decide) ?_
  refine z_loc (L' := [(0, .ref (G.1 + 54)), (1, .int (Int32.ofInt (l1))), (2, .int (Int32.ofInt (s0))), (3, .int (Int32.ofInt (l3)))]) (List.forall_mem_cons.mpr ⟨rfl, (List.forall_mem_cons.mpr ⟨rfl, (List.forall_mem_cons.mpr ⟨rfl, (List.forall_mem_cons.mpr ⟨rfl, (fun _ h => nomatch h)⟩)⟩)⟩)⟩) ?_
  refine z_iload_n dX11_parse_284 rfl rfl ?_
  refine z_bipush (v := Int32.ofInt (-2)) dX11_parse_285 (by decide) ?_
  obtain ⟨q2, hw⟩ := hw
  refine i_icmp_eq (tgt := 294) dX11_parse_287 (by decide) q2 ⟨by decide, by decide⟩ (fun h1 => ?_) (fun h1 => ?_)
  · have hw := hw.1 h1
    refine z_iconst (v := Int32.ofInt 0) dX11_parse_294 rfl ?_
    refine z_loc (L' := [(0, .ref (G.1 + 54)), (1, .int (Int32.ofInt (l1))), (2, .int (Int32.ofInt (s0))), (3, .int (Int32.ofInt (l3)))]) (List.forall_mem_cons.mpr ⟨rfl, (List.forall_mem_cons.mpr ⟨rfl, (List.forall_mem_cons.mpr ⟨rfl, (List.forall_mem_cons.mpr ⟨rfl, (fun _ h => nomatch h)⟩)⟩)⟩)⟩) ?_
    exact bX11_parse_295 hd hJ hT hW hP hB51 hw
  · have hw := hw.2 h1
    refine z_iconst (v := Int32.ofInt 1) dX11_parse_290 rfl ?_
    refine z_goto (tgt := 295) dX11_parse_291 (by decide) ?_
    refine z_loc (L' := [(0, .ref (G.1 + 54)), (1, .int (Int32.ofInt (l1))), (2, .int (Int32.ofInt (s0))), (3, .int (Int32.ofInt (l3)))]) (List.forall_mem_cons.mpr ⟨rfl, (List.forall_mem_cons.mpr ⟨rfl, (List.forall_mem_cons.mpr ⟨rfl, (List.forall_mem_cons.mpr ⟨rfl, (fun _ h => nomatch h)⟩)⟩)⟩)⟩) ?_
    exact bX11_parse_295 hd hJ hT hW hP hB51 hw
def wX11_parse_265 (l1 l2 s0 : Int) (S : St) (K : Int → St → Prop) (B51 : Int → Int → Int → Int → St → Prop) : Prop := (iv 0 1 (S.1 54 60) → ((S.1 54 60 = 0 → wX11_parse_283 (l1) (s0) (l2) S K B51) ∧ ((¬ (S.1 54 60 = 0)) → (iv 0 200 (S.1 54 43) → wX11_parse_283 (l1) (s0) ((S.1 54 43 - 1)) S K B51))))
set_option maxRecDepth 100000 in
set_option maxHeartbeats 4000000 in
theorem bX11_parse_265 {G : xG} {sh : Nat → Option Sh} {J : St → List va_E → Prop} {d : Nat} {Post : xP} {l1 l2 s0 : Int} {S : St} {cs : List va_E} {K : Int → St → Prop} {B51 : Int → Int → Int → Int → St → Prop} (hd : 6 ≤ d) (hJ : Stb sh J) (hT : isM sh) (hW : Wd G sh mT J S cs) (hP : ∀ (v : Int) (S : St) (cs : List va_E), K v S → Wd G sh mT J S cs → Post (none) cs) (hB51 : ∀ (l1 : Int) (l2 : Int) (l3 : Int) (l4 : Int) (S : St) (cs : List va_E), B51 l1 l2 l3 l4 S → Wd G sh mT J S cs → Z (RX11, cX11_parse, 8, none, false) G d Post 51 [(0, .ref (G.1 + 54)), (1, .int (Int32.ofInt (l1))), (2, .int (Int32.ofInt (l2))), (3, .int (Int32.ofInt (l3))), (4, .int (Int32.ofInt (l4)))] [] cs) (hw : wX11_parse_265 l1 l2 s0 S K B51) : Z (RX11, cX11_parse, 8, none, false) G d Post 265 [(0, .ref (G.1 + 54)), (1, .int (Int32.ofInt (l1))), (2, .int (Int32.ofInt (l2)))] [.int (Int32.ofInt (s0))] cs := by
  unfold wX11_parse_265 at hw
  refine z_istore_n dX11_parse_265 rfl (by decide) ?_
  refine z_loc (L' := [(0, .ref (G.1 + 54)), (1, .int (Int32.ofInt (l1))), (2, .int (Int32.ofInt (l2))), (3, .int (Int32.ofInt (s0)))]) (List.forall_mem_cons.mpr ⟨rfl, (List.forall_mem_cons.mpr ⟨rfl, (List.forall_mem_cons.mpr ⟨rfl, (List.forall_mem_cons.mpr ⟨rfl, (fun _ h => nomatch h)⟩)⟩)⟩)⟩) ?_
  refine z_aload_n dX11_parse_266 rfl rfl ?_
  have q1 : iv 0 1 (S.1 54 60) := mI60 hW
  have hw := hw q1
  refine g_getI hW hT.1 mr60 kX11 fX11_395 dX11_parse_267 ?_
  refine i_if_eq (tgt := 282) dX11_parse_270 (by decide) (rngq q1 (by decide) (by decide)) (fun h2 => ?_) (fun h2 => ?_)
  · have hw := hw.1 h2
    refine z_iload_n dX11_parse_282 rfl rfl ?_
    refine z_loc (L' := [(0, .ref (G.1 + 54)), (1, .int (Int32.ofInt (l1))), (3, .int (Int32.ofInt (s0)))]) (List.forall_mem_cons.mpr ⟨rfl, (List.forall_mem_cons.mpr ⟨rfl, (List.forall_mem_cons.mpr ⟨rfl, (fun _ h => nomatch h)⟩)⟩)⟩) ?_
    exact bX11_parse_283 hd hJ hT hW hP hB51 hw
  · have hw := hw.2 h2
    refine z_aload_n dX11_parse_273 rfl rfl ?_
    have q3 : iv 0 200 (S.1 54 43) := mI43 hW
    have hw := hw q3
    refine g_getI hW hT.1 mr43 kX11 fX11_386 dX11_parse_274 ?_
    refine z_iconst (v := Int32.ofInt 1) dX11_parse_277 rfl ?_
    refine i_isub dX11_parse_278 ?_
    refine z_goto (tgt := 283) dX11_parse_279 (by decide) ?_
    refine z_loc (L' := [(0, .ref (G.1 + 54)), (1, .int (Int32.ofInt (l1))), (3, .int (Int32.ofInt (s0)))]) (List.forall_mem_cons.mpr ⟨rfl, (List.forall_mem_cons.mpr ⟨rfl, (List.forall_mem_cons.mpr ⟨rfl, (fun _ h => nomatch h)⟩)⟩)⟩) ?_
    exact bX11_parse_283 hd hJ hT hW hP hB51 hw
def wX11_parse_225 (l1 l2 l3 l4 l7 : Int) (S : St) (K : Int → St → Prop) (B51 : Int → Int → Int → Int → St → Prop) : Prop := (rng (l7) ∧ ((l7 = 0 → (∀ S3, S3 = pI S 54 60 (0) → (rng (l1) ∧ (rng (l2) ∧ (rng (l3) ∧ (wX11_beginTag (l1) (l2) (l3) S3 (fun r7 S8 => (iv 0 1 (S8.1 54 60) → ((S8.1 54 60 = 0 → wX11_parse_265 (r7) (l2) (l3) S8 K B51) ∧ ((¬ (S8.1 54 60 = 0)) → wX11_parse_265 (r7) (l2) ((l3 + 1)) S8 K B51)))))))))) ∧ ((¬ (l7 = 0)) → (rng (l1) ∧ (wX11_fail (l1) S (fun r12 S13 => wX11_parse_297 (l1) (l2) (l3) (l4) S13 K B51))))))
set_option maxRecDepth 100000 in
set_option maxHeartbeats 4000000 in
theorem bX11_parse_225 {G : xG} {sh : Nat → Option Sh} {J : St → List va_E → Prop} {d : Nat} {Post : xP} {l1 l2 l3 l4 l7 : Int} {S : St} {cs : List va_E} {K : Int → St → Prop} {B51 : Int → Int → Int → Int → St → Prop} (hd : 6 ≤ d) (hJ : Stb sh J) (hT : isM sh) (hW : Wd G sh mT J S cs) (hP : ∀ (v : Int) (S : St) (cs : List va_E), K v S → Wd G sh mT J S cs → Post (none) cs) (hB51 : ∀ (l1 : Int) (l2 : Int) (l3 : Int) (l4 : Int) (S : St) (cs : List va_E), B51 l1 l2 l3 l4 S → Wd G sh mT J S cs → Z (RX11, cX11_parse, 8, none, false) G d Post 51 [(0, .ref (G.1 + 54)), (1, .int (Int32.ofInt (l1))), (2, .int (Int32.ofInt (l2))), (3, .int (Int32.ofInt (l3))), (4, .int (Int32.ofInt (l4)))] [] cs) (hw : wX11_parse_225 l1 l2 l3 l4 l7 S K B51) : Z (RX11, cX11_parse, 8, none, false) G d Post 225 [(0, .ref (G.1 + 54)), (1, .int (Int32.ofInt (l1))), (2, .int (Int32.ofInt (l2))), (3, .int (Int32.ofInt (l3))), (4, .int (Int32.ofInt (l4))), (7, .int (Int32.ofInt (l7)))] [] cs := by
  unfold wX11_parse_225 at hw
  refine z_iload dX11_parse_225 rfl ?_
  obtain ⟨q2, hw⟩ := hw
  refine i_if_eq (tgt := 238) dX11_parse_227 (by decide) q2 (fun h1 => ?_) (fun h1 => ?_)
  · have hw := hw.1 h1
    refine z_aload_n dX11_parse_238 rfl rfl ?_
    refine z_iconst (v := Int32.ofInt 0) dX11_parse_239 rfl ?_
    refine g_putI hJ hW hT.1 mr60 kX11 fX11_395 dX11_parse_240 rfl (nar01 (by decide)) (fit01 (by decide)) ⟨by decide, by decide⟩ (fun cs hW => ?_)
    obtain ⟨S3, hS3⟩ : ∃ x, x = pI S 54 60 (0) := ⟨_, rfl⟩
    rw [← hS3] at hW
    have hw := hw S3 hS3
    refine z_aload_n dX11_parse_243 rfl rfl ?_
    refine z_iload_n dX11_parse_244 rfl rfl ?_
    refine z_iload_n dX11_parse_245 rfl rfl ?_
    refine z_iload_n dX11_parse_246 rfl rfl ?_
    obtain ⟨q4, hw⟩ := hw
    obtain ⟨q5, hw⟩ := hw
    obtain ⟨q6, hw⟩ := hw
    have hX := lX11_beginTag 5 (Nat.le_refl _) hJ hT hW q4 q5 q6 hw
    refine z_callV (As := [_, _, _]) eX11_beginTag sX11_beginTag lX11_408 rfl dX11_parse_247 (hW.1 _ _ hT.1) hX (Nat.le_trans (by decide) hd) rfl (Nat.le_of_ble_eq_true rfl) (fun r cs hp => ?_)
    obtain ⟨r7, S8, rfl, hw, hW⟩ := hp
    refine z_st (st' := [.int (Int32.ofInt (r7))]) rfl ?_
    refine z_istore_n dX11_parse_250 rfl (by decide) ?_
    refine z_loc (L' := [(0, .ref (G.1 + 54)), (1, .int (Int32.ofInt (r7))), (2, .int (Int32.ofInt (l2))), (3, .int (Int32.ofInt (l3))), (4, .int (Int32.ofInt (l4))), (7, .int (Int32.ofInt (l7)))]) (List.forall_mem_cons.mpr ⟨rfl, (List.forall_mem_cons.mpr ⟨rfl, (List.forall_mem_cons.mpr ⟨rfl, (List.forall_mem_cons.mpr ⟨rfl, (List.forall_mem_cons.mpr ⟨rfl, (List.forall_mem_cons.mpr ⟨rfl, (fun _ h => nomatch h)⟩)⟩)⟩)⟩)⟩)⟩) ?_
    refine z_aload_n dX11_parse_251 rfl rfl ?_
    have q9 : iv 0 1 (S8.1 54 60) := mI60 hW
    have hw := hw q9
    refine g_getI hW hT.1 mr60 kX11 fX11_395 dX11_parse_252 ?_
    refine i_if_eq (tgt := 264) dX11_parse_255 (by decide) (rngq q9 (by decide) (by decide)) (fun h10 => ?_) (fun h10 => ?_)
    · have hw := hw.1 h10
      refine z_iload_n dX11_parse_264 rfl rfl ?_
      refine z_loc (L' := [(0, .ref (G.1 + 54)), (1, .int (Int32.ofInt (r7))), (2, .int (Int32.ofInt (l2)))]) (List.forall_mem_cons.mpr ⟨rfl, (List.forall_mem_cons.mpr ⟨rfl, (List.forall_mem_cons.mpr ⟨rfl, (fun _ h => nomatch h)⟩)⟩)⟩) ?_
      exact bX11_parse_265 hd hJ hT hW hP hB51 hw
    · have hw := hw.2 h10
      refine z_iload_n dX11_parse_258 rfl rfl ?_
      refine z_iconst (v := Int32.ofInt 1) dX11_parse_259 rfl ?_
      refine i_iadd dX11_parse_260 ?_
      refine z_goto (tgt := 265) dX11_parse_261 (by decide) ?_
      refine z_loc (L' := [(0, .ref (G.1 + 54)), (1, .int (Int32.ofInt (r7))), (2, .int (Int32.ofInt (l2)))]) (List.forall_mem_cons.mpr ⟨rfl, (List.forall_mem_cons.mpr ⟨rfl, (List.forall_mem_cons.mpr ⟨rfl, (fun _ h => nomatch h)⟩)⟩)⟩) ?_
      exact bX11_parse_265 hd hJ hT hW hP hB51 hw
  · have hw := hw.2 h1
    refine z_aload_n dX11_parse_230 rfl rfl ?_
    refine z_iload_n dX11_parse_231 rfl rfl ?_
    obtain ⟨q11, hw⟩ := hw
    have hX := lX11_fail 0 (Nat.le_refl _) hJ hT hW q11 hw
    refine z_callV (As := [_]) eX11_fail sX11_fail lX11_362 rfl dX11_parse_232 (hW.1 _ _ hT.1) hX (Nat.le_trans (by decide) hd) rfl (Nat.le_of_ble_eq_true rfl) (fun r cs hp => ?_)
    obtain ⟨r12, S13, rfl, hw, hW⟩ := hp
    refine z_st (st' := []) rfl ?_
    refine z_goto (tgt := 297) dX11_parse_235 (by decide) ?_
    refine z_loc (L' := [(0, .ref (G.1 + 54)), (1, .int (Int32.ofInt (l1))), (2, .int (Int32.ofInt (l2))), (3, .int (Int32.ofInt (l3))), (4, .int (Int32.ofInt (l4)))]) (List.forall_mem_cons.mpr ⟨rfl, (List.forall_mem_cons.mpr ⟨rfl, (List.forall_mem_cons.mpr ⟨rfl, (List.forall_mem_cons.mpr ⟨rfl, (List.forall_mem_cons.mpr ⟨rfl, (fun _ h => nomatch h)⟩)⟩)⟩)⟩)⟩) ?_
    exact bX11_parse_297 hd hJ hT hW hP hB51 hw
def wX11_parse_200 (l1 l2 l3 l4 l6 l7 : Int) (S : St) (K : Int → St → Prop) (B51 : Int → Int → Int → Int → St → Prop) : Prop := (rng (l6) ∧ ((¬ l6 = 33 → wX11_parse_225 (l1) (l2) (l3) (l4) (l7) S K B51) ∧ ((¬ (¬ l6 = 33)) → (rng (l2) ∧ ((l2 = (-2) → wX11_parse_225 (l1) (l2) (l3) (l4) (l7) S K B51) ∧ ((¬ (l2 = (-2))) → (rng (l1) ∧ (rng (l7) ∧ (wX11_section (l1) (l2) (l7) S (fun r7 S8 => wX11_parse_297 (r7) (l2) (l3) (l4) S8 K B51))))))))))
set_option maxRecDepth 100000 in
set_option maxHeartbeats 4000000 in
theorem bX11_parse_200 {G : xG} {sh : Nat → Option Sh} {J : St → List va_E → Prop} {d : Nat} {Post : xP} {l1 l2 l3 l4 l6 l7 : Int} {S : St} {cs : List va_E} {K : Int → St → Prop} {B51 : Int → Int → Int → Int → St → Prop} (hd : 6 ≤ d) (hJ : Stb sh J) (hT : isM sh) (hW : Wd G sh mT J S cs) (hP : ∀ (v : Int) (S : St) (cs : List va_E), K v S → Wd G sh mT J S cs → Post (none) cs) (hB51 : ∀ (l1 : Int) (l2 : Int) (l3 : Int) (l4 : Int) (S : St) (cs : List va_E), B51 l1 l2 l3 l4 S → Wd G sh mT J S cs → Z (RX11, cX11_parse, 8, none, false) G d Post 51 [(0, .ref (G.1 + 54)), (1, .int (Int32.ofInt (l1))), (2, .int (Int32.ofInt (l2))), (3, .int (Int32.ofInt (l3))), (4, .int (Int32.ofInt (l4)))] [] cs) (hw : wX11_parse_200 l1 l2 l3 l4 l6 l7 S K B51) : Z (RX11, cX11_parse, 8, none, false) G d Post 200 [(0, .ref (G.1 + 54)), (1, .int (Int32.ofInt (l1))), (2, .int (Int32.ofInt (l2))), (3, .int (Int32.ofInt (l3))), (4, .int (Int32.ofInt (l4))), (6, .int (Int32.ofInt (l6))), (7, .int (Int32.ofInt (l7)))] [] cs := by
  unfold wX11_parse_200 at hw
  refine z_iload dX11_parse_200 rfl ?_
  refine z_bipush (v := Int32.ofInt 33) dX11_parse_202 (by decide) ?_
  obtain ⟨q2, hw⟩ := hw
  refine i_icmp_ne (tgt := 225) dX11_parse_204 (by decide) q2 ⟨by decide, by decide⟩ (fun h1 => ?_) (fun h1 => ?_)
  · have hw := hw.1 h1
    refine z_loc (L' := [(0, .ref (G.1 + 54)), (1, .int (Int32.ofInt (l1))), (2, .int (Int32.ofInt (l2))), (3, .int (Int32.ofInt (l3))), (4, .int (Int32.ofInt (l4))), (7, .int (Int32.ofInt (l7)))]) (List.forall_mem_cons.mpr ⟨rfl, (List.forall_mem_cons.mpr ⟨rfl, (List.forall_mem_cons.mpr ⟨rfl, (List.forall_mem_cons.mpr ⟨rfl, (List.forall_mem_cons.mpr ⟨rfl, (List.forall_mem_cons.mpr ⟨rfl, (fun _ h => nomatch h)⟩)⟩)⟩)⟩)⟩)⟩) ?_
    exact bX11_parse_225 hd hJ hT hW hP hB51 hw
  · have hw := hw.2 h1
    refine z_iload_n dX11_parse_207 rfl rfl ?_
    refine z_bipush (v := Int32.ofInt (-2)) dX11_parse_208 (by decide) ?_
    obtain ⟨q4, hw⟩ := hw
    refine i_icmp_eq (tgt := 225) dX11_parse_210 (by decide) q4 ⟨by decide, by decide⟩ (fun h3 => ?_) (fun h3 => ?_)
    · have hw := hw.1 h3
      refine z_loc (L' := [(0, .ref (G.1 + 54)), (1, .int (Int32.ofInt (l1))), (2, .int (Int32.ofInt (l2))), (3, .int (Int32.ofInt (l3))), (4, .int (Int32.ofInt (l4))), (7, .int (Int32.ofInt (l7)))]) (List.forall_mem_cons.mpr ⟨rfl, (List.forall_mem_cons.mpr ⟨rfl, (List.forall_mem_cons.mpr ⟨rfl, (List.forall_mem_cons.mpr ⟨rfl, (List.forall_mem_cons.mpr ⟨rfl, (List.forall_mem_cons.mpr ⟨rfl, (fun _ h => nomatch h)⟩)⟩)⟩)⟩)⟩)⟩) ?_
      exact bX11_parse_225 hd hJ hT hW hP hB51 hw
    · have hw := hw.2 h3
      refine z_aload_n dX11_parse_213 rfl rfl ?_
      refine z_iload_n dX11_parse_214 rfl rfl ?_
      refine z_iload_n dX11_parse_215 rfl rfl ?_
      refine z_iload dX11_parse_216 rfl ?_
      obtain ⟨q5, hw⟩ := hw
      obtain ⟨q6, hw⟩ := hw
      have hX := lX11_section 1 (Nat.le_refl _) hJ hT hW q5 q4 q6 hw
      refine z_callV (As := [_, _, _]) eX11_section sX11_section lX11_404 rfl dX11_parse_218 (hW.1 _ _ hT.1) hX (Nat.le_trans (by decide) hd) rfl (Nat.le_of_ble_eq_true rfl) (fun r cs hp => ?_)
      obtain ⟨r7, S8, rfl, hw, hW⟩ := hp
      refine z_st (st' := [.int (Int32.ofInt (r7))]) rfl ?_
      refine z_istore_n dX11_parse_221 rfl (by decide) ?_
      refine z_loc (L' := [(0, .ref (G.1 + 54)), (1, .int (Int32.ofInt (r7))), (2, .int (Int32.ofInt (l2))), (3, .int (Int32.ofInt (l3))), (4, .int (Int32.ofInt (l4))), (6, .int (Int32.ofInt (l6))), (7, .int (Int32.ofInt (l7)))]) (List.forall_mem_cons.mpr ⟨rfl, (List.forall_mem_cons.mpr ⟨rfl, (List.forall_mem_cons.mpr ⟨rfl, (List.forall_mem_cons.mpr ⟨rfl, (List.forall_mem_cons.mpr ⟨rfl, (List.forall_mem_cons.mpr ⟨rfl, (List.forall_mem_cons.mpr ⟨rfl, (fun _ h => nomatch h)⟩)⟩)⟩)⟩)⟩)⟩)⟩) ?_
      refine z_goto (tgt := 297) dX11_parse_222 (by decide) ?_
      refine z_loc (L' := [(0, .ref (G.1 + 54)), (1, .int (Int32.ofInt (r7))), (2, .int (Int32.ofInt (l2))), (3, .int (Int32.ofInt (l3))), (4, .int (Int32.ofInt (l4)))]) (List.forall_mem_cons.mpr ⟨rfl, (List.forall_mem_cons.mpr ⟨rfl, (List.forall_mem_cons.mpr ⟨rfl, (List.forall_mem_cons.mpr ⟨rfl, (List.forall_mem_cons.mpr ⟨rfl, (fun _ h => nomatch h)⟩)⟩)⟩)⟩)⟩) ?_
      exact bX11_parse_297 hd hJ hT hW hP hB51 hw
def wX11_parse_195 (l1 l2 l3 s0 : Int) (S : St) (K : Int → St → Prop) (B51 : Int → Int → Int → Int → St → Prop) : Prop := wX11_parse_297 (l1) (l2) (l3) (s0) S K B51
set_option maxRecDepth 100000 in
set_option maxHeartbeats 4000000 in
theorem bX11_parse_195 {G : xG} {sh : Nat → Option Sh} {J : St → List va_E → Prop} {d : Nat} {Post : xP} {l1 l2 l3 s0 : Int} {S : St} {cs : List va_E} {K : Int → St → Prop} {B51 : Int → Int → Int → Int → St → Prop} (hd : 6 ≤ d) (hJ : Stb sh J) (hT : isM sh) (hW : Wd G sh mT J S cs) (hP : ∀ (v : Int) (S : St) (cs : List va_E), K v S → Wd G sh mT J S cs → Post (none) cs) (hB51 : ∀ (l1 : Int) (l2 : Int) (l3 : Int) (l4 : Int) (S : St) (cs : List va_E), B51 l1 l2 l3 l4 S → Wd G sh mT J S cs → Z (RX11, cX11_parse, 8, none, false) G d Post 51 [(0, .ref (G.1 + 54)), (1, .int (Int32.ofInt (l1))), (2, .int (Int32.ofInt (l2))), (3, .int (Int32.ofInt (l3))), (4, .int (Int32.ofInt (l4)))] [] cs) (hw : wX11_parse_195 l1 l2 l3 s0 S K B51) : Z (RX11, cX11_parse, 8, none, false) G d Post 195 [(0, .ref (G.1 + 54)), (1, .int (Int32.ofInt (l1))), (2, .int (Int32.ofInt (l2))), (3, .int (Int32.ofInt (l3)))] [.int (Int32.ofInt (s0))] cs := by
  unfold wX11_parse_195 at hw
  refine z_istore dX11_parse_195 (by decide) ?_
  refine z_loc (L' := [(0, .ref (G.1 + 54)), (1, .int (Int32.ofInt (l1))), (2, .int (Int32.ofInt (l2))), (3, .int (Int32.ofInt (l3))), (4, .int (Int32.ofInt (s0)))]) (List.forall_mem_cons.mpr ⟨rfl, (List.forall_mem_cons.mpr ⟨rfl, (List.forall_mem_cons.mpr ⟨rfl, (List.forall_mem_cons.mpr ⟨rfl, (List.forall_mem_cons.mpr ⟨rfl, (fun _ h => nomatch h)⟩)⟩)⟩)⟩)⟩) ?_
  refine z_goto (tgt := 297) dX11_parse_197 (by decide) ?_
  refine z_loc (L' := [(0, .ref (G.1 + 54)), (1, .int (Int32.ofInt (l1))), (2, .int (Int32.ofInt (l2))), (3, .int (Int32.ofInt (l3))), (4, .int (Int32.ofInt (s0)))]) (List.forall_mem_cons.mpr ⟨rfl, (List.forall_mem_cons.mpr ⟨rfl, (List.forall_mem_cons.mpr ⟨rfl, (List.forall_mem_cons.mpr ⟨rfl, (List.forall_mem_cons.mpr ⟨rfl, (fun _ h => nomatch h)⟩)⟩)⟩)⟩)⟩) ?_
  exact bX11_parse_297 hd hJ hT hW hP hB51 hw
def wX11_parse_102 (l1 l2 l3 l4 l5 l6 s0 : Int) (S : St) (K : Int → St → Prop) (B51 : Int → Int → Int → Int → St → Prop) : Prop := (rng (l5) ∧ ((0 ≤ l5 → ((¬ l5 = 38 → ((l5 = 60 → (rng (l6) ∧ ((¬ l6 = 47 → wX11_parse_200 (l1) (l2) (l3) (l4) (l6) (s0) S K B51) ∧ ((¬ (¬ l6 = 47)) → (rng (l2) ∧ ((l2 = (-2) → wX11_parse_200 (l1) (l2) (l3) (l4) (l6) (s0) S K B51) ∧ ((¬ (l2 = (-2))) → (rng (l1) ∧ (wX11_endTag (l1) (l2) S (fun r10 S11 => ((0 : Int) ≤ l2 ∧ l2 < (200 : Int) ∧ (iv (-2) 199 (S11.2 88 (l2)) → (∀ x14 : Int, x14 = S11.2 88 (l2) → ((x14 = (-2) → wX11_parse_195 (r10) (x14) ((l3 + (-1))) (0) S11 K B51) ∧ ((¬ (x14 = (-2))) → wX11_parse_195 (r10) (x14) ((l3 + (-1))) (1) S11 K B51))))))))))))))) ∧ ((¬ (l5 = 60)) → (rng (l2) ∧ (wX11_keep (l5) (l2) S (fun r19 S20 => wX11_parse_297 ((l1 + 1)) (l2) (l3) (l4) S20 K B51)))))) ∧ ((¬ (¬ l5 = 38)) → (rng (l1) ∧ (rng (l2) ∧ (wX11_reference (l1) (l2) S (fun r23 S24 => wX11_parse_297 (r23) (l2) (l3) (l4) S24 K B51))))))) ∧ ((¬ (0 ≤ l5)) → (rng (l1) ∧ (wX11_fail (l1) S (fun r26 S27 => wX11_parse_297 (l1) (l2) (l3) (l4) S27 K B51))))))
set_option maxRecDepth 100000 in
set_option maxHeartbeats 4000000 in
theorem bX11_parse_102 {G : xG} {sh : Nat → Option Sh} {J : St → List va_E → Prop} {d : Nat} {Post : xP} {l1 l2 l3 l4 l5 l6 s0 : Int} {S : St} {cs : List va_E} {K : Int → St → Prop} {B51 : Int → Int → Int → Int → St → Prop} (hd : 6 ≤ d) (hJ : Stb sh J) (hT : isM sh) (hW : Wd G sh mT J S cs) (hP : ∀ (v : Int) (S : St) (cs : List va_E), K v S → Wd G sh mT J S cs → Post (none) cs) (hB51 : ∀ (l1 : Int) (l2 : Int) (l3 : Int) (l4 : Int) (S : St) (cs : List va_E), B51 l1 l2 l3 l4 S → Wd G sh mT J S cs → Z (RX11, cX11_parse, 8, none, false) G d Post 51 [(0, .ref (G.1 + 54)), (1, .int (Int32.ofInt (l1))), (2, .int (Int32.ofInt (l2))), (3, .int (Int32.ofInt (l3))), (4, .int (Int32.ofInt (l4)))] [] cs) (hw : wX11_parse_102 l1 l2 l3 l4 l5 l6 s0 S K B51) : Z (RX11, cX11_parse, 8, none, false) G d Post 102 [(0, .ref (G.1 + 54)), (1, .int (Int32.ofInt (l1))), (2, .int (Int32.ofInt (l2))), (3, .int (Int32.ofInt (l3))), (4, .int (Int32.ofInt (l4))), (5, .int (Int32.ofInt (l5))), (6, .int (Int32.ofInt (l6)))] [.int (Int32.ofInt (s0))] cs := by
  unfold wX11_parse_102 at hw
  refine z_istore dX11_parse_102 (by decide) ?_
  refine z_loc (L' := [(0, .ref (G.1 + 54)), (1, .int (Int32.ofInt (l1))), (2, .int (Int32.ofInt (l2))), (3, .int (Int32.ofInt (l3))), (4, .int (Int32.ofInt (l4))), (5, .int (Int32.ofInt (l5))), (6, .int (Int32.ofInt (l6))), (7, .int (Int32.ofInt (s0)))]) (List.forall_mem_cons.mpr ⟨rfl, (List.forall_mem_cons.mpr ⟨rfl, (List.forall_mem_cons.mpr ⟨rfl, (List.forall_mem_cons.mpr ⟨rfl, (List.forall_mem_cons.mpr ⟨rfl, (List.forall_mem_cons.mpr ⟨rfl, (List.forall_mem_cons.mpr ⟨rfl, (List.forall_mem_cons.mpr ⟨rfl, (fun _ h => nomatch h)⟩)⟩)⟩)⟩)⟩)⟩)⟩)⟩) ?_
  refine z_iload dX11_parse_104 rfl ?_
  obtain ⟨q2, hw⟩ := hw
  refine i_if_ge (tgt := 117) dX11_parse_106 (by decide) q2 (fun h1 => ?_) (fun h1 => ?_)
  · have hw := hw.1 h1
    refine z_iload dX11_parse_117 rfl ?_
    refine z_bipush (v := Int32.ofInt 38) dX11_parse_119 (by decide) ?_
    refine i_icmp_ne (tgt := 134) dX11_parse_121 (by decide) q2 ⟨by decide, by decide⟩ (fun h3 => ?_) (fun h3 => ?_)
    · have hw := hw.1 h3
      refine z_iload dX11_parse_134 rfl ?_
      refine z_bipush (v := Int32.ofInt 60) dX11_parse_136 (by decide) ?_
      refine i_icmp_eq (tgt := 154) dX11_parse_138 (by decide) q2 ⟨by decide, by decide⟩ (fun h4 => ?_) (fun h4 => ?_)
      · have hw := hw.1 h4
        refine z_iload dX11_parse_154 rfl ?_
        refine z_bipush (v := Int32.ofInt 47) dX11_parse_156 (by decide) ?_
        obtain ⟨q6, hw⟩ := hw
        refine i_icmp_ne (tgt := 200) dX11_parse_158 (by decide) q6 ⟨by decide, by decide⟩ (fun h5 => ?_) (fun h5 => ?_)
        · have hw := hw.1 h5
          refine z_loc (L' := [(0, .ref (G.1 + 54)), (1, .int (Int32.ofInt (l1))), (2, .int (Int32.ofInt (l2))), (3, .int (Int32.ofInt (l3))), (4, .int (Int32.ofInt (l4))), (6, .int (Int32.ofInt (l6))), (7, .int (Int32.ofInt (s0)))]) (List.forall_mem_cons.mpr ⟨rfl, (List.forall_mem_cons.mpr ⟨rfl, (List.forall_mem_cons.mpr ⟨rfl, (List.forall_mem_cons.mpr ⟨rfl, (List.forall_mem_cons.mpr ⟨rfl, (List.forall_mem_cons.mpr ⟨rfl, (List.forall_mem_cons.mpr ⟨rfl, (fun _ h => nomatch h)⟩)⟩)⟩)⟩)⟩)⟩)⟩) ?_
          exact bX11_parse_200 hd hJ hT hW hP hB51 hw
        · have hw := hw.2 h5
          refine z_iload_n dX11_parse_161 rfl rfl ?_
          refine z_bipush (v := Int32.ofInt (-2)) dX11_parse_162 (by decide) ?_
          obtain ⟨q8, hw⟩ := hw
          refine i_icmp_eq (tgt := 200) dX11_parse_164 (by decide) q8 ⟨by decide, by decide⟩ (fun h7 => ?_) (fun h7 => ?_)
          · have hw := hw.1 h7
            refine z_loc (L' := [(0, .ref (G.1 + 54)), (1, .int (Int32.ofInt (l1))), (2, .int (Int32.ofInt (l2))), (3, .int (Int32.ofInt (l3))), (4, .int (Int32.ofInt (l4))), (6, .int (Int32.ofInt (l6))), (7, .int (Int32.ofInt (s0)))]) (List.forall_mem_cons.mpr ⟨rfl, (List.forall_mem_cons.mpr ⟨rfl, (List.forall_mem_cons.mpr ⟨rfl, (List.forall_mem_cons.mpr ⟨rfl, (List.forall_mem_cons.mpr ⟨rfl, (List.forall_mem_cons.mpr ⟨rfl, (List.forall_mem_cons.mpr ⟨rfl, (fun _ h => nomatch h)⟩)⟩)⟩)⟩)⟩)⟩)⟩) ?_
            exact bX11_parse_200 hd hJ hT hW hP hB51 hw
          · have hw := hw.2 h7
            refine z_aload_n dX11_parse_167 rfl rfl ?_
            refine z_iload_n dX11_parse_168 rfl rfl ?_
            refine z_iload_n dX11_parse_169 rfl rfl ?_
            obtain ⟨q9, hw⟩ := hw
            have hX := lX11_endTag 4 (Nat.le_refl _) hJ hT hW q9 q8 hw
            refine z_callV (As := [_, _]) eX11_endTag sX11_endTag lX11_401 rfl dX11_parse_170 (hW.1 _ _ hT.1) hX (Nat.le_trans (by decide) hd) rfl (Nat.le_of_ble_eq_true rfl) (fun r cs hp => ?_)
            obtain ⟨r10, S11, rfl, hw, hW⟩ := hp
            refine z_st (st' := [.int (Int32.ofInt (r10))]) rfl ?_
            refine z_istore_n dX11_parse_173 rfl (by decide) ?_
            refine z_loc (L' := [(0, .ref (G.1 + 54)), (1, .int (Int32.ofInt (r10))), (2, .int (Int32.ofInt (l2))), (3, .int (Int32.ofInt (l3))), (4, .int (Int32.ofInt (l4))), (5, .int (Int32.ofInt (l5))), (6, .int (Int32.ofInt (l6))), (7, .int (Int32.ofInt (s0)))]) (List.forall_mem_cons.mpr ⟨rfl, (List.forall_mem_cons.mpr ⟨rfl, (List.forall_mem_cons.mpr ⟨rfl, (List.forall_mem_cons.mpr ⟨rfl, (List.forall_mem_cons.mpr ⟨rfl, (List.forall_mem_cons.mpr ⟨rfl, (List.forall_mem_cons.mpr ⟨rfl, (List.forall_mem_cons.mpr ⟨rfl, (fun _ h => nomatch h)⟩)⟩)⟩)⟩)⟩)⟩)⟩)⟩) ?_
            refine z_aload_n dX11_parse_174 rfl rfl ?_
            refine g_getR hW hT.1 mr47 kX11 fX11_114 dX11_parse_175 ?_
            refine z_iload_n dX11_parse_178 rfl rfl ?_
            obtain ⟨q12a, q12b, hw⟩ := hw
            have q13 : iv (-2) 199 (S11.2 88 (l2)) := mA88 hW _
            have hw := hw q13
            refine g_iald hW (ma88 hT) q12a q12b (by decide) dX11_parse_179 ?_
            obtain ⟨x14, hx14⟩ : ∃ x : Int, x = S11.2 88 (l2) := ⟨_, rfl⟩
            have hw := hw x14 hx14
            refine z_st (st' := [.int (Int32.ofInt x14)]) (by rw [hx14]) ?_
            have q15 : rng x14 := by rw [hx14]; exact (rngq q13 (by decide) (by decide))
            have q16 : iv (-2) 199 x14 := by rw [hx14]; exact q13
            refine z_istore_n dX11_parse_180 rfl (by decide) ?_
            refine z_loc (L' := [(0, .ref (G.1 + 54)), (1, .int (Int32.ofInt (r10))), (2, .int (Int32.ofInt (x14))), (3, .int (Int32.ofInt (l3))), (4, .int (Int32.ofInt (l4))), (5, .int (Int32.ofInt (l5))), (6, .int (Int32.ofInt (l6))), (7, .int (Int32.ofInt (s0)))]) (List.forall_mem_cons.mpr ⟨rfl, (List.forall_mem_cons.mpr ⟨rfl, (List.forall_mem_cons.mpr ⟨rfl, (List.forall_mem_cons.mpr ⟨rfl, (List.forall_mem_cons.mpr ⟨rfl, (List.forall_mem_cons.mpr ⟨rfl, (List.forall_mem_cons.mpr ⟨rfl, (List.forall_mem_cons.mpr ⟨rfl, (fun _ h => nomatch h)⟩)⟩)⟩)⟩)⟩)⟩)⟩)⟩) ?_
            refine i_iinc (l := l3) dX11_parse_181 rfl (by decide) ?_
            refine z_loc (L' := [(0, .ref (G.1 + 54)), (1, .int (Int32.ofInt (r10))), (2, .int (Int32.ofInt (x14))), (3, .int (Int32.ofInt ((l3 + (-1))))), (4, .int (Int32.ofInt (l4))), (5, .int (Int32.ofInt (l5))), (6, .int (Int32.ofInt (l6))), (7, .int (Int32.ofInt (s0)))]) (List.forall_mem_cons.mpr ⟨rfl, (List.forall_mem_cons.mpr ⟨rfl, (List.forall_mem_cons.mpr ⟨rfl, (List.forall_mem_cons.mpr ⟨rfl, (List.forall_mem_cons.mpr ⟨rfl, (List.forall_mem_cons.mpr ⟨rfl, (List.forall_mem_cons.mpr ⟨rfl, (List.forall_mem_cons.mpr ⟨rfl, (fun _ h => nomatch h)⟩)⟩)⟩)⟩)⟩)⟩)⟩)⟩) ?_
            refine z_iload_n dX11_parse_184 rfl rfl ?_
            refine z_bipush (v := Int32.ofInt (-2)) dX11_parse_185 (by decide) ?_
            refine i_icmp_eq (tgt := 194) dX11_parse_187 (by decide) q15 ⟨by decide, by decide⟩ (fun h17 => ?_) (fun h17 => ?_)
            · have hw := hw.1 h17
              refine z_iconst (v := Int32.ofInt 0) dX11_parse_194 rfl ?_
              refine z_loc (L' := [(0, .ref (G.1 + 54)), (1, .int (Int32.ofInt (r10))), (2, .int (Int32.ofInt (x14))), (3, .int (Int32.ofInt ((l3 + (-1)))))]) (List.forall_mem_cons.mpr ⟨rfl, (List.forall_mem_cons.mpr ⟨rfl, (List.forall_mem_cons.mpr ⟨rfl, (List.forall_mem_cons.mpr ⟨rfl, (fun _ h => nomatch h)⟩)⟩)⟩)⟩) ?_
              exact bX11_parse_195 hd hJ hT hW hP hB51 hw
            · have hw := hw.2 h17
              refine z_iconst (v := Int32.ofInt 1) dX11_parse_190 rfl ?_
              refine z_goto (tgt := 195) dX11_parse_191 (by decide) ?_
              refine z_loc (L' := [(0, .ref (G.1 + 54)), (1, .int (Int32.ofInt (r10))), (2, .int (Int32.ofInt (x14))), (3, .int (Int32.ofInt ((l3 + (-1)))))]) (List.forall_mem_cons.mpr ⟨rfl, (List.forall_mem_cons.mpr ⟨rfl, (List.forall_mem_cons.mpr ⟨rfl, (List.forall_mem_cons.mpr ⟨rfl, (fun _ h => nomatch h)⟩)⟩)⟩)⟩) ?_
              exact bX11_parse_195 hd hJ hT hW hP hB51 hw
      · have hw := hw.2 h4
        refine z_aload_n dX11_parse_141 rfl rfl ?_
        refine z_iload dX11_parse_142 rfl ?_
        refine z_iload_n dX11_parse_144 rfl rfl ?_
        obtain ⟨q18, hw⟩ := hw
        have hX := lX11_keep 0 (Nat.le_refl _) hJ hT hW q2 q18 hw
        refine z_callV (As := [_, _]) eX11_keep sX11_keep lX11_365 rfl dX11_parse_145 (hW.1 _ _ hT.1) hX (Nat.le_trans (by decide) hd) rfl (Nat.le_of_ble_eq_true rfl) (fun r cs hp => ?_)
        obtain ⟨r19, S20, rfl, hw, hW⟩ := hp
        refine z_st (st' := []) rfl ?_
        refine i_iinc (l := l1) dX11_parse_148 rfl (by decide) ?_
        refine z_loc (L' := [(0, .ref (G.1 + 54)), (1, .int (Int32.ofInt ((l1 + 1)))), (2, .int (Int32.ofInt (l2))), (3, .int (Int32.ofInt (l3))), (4, .int (Int32.ofInt (l4))), (5, .int (Int32.ofInt (l5))), (6, .int (Int32.ofInt (l6))), (7, .int (Int32.ofInt (s0)))]) (List.forall_mem_cons.mpr ⟨rfl, (List.forall_mem_cons.mpr ⟨rfl, (List.forall_mem_cons.mpr ⟨rfl, (List.forall_mem_cons.mpr ⟨rfl, (List.forall_mem_cons.mpr ⟨rfl, (List.forall_mem_cons.mpr ⟨rfl, (List.forall_mem_cons.mpr ⟨rfl, (List.forall_mem_cons.mpr ⟨rfl, (fun _ h => nomatch h)⟩)⟩)⟩)⟩)⟩)⟩)⟩)⟩) ?_
        refine z_goto (tgt := 297) dX11_parse_151 (by decide) ?_
        refine z_loc (L' := [(0, .ref (G.1 + 54)), (1, .int (Int32.ofInt ((l1 + 1)))), (2, .int (Int32.ofInt (l2))), (3, .int (Int32.ofInt (l3))), (4, .int (Int32.ofInt (l4)))]) (List.forall_mem_cons.mpr ⟨rfl, (List.forall_mem_cons.mpr ⟨rfl, (List.forall_mem_cons.mpr ⟨rfl, (List.forall_mem_cons.mpr ⟨rfl, (List.forall_mem_cons.mpr ⟨rfl, (fun _ h => nomatch h)⟩)⟩)⟩)⟩)⟩) ?_
        exact bX11_parse_297 hd hJ hT hW hP hB51 hw
    · have hw := hw.2 h3
      refine z_aload_n dX11_parse_124 rfl rfl ?_
      refine z_iload_n dX11_parse_125 rfl rfl ?_
      refine z_iload_n dX11_parse_126 rfl rfl ?_
      obtain ⟨q21, hw⟩ := hw
      obtain ⟨q22, hw⟩ := hw
      have hX := lX11_reference 2 (Nat.le_refl _) hJ hT hW q21 q22 hw
      refine z_callV (As := [_, _]) eX11_reference sX11_reference lX11_383 rfl dX11_parse_127 (hW.1 _ _ hT.1) hX (Nat.le_trans (by decide) hd) rfl (Nat.le_of_ble_eq_true rfl) (fun r cs hp => ?_)
      obtain ⟨r23, S24, rfl, hw, hW⟩ := hp
      refine z_st (st' := [.int (Int32.ofInt (r23))]) rfl ?_
      refine z_istore_n dX11_parse_130 rfl (by decide) ?_
      refine z_loc (L' := [(0, .ref (G.1 + 54)), (1, .int (Int32.ofInt (r23))), (2, .int (Int32.ofInt (l2))), (3, .int (Int32.ofInt (l3))), (4, .int (Int32.ofInt (l4))), (5, .int (Int32.ofInt (l5))), (6, .int (Int32.ofInt (l6))), (7, .int (Int32.ofInt (s0)))]) (List.forall_mem_cons.mpr ⟨rfl, (List.forall_mem_cons.mpr ⟨rfl, (List.forall_mem_cons.mpr ⟨rfl, (List.forall_mem_cons.mpr ⟨rfl, (List.forall_mem_cons.mpr ⟨rfl, (List.forall_mem_cons.mpr ⟨rfl, (List.forall_mem_cons.mpr ⟨rfl, (List.forall_mem_cons.mpr ⟨rfl, (fun _ h => nomatch h)⟩)⟩)⟩)⟩)⟩)⟩)⟩)⟩) ?_
      refine z_goto (tgt := 297) dX11_parse_131 (by decide) ?_
      refine z_loc (L' := [(0, .ref (G.1 + 54)), (1, .int (Int32.ofInt (r23))), (2, .int (Int32.ofInt (l2))), (3, .int (Int32.ofInt (l3))), (4, .int (Int32.ofInt (l4)))]) (List.forall_mem_cons.mpr ⟨rfl, (List.forall_mem_cons.mpr ⟨rfl, (List.forall_mem_cons.mpr ⟨rfl, (List.forall_mem_cons.mpr ⟨rfl, (List.forall_mem_cons.mpr ⟨rfl, (fun _ h => nomatch h)⟩)⟩)⟩)⟩)⟩) ?_
      exact bX11_parse_297 hd hJ hT hW hP hB51 hw
  · have hw := hw.2 h1
    refine z_aload_n dX11_parse_109 rfl rfl ?_
    refine z_iload_n dX11_parse_110 rfl rfl ?_
    obtain ⟨q25, hw⟩ := hw
    have hX := lX11_fail 0 (Nat.le_refl _) hJ hT hW q25 hw
    refine z_callV (As := [_]) eX11_fail sX11_fail lX11_362 rfl dX11_parse_111 (hW.1 _ _ hT.1) hX (Nat.le_trans (by decide) hd) rfl (Nat.le_of_ble_eq_true rfl) (fun r cs hp => ?_)
    obtain ⟨r26, S27, rfl, hw, hW⟩ := hp
    refine z_st (st' := []) rfl ?_
    refine z_goto (tgt := 297) dX11_parse_114 (by decide) ?_
    refine z_loc (L' := [(0, .ref (G.1 + 54)), (1, .int (Int32.ofInt (l1))), (2, .int (Int32.ofInt (l2))), (3, .int (Int32.ofInt (l3))), (4, .int (Int32.ofInt (l4)))]) (List.forall_mem_cons.mpr ⟨rfl, (List.forall_mem_cons.mpr ⟨rfl, (List.forall_mem_cons.mpr ⟨rfl, (List.forall_mem_cons.mpr ⟨rfl, (List.forall_mem_cons.mpr ⟨rfl, (fun _ h => nomatch h)⟩)⟩)⟩)⟩)⟩) ?_
    exact bX11_parse_297 hd hJ hT hW hP hB51 hw
def wX11_parse_97 (l1 l2 l3 l4 l5 l6 : Int) (S : St) (K : Int → St → Prop) (B51 : Int → Int → Int → Int → St → Prop) : Prop := wX11_parse_102 (l1) (l2) (l3) (l4) (l5) (l6) (1) S K B51
set_option maxRecDepth 100000 in
set_option maxHeartbeats 4000000 in
theorem bX11_parse_97 {G : xG} {sh : Nat → Option Sh} {J : St → List va_E → Prop} {d : Nat} {Post : xP} {l1 l2 l3 l4 l5 l6 : Int} {S : St} {cs : List va_E} {K : Int → St → Prop} {B51 : Int → Int → Int → Int → St → Prop} (hd : 6 ≤ d) (hJ : Stb sh J) (hT : isM sh) (hW : Wd G sh mT J S cs) (hP : ∀ (v : Int) (S : St) (cs : List va_E), K v S → Wd G sh mT J S cs → Post (none) cs) (hB51 : ∀ (l1 : Int) (l2 : Int) (l3 : Int) (l4 : Int) (S : St) (cs : List va_E), B51 l1 l2 l3 l4 S → Wd G sh mT J S cs → Z (RX11, cX11_parse, 8, none, false) G d Post 51 [(0, .ref (G.1 + 54)), (1, .int (Int32.ofInt (l1))), (2, .int (Int32.ofInt (l2))), (3, .int (Int32.ofInt (l3))), (4, .int (Int32.ofInt (l4)))] [] cs) (hw : wX11_parse_97 l1 l2 l3 l4 l5 l6 S K B51) : Z (RX11, cX11_parse, 8, none, false) G d Post 97 [(0, .ref (G.1 + 54)), (1, .int (Int32.ofInt (l1))), (2, .int (Int32.ofInt (l2))), (3, .int (Int32.ofInt (l3))), (4, .int (Int32.ofInt (l4))), (5, .int (Int32.ofInt (l5))), (6, .int (Int32.ofInt (l6)))] [] cs := by
  unfold wX11_parse_97 at hw
  refine z_iconst (v := Int32.ofInt 1) dX11_parse_97 rfl ?_
  refine z_goto (tgt := 102) dX11_parse_98 (by decide) ?_
  refine z_loc (L' := [(0, .ref (G.1 + 54)), (1, .int (Int32.ofInt (l1))), (2, .int (Int32.ofInt (l2))), (3, .int (Int32.ofInt (l3))), (4, .int (Int32.ofInt (l4))), (5, .int (Int32.ofInt (l5))), (6, .int (Int32.ofInt (l6)))]) (List.forall_mem_cons.mpr ⟨rfl, (List.forall_mem_cons.mpr ⟨rfl, (List.forall_mem_cons.mpr ⟨rfl, (List.forall_mem_cons.mpr ⟨rfl, (List.forall_mem_cons.mpr ⟨rfl, (List.forall_mem_cons.mpr ⟨rfl, (List.forall_mem_cons.mpr ⟨rfl, (fun _ h => nomatch h)⟩)⟩)⟩)⟩)⟩)⟩)⟩) ?_
  exact bX11_parse_102 hd hJ hT hW hP hB51 hw
def wX11_parse_51' (l1 l2 l3 l4 : Int) (S : St) (K : Int → St → Prop) (B51 : Int → Int → Int → Int → St → Prop) : Prop := (rng (l4) ∧ ((l4 = 0 → wX11_parse_300 (l1) S K) ∧ ((¬ (l4 = 0)) → (iv (-2) 4000 (S.1 54 59) → ((¬ S.1 54 59 = (-2) → wX11_parse_300 (l1) S K) ∧ ((¬ (¬ S.1 54 59 = (-2))) → (rng (l1) ∧ (wX11_docAt (l1) S (fun r6 S7 => (rng ((l1 + 1)) ∧ (wX11_docAt ((l1 + 1)) S7 (fun r9 S10 => (rng (l3) ∧ ((l3 = 40 → wX11_parse_97 (l1) (l2) (l3) (l4) (r6) (r9) S10 K B51) ∧ ((¬ (l3 = 40)) → (iv 0 200 (S10.1 54 43) → ((¬ S10.1 54 43 = 200 → wX11_parse_102 (l1) (l2) (l3) (l4) (r6) (r9) (0) S10 K B51) ∧ ((¬ (¬ S10.1 54 43 = 200)) → wX11_parse_97 (l1) (l2) (l3) (l4) (r6) (r9) S10 K B51))))))))))))))))))
set_option maxRecDepth 100000 in
set_option maxHeartbeats 4000000 in
theorem bX11_parse_51' {G : xG} {sh : Nat → Option Sh} {J : St → List va_E → Prop} {d : Nat} {Post : xP} {l1 l2 l3 l4 : Int} {S : St} {cs : List va_E} {K : Int → St → Prop} {B51 : Int → Int → Int → Int → St → Prop} (hd : 6 ≤ d) (hJ : Stb sh J) (hT : isM sh) (hW : Wd G sh mT J S cs) (hP : ∀ (v : Int) (S : St) (cs : List va_E), K v S → Wd G sh mT J S cs → Post (none) cs) (hB51 : ∀ (l1 : Int) (l2 : Int) (l3 : Int) (l4 : Int) (S : St) (cs : List va_E), B51 l1 l2 l3 l4 S → Wd G sh mT J S cs → Z (RX11, cX11_parse, 8, none, false) G d Post 51 [(0, .ref (G.1 + 54)), (1, .int (Int32.ofInt (l1))), (2, .int (Int32.ofInt (l2))), (3, .int (Int32.ofInt (l3))), (4, .int (Int32.ofInt (l4)))] [] cs) (hw : wX11_parse_51' l1 l2 l3 l4 S K B51) : Z (RX11, cX11_parse, 8, none, false) G d Post 51 [(0, .ref (G.1 + 54)), (1, .int (Int32.ofInt (l1))), (2, .int (Int32.ofInt (l2))), (3, .int (Int32.ofInt (l3))), (4, .int (Int32.ofInt (l4)))] [] cs := by
  unfold wX11_parse_51' at hw
  refine z_iload dX11_parse_51 rfl ?_
  obtain ⟨q2, hw⟩ := hw
  refine i_if_eq (tgt := 300) dX11_parse_53 (by decide) q2 (fun h1 => ?_) (fun h1 => ?_)
  · have hw := hw.1 h1
    refine z_loc (L' := [(0, .ref (G.1 + 54)), (1, .int (Int32.ofInt (l1)))]) (List.forall_mem_cons.mpr ⟨rfl, (List.forall_mem_cons.mpr ⟨rfl, (fun _ h => nomatch h)⟩)⟩) ?_
    exact bX11_parse_300 hd hJ hT hW hP  hw
  · have hw := hw.2 h1
    refine z_aload_n dX11_parse_56 rfl rfl ?_
    have q3 : iv (-2) 4000 (S.1 54 59) := mI59 hW
    have hw := hw q3
    refine g_getI hW hT.1 mr59 kX11 fX11_343 dX11_parse_57 ?_
    refine z_bipush (v := Int32.ofInt (-2)) dX11_parse_60 (by decide) ?_
    refine i_icmp_ne (tgt := 300) dX11_parse_62 (by decide) (rngq q3 (by decide) (by decide)) ⟨by decide, by decide⟩ (fun h4 => ?_) (fun h4 => ?_)
    · have hw := hw.1 h4
      refine z_loc (L' := [(0, .ref (G.1 + 54)), (1, .int (Int32.ofInt (l1)))]) (List.forall_mem_cons.mpr ⟨rfl, (List.forall_mem_cons.mpr ⟨rfl, (fun _ h => nomatch h)⟩)⟩) ?_
      exact bX11_parse_300 hd hJ hT hW hP  hw
    · have hw := hw.2 h4
      refine z_aload_n dX11_parse_65 rfl rfl ?_
      refine z_iload_n dX11_parse_66 rfl rfl ?_
      obtain ⟨q5, hw⟩ := hw
      have hX := lX11_docAt 0 (Nat.le_refl _) hJ hT hW q5 hw
      refine z_callV (As := [_]) eX11_docAt sX11_docAt lX11_349 rfl dX11_parse_67 (hW.1 _ _ hT.1) hX (Nat.le_trans (by decide) hd) rfl (Nat.le_of_ble_eq_true rfl) (fun r cs hp => ?_)
      obtain ⟨r6, S7, rfl, hw, hW⟩ := hp
      refine z_st (st' := [.int (Int32.ofInt (r6))]) rfl ?_
      refine z_istore dX11_parse_70 (by decide) ?_
      refine z_loc (L' := [(0, .ref (G.1 + 54)), (1, .int (Int32.ofInt (l1))), (2, .int (Int32.ofInt (l2))), (3, .int (Int32.ofInt (l3))), (4, .int (Int32.ofInt (l4))), (5, .int (Int32.ofInt (r6)))]) (List.forall_mem_cons.mpr ⟨rfl, (List.forall_mem_cons.mpr ⟨rfl, (List.forall_mem_cons.mpr ⟨rfl, (List.forall_mem_cons.mpr ⟨rfl, (List.forall_mem_cons.mpr ⟨rfl, (List.forall_mem_cons.mpr ⟨rfl, (fun _ h => nomatch h)⟩)⟩)⟩)⟩)⟩)⟩) ?_
      refine z_aload_n dX11_parse_72 rfl rfl ?_
      refine z_iload_n dX11_parse_73 rfl rfl ?_
      refine z_iconst (v := Int32.ofInt 1) dX11_parse_74 rfl ?_
      refine i_iadd dX11_parse_75 ?_
      obtain ⟨q8, hw⟩ := hw
      have hX := lX11_docAt 0 (Nat.le_refl _) hJ hT hW q8 hw
      refine z_callV (As := [_]) eX11_docAt sX11_docAt lX11_349 rfl dX11_parse_76 (hW.1 _ _ hT.1) hX (Nat.le_trans (by decide) hd) rfl (Nat.le_of_ble_eq_true rfl) (fun r cs hp => ?_)
      obtain ⟨r9, S10, rfl, hw, hW⟩ := hp
      refine z_st (st' := [.int (Int32.ofInt (r9))]) rfl ?_
      refine z_istore dX11_parse_79 (by decide) ?_
      refine z_loc (L' := [(0, .ref (G.1 + 54)), (1, .int (Int32.ofInt (l1))), (2, .int (Int32.ofInt (l2))), (3, .int (Int32.ofInt (l3))), (4, .int (Int32.ofInt (l4))), (5, .int (Int32.ofInt (r6))), (6, .int (Int32.ofInt (r9)))]) (List.forall_mem_cons.mpr ⟨rfl, (List.forall_mem_cons.mpr ⟨rfl, (List.forall_mem_cons.mpr ⟨rfl, (List.forall_mem_cons.mpr ⟨rfl, (List.forall_mem_cons.mpr ⟨rfl, (List.forall_mem_cons.mpr ⟨rfl, (List.forall_mem_cons.mpr ⟨rfl, (fun _ h => nomatch h)⟩)⟩)⟩)⟩)⟩)⟩)⟩) ?_
      refine z_iload_n dX11_parse_81 rfl rfl ?_
      refine z_bipush (v := Int32.ofInt 40) dX11_parse_82 (by decide) ?_
      obtain ⟨q12, hw⟩ := hw
      refine i_icmp_eq (tgt := 97) dX11_parse_84 (by decide) q12 ⟨by decide, by decide⟩ (fun h11 => ?_) (fun h11 => ?_)
      · have hw := hw.1 h11
        refine z_loc (L' := [(0, .ref (G.1 + 54)), (1, .int (Int32.ofInt (l1))), (2, .int (Int32.ofInt (l2))), (3, .int (Int32.ofInt (l3))), (4, .int (Int32.ofInt (l4))), (5, .int (Int32.ofInt (r6))), (6, .int (Int32.ofInt (r9)))]) (List.forall_mem_cons.mpr ⟨rfl, (List.forall_mem_cons.mpr ⟨rfl, (List.forall_mem_cons.mpr ⟨rfl, (List.forall_mem_cons.mpr ⟨rfl, (List.forall_mem_cons.mpr ⟨rfl, (List.forall_mem_cons.mpr ⟨rfl, (List.forall_mem_cons.mpr ⟨rfl, (fun _ h => nomatch h)⟩)⟩)⟩)⟩)⟩)⟩)⟩) ?_
        exact bX11_parse_97 hd hJ hT hW hP hB51 hw
      · have hw := hw.2 h11
        refine z_aload_n dX11_parse_87 rfl rfl ?_
        have q13 : iv 0 200 (S10.1 54 43) := mI43 hW
        have hw := hw q13
        refine g_getI hW hT.1 mr43 kX11 fX11_386 dX11_parse_88 ?_
        refine z_sipush (v := Int32.ofInt 200) dX11_parse_91 (by decide) ?_
        refine i_icmp_ne (tgt := 101) dX11_parse_94 (by decide) (rngq q13 (by decide) (by decide)) ⟨by decide, by decide⟩ (fun h14 => ?_) (fun h14 => ?_)
        · have hw := hw.1 h14
          refine z_iconst (v := Int32.ofInt 0) dX11_parse_101 rfl ?_
          refine z_loc (L' := [(0, .ref (G.1 + 54)), (1, .int (Int32.ofInt (l1))), (2, .int (Int32.ofInt (l2))), (3, .int (Int32.ofInt (l3))), (4, .int (Int32.ofInt (l4))), (5, .int (Int32.ofInt (r6))), (6, .int (Int32.ofInt (r9)))]) (List.forall_mem_cons.mpr ⟨rfl, (List.forall_mem_cons.mpr ⟨rfl, (List.forall_mem_cons.mpr ⟨rfl, (List.forall_mem_cons.mpr ⟨rfl, (List.forall_mem_cons.mpr ⟨rfl, (List.forall_mem_cons.mpr ⟨rfl, (List.forall_mem_cons.mpr ⟨rfl, (fun _ h => nomatch h)⟩)⟩)⟩)⟩)⟩)⟩)⟩) ?_
          exact bX11_parse_102 hd hJ hT hW hP hB51 hw
        · have hw := hw.2 h14
          refine z_loc (L' := [(0, .ref (G.1 + 54)), (1, .int (Int32.ofInt (l1))), (2, .int (Int32.ofInt (l2))), (3, .int (Int32.ofInt (l3))), (4, .int (Int32.ofInt (l4))), (5, .int (Int32.ofInt (r6))), (6, .int (Int32.ofInt (r9)))]) (List.forall_mem_cons.mpr ⟨rfl, (List.forall_mem_cons.mpr ⟨rfl, (List.forall_mem_cons.mpr ⟨rfl, (List.forall_mem_cons.mpr ⟨rfl, (List.forall_mem_cons.mpr ⟨rfl, (List.forall_mem_cons.mpr ⟨rfl, (List.forall_mem_cons.mpr ⟨rfl, (fun _ h => nomatch h)⟩)⟩)⟩)⟩)⟩)⟩)⟩) ?_
          exact bX11_parse_97 hd hJ hT hW hP hB51 hw
def wX11_parse_51 (l1 l2 l3 l4 : Int) (S : St) (K : Int → St → Prop) : Prop := ∃ (Iv : Int → Int → Int → Int → St → Prop) (mu : Int → Int → Int → Int → St → Nat), Iv l1 l2 l3 l4 S ∧ ∀ (l1 l2 l3 l4 : Int) (S : St), Iv l1 l2 l3 l4 S → wX11_parse_51' l1 l2 l3 l4 S K  (fun ml1 ml2 ml3 ml4 T => Iv ml1 ml2 ml3 ml4 T ∧ mu ml1 ml2 ml3 ml4 T < mu l1 l2 l3 l4 S)
set_option maxRecDepth 100000 in
set_option maxHeartbeats 4000000 in
theorem bX11_parse_51 {G : xG} {sh : Nat → Option Sh} {J : St → List va_E → Prop} {d : Nat} {Post : xP} {l1 l2 l3 l4 : Int} {S : St} {cs : List va_E} {K : Int → St → Prop} (hd : 6 ≤ d) (hJ : Stb sh J) (hT : isM sh) (hW : Wd G sh mT J S cs) (hP : ∀ (v : Int) (S : St) (cs : List va_E), K v S → Wd G sh mT J S cs → Post (none) cs)  (hw : wX11_parse_51 l1 l2 l3 l4 S K ) : Z (RX11, cX11_parse, 8, none, false) G d Post 51 [(0, .ref (G.1 + 54)), (1, .int (Int32.ofInt (l1))), (2, .int (Int32.ofInt (l2))), (3, .int (Int32.ofInt (l3))), (4, .int (Int32.ofInt (l4)))] [] cs := by
  unfold wX11_parse_51 at hw
  obtain ⟨Iv, mu, h0, hs⟩ := hw
  have key : ∀ (n : Nat) (l1 l2 l3 l4 : Int) (S : St) (cs : List va_E), mu l1 l2 l3 l4 S < n → Iv l1 l2 l3 l4 S → Wd G sh mT J S cs → Z (RX11, cX11_parse, 8, none, false) G d Post 51 [(0, .ref (G.1 + 54)), (1, .int (Int32.ofInt (l1))), (2, .int (Int32.ofInt (l2))), (3, .int (Int32.ofInt (l3))), (4, .int (Int32.ofInt (l4)))] [] cs := by
    intro n
    induction n with
    | zero => intro l1 l2 l3 l4 S cs hn; exact absurd hn (Nat.not_lt_zero _)
    | succ n ih =>
      intro l1 l2 l3 l4 S cs hn hI hW
      exact bX11_parse_51' hd hJ hT hW hP  (fun l1 l2 l3 l4 S cs hb hW => ih l1 l2 l3 l4 S cs (Nat.lt_of_lt_of_le hb.2 (Nat.le_of_lt_succ hn)) hb.1 hW) (hs l1 l2 l3 l4 S hI)
  exact key _ _ _ _ _ _ _ (Nat.lt_succ_self _) h0 hW
def wX11_parse (S : St) (K : Int → St → Prop) : Prop := (∀ S1, S1 = pI S 54 43 (0) → (∀ S2, S2 = pI S1 54 51 (0) → (∀ S3, S3 = pI S2 54 56 (0) → (∀ S4, S4 = pI S3 54 59 ((-2)) → (wX11_blanksFrom (0) S4 (fun r5 S6 => (rng (r5) ∧ (wX11_docAt (r5) S6 (fun r8 S9 => (rng (r8) ∧ ((r8 = 60 → wX11_parse_51 (r5) ((-2)) (0) (1) S9 K) ∧ ((¬ (r8 = 60)) → (wX11_fail (r5) S9 (fun r12 S13 => K 0 S13))))))))))))))
set_option maxRecDepth 100000 in
set_option maxHeartbeats 4000000 in
theorem lX11_parse {G : xG} {sh : Nat → Option Sh} {J : St → List va_E → Prop} {S : St} {cs : List va_E} {K : Int → St → Prop} (d : Nat) (hd : 6 ≤ d) (hJ : Stb sh J) (hT : isM sh) (hW : Wd G sh mT J S cs)  (hw : wX11_parse  S K) : X G yX11_parse cX11_parse 8 none d [.ref (G.1 + 54)] cs (qV G sh mT J K) := by
  refine X.of false (by decide +kernel) (by decide) (Nat.le_of_ble_eq_true rfl) ?_
  show Z (RX11, cX11_parse, 8, none, false) G d _ 0 [(0, .ref (G.1 + 54))] [] cs
  have hP : ∀ (v : Int) (S : St) (cs : List va_E), K v S → Wd G sh mT J S cs → qV G sh mT J K (none) cs := fun v S cs a b => ⟨v, S, rfl, a, b⟩
  unfold wX11_parse at hw
  refine z_aload_n dX11_parse_0 rfl rfl ?_
  refine z_iconst (v := Int32.ofInt 0) dX11_parse_1 rfl ?_
  refine g_putI hJ hW hT.1 mr43 kX11 fX11_386 dX11_parse_2 rfl rfl rfl ⟨by decide, by decide⟩ (fun cs hW => ?_)
  obtain ⟨S1, hS1⟩ : ∃ x, x = pI S 54 43 (0) := ⟨_, rfl⟩
  rw [← hS1] at hW
  have hw := hw S1 hS1
  refine z_aload_n dX11_parse_5 rfl rfl ?_
  refine z_iconst (v := Int32.ofInt 0) dX11_parse_6 rfl ?_
  refine g_putI hJ hW hT.1 mr51 kX11 fX11_377 dX11_parse_7 rfl rfl rfl ⟨by decide, by decide⟩ (fun cs hW => ?_)
  obtain ⟨S2, hS2⟩ : ∃ x, x = pI S1 54 51 (0) := ⟨_, rfl⟩
  rw [← hS2] at hW
  have hw := hw S2 hS2
  refine z_aload_n dX11_parse_10 rfl rfl ?_
  refine z_iconst (v := Int32.ofInt 0) dX11_parse_11 rfl ?_
  refine g_putI hJ hW hT.1 mr56 kX11 fX11_355 dX11_parse_12 rfl rfl rfl ⟨by decide, by decide⟩ (fun cs hW => ?_)
  obtain ⟨S3, hS3⟩ : ∃ x, x = pI S2 54 56 (0) := ⟨_, rfl⟩
  rw [← hS3] at hW
  have hw := hw S3 hS3
  refine z_aload_n dX11_parse_15 rfl rfl ?_
  refine z_bipush (v := Int32.ofInt (-2)) dX11_parse_16 (by decide) ?_
  refine g_putI hJ hW hT.1 mr59 kX11 fX11_343 dX11_parse_18 rfl rfl rfl ⟨by decide, by decide⟩ (fun cs hW => ?_)
  obtain ⟨S4, hS4⟩ : ∃ x, x = pI S3 54 59 ((-2)) := ⟨_, rfl⟩
  rw [← hS4] at hW
  have hw := hw S4 hS4
  refine z_aload_n dX11_parse_21 rfl rfl ?_
  refine z_iconst (v := Int32.ofInt 0) dX11_parse_22 rfl ?_
  have hX := lX11_blanksFrom 1 (Nat.le_refl _) hJ hT hW ⟨by decide, by decide⟩ hw
  refine z_callV (As := [_]) eX11_blanksFrom sX11_blanksFrom lX11_389 rfl dX11_parse_23 (hW.1 _ _ hT.1) hX (Nat.le_trans (by decide) hd) rfl (Nat.le_of_ble_eq_true rfl) (fun r cs hp => ?_)
  obtain ⟨r5, S6, rfl, hw, hW⟩ := hp
  refine z_st (st' := [.int (Int32.ofInt (r5))]) rfl ?_
  refine z_istore_n dX11_parse_26 rfl (by decide) ?_
  refine z_loc (L' := [(0, .ref (G.1 + 54)), (1, .int (Int32.ofInt (r5)))]) (List.forall_mem_cons.mpr ⟨rfl, (List.forall_mem_cons.mpr ⟨rfl, (fun _ h => nomatch h)⟩)⟩) ?_
  refine z_aload_n dX11_parse_27 rfl rfl ?_
  refine z_iload_n dX11_parse_28 rfl rfl ?_
  obtain ⟨q7, hw⟩ := hw
  have hX := lX11_docAt 0 (Nat.le_refl _) hJ hT hW q7 hw
  refine z_callV (As := [_]) eX11_docAt sX11_docAt lX11_349 rfl dX11_parse_29 (hW.1 _ _ hT.1) hX (Nat.le_trans (by decide) hd) rfl (Nat.le_of_ble_eq_true rfl) (fun r cs hp => ?_)
  obtain ⟨r8, S9, rfl, hw, hW⟩ := hp
  refine z_st (st' := [.int (Int32.ofInt (r8))]) rfl ?_
  refine z_bipush (v := Int32.ofInt 60) dX11_parse_32 (by decide) ?_
  obtain ⟨q11, hw⟩ := hw
  refine i_icmp_eq (tgt := 43) dX11_parse_34 (by decide) q11 ⟨by decide, by decide⟩ (fun h10 => ?_) (fun h10 => ?_)
  · have hw := hw.1 h10
    refine z_bipush (v := Int32.ofInt (-2)) dX11_parse_43 (by decide) ?_
    refine z_istore_n dX11_parse_45 rfl (by decide) ?_
    refine z_loc (L' := [(0, .ref (G.1 + 54)), (1, .int (Int32.ofInt (r5))), (2, .int (Int32.ofInt ((-2))))]) (List.forall_mem_cons.mpr ⟨rfl, (List.forall_mem_cons.mpr ⟨rfl, (List.forall_mem_cons.mpr ⟨rfl, (fun _ h => nomatch h)⟩)⟩)⟩) ?_
    refine z_iconst (v := Int32.ofInt 0) dX11_parse_46 rfl ?_
    refine z_istore_n dX11_parse_47 rfl (by decide) ?_
    refine z_loc (L' := [(0, .ref (G.1 + 54)), (1, .int (Int32.ofInt (r5))), (2, .int (Int32.ofInt ((-2)))), (3, .int (Int32.ofInt (0)))]) (List.forall_mem_cons.mpr ⟨rfl, (List.forall_mem_cons.mpr ⟨rfl, (List.forall_mem_cons.mpr ⟨rfl, (List.forall_mem_cons.mpr ⟨rfl, (fun _ h => nomatch h)⟩)⟩)⟩)⟩) ?_
    refine z_iconst (v := Int32.ofInt 1) dX11_parse_48 rfl ?_
    refine z_istore dX11_parse_49 (by decide) ?_
    refine z_loc (L' := [(0, .ref (G.1 + 54)), (1, .int (Int32.ofInt (r5))), (2, .int (Int32.ofInt ((-2)))), (3, .int (Int32.ofInt (0))), (4, .int (Int32.ofInt (1)))]) (List.forall_mem_cons.mpr ⟨rfl, (List.forall_mem_cons.mpr ⟨rfl, (List.forall_mem_cons.mpr ⟨rfl, (List.forall_mem_cons.mpr ⟨rfl, (List.forall_mem_cons.mpr ⟨rfl, (fun _ h => nomatch h)⟩)⟩)⟩)⟩)⟩) ?_
    refine z_loc (L' := [(0, .ref (G.1 + 54)), (1, .int (Int32.ofInt (r5))), (2, .int (Int32.ofInt ((-2)))), (3, .int (Int32.ofInt (0))), (4, .int (Int32.ofInt (1)))]) (List.forall_mem_cons.mpr ⟨rfl, (List.forall_mem_cons.mpr ⟨rfl, (List.forall_mem_cons.mpr ⟨rfl, (List.forall_mem_cons.mpr ⟨rfl, (List.forall_mem_cons.mpr ⟨rfl, (fun _ h => nomatch h)⟩)⟩)⟩)⟩)⟩) ?_
    exact bX11_parse_51 hd hJ hT hW hP  hw
  · have hw := hw.2 h10
    refine z_aload_n dX11_parse_37 rfl rfl ?_
    refine z_iload_n dX11_parse_38 rfl rfl ?_
    have hX := lX11_fail 0 (Nat.le_refl _) hJ hT hW q7 hw
    refine z_callV (As := [_]) eX11_fail sX11_fail lX11_362 rfl dX11_parse_39 (hW.1 _ _ hT.1) hX (Nat.le_trans (by decide) hd) rfl (Nat.le_of_ble_eq_true rfl) (fun r cs hp => ?_)
    obtain ⟨r12, S13, rfl, hw, hW⟩ := hp
    refine z_st (st' := []) rfl ?_
    exact z_return dX11_parse_42 rfl (hP 0 _ _ hw hW)

