def wX9_firstWrong_214  (S : St) (K : Int → St → Prop) : Prop := (iv (-2147483648) 2147483647 (S.1 220 6) → ((S.1 220 6 = (-1) → (wX9_skipBlanks S (fun r4 S3 => (iv (-2147483648) 2147483647 (S3.1 220 3) → (wX5_length 1 S3 (fun r7 S6 => (rng (r7) ∧ ((r7 ≤ S3.1 220 3 → K ((-1)) S6) ∧ ((¬ (r7 ≤ S3.1 220 3)) → (iv (-2147483648) 2147483647 (S6.1 220 3) → K (S6.1 220 3) S6)))))))))) ∧ ((¬ (S.1 220 6 = (-1))) → K (S.1 220 6) S)))
set_option maxRecDepth 100000 in
set_option maxHeartbeats 4000000 in
theorem ubX9_firstWrong_214 {G : xG} {v : Nat → Nat} {sh : Nat → Option Sh} {B : Nat × Nat} {c0 : List va_E} {d : Nat} {Post : xP} {S : St} {cs : List va_E} {K : Int → St → Prop} (hd : 9 ≤ d) (hT : sb shC sh) (hS : ∀ b x, sh b = some x → ¬ isS b) (hU : sb shXT sh) (hW : Wv G v sh B c0 S cs) (hP : ∀ (x : Int) (S : St) (cs : List va_E), K x S → Wv G v sh B c0 S cs → Post (some (.int (Int32.ofInt x))) cs)  (hw : wX9_firstWrong_214  S K ) : Z (RX9, cX9_firstWrong, 2, some .int, false) G d Post 214 [(0, .ref (G.1 + v 220))] [] cs := by
  unfold wX9_firstWrong_214 at hw
  refine z_aload_n dX9_firstWrong_214 rfl rfl ?_
  have q1 : iv (-2147483648) 2147483647 (S.1 220 6) := hW.iI 220 6
  have hw := hw q1
  refine v_getI hW (hU 220 _ rfl) rfl kX9 fX9_21 dX9_firstWrong_215 ?_
  refine z_iconst (v := Int32.ofInt (-1)) dX9_firstWrong_218 rfl ?_
  refine i_icmp_eq (tgt := 227) dX9_firstWrong_219 (by decide) (rngq q1 (by decide) (by decide)) ⟨by decide, by decide⟩ (fun h2 => ?_) (fun h2 => ?_)
  · have hw := hw.1 h2
    refine z_aload_n dX9_firstWrong_227 rfl rfl ?_
    have hX := lX9_skipBlanks 1 (Nat.le_refl _) hT hS hU hW  hw
    refine z_callV (As := []) eX9_skipBlanks sX9_skipBlanks lX9_44 rfl dX9_firstWrong_228 (hW.at (hU 220 _ rfl)) hX (Nat.le_trans (by decide) hd) rfl (Nat.le_of_ble_eq_true rfl) (fun r cs hp => ?_)
    obtain ⟨r4, S3, rfl, hw, hW⟩ := hp
    refine z_st (st' := []) rfl ?_
    refine z_aload_n dX9_firstWrong_231 rfl rfl ?_
    have q5 : iv (-2147483648) 2147483647 (S3.1 220 3) := hW.iI 220 3
    have hw := hw q5
    refine v_getI hW (hU 220 _ rfl) rfl kX9 fX9_9 dX9_firstWrong_232 ?_
    refine z_aload_n dX9_firstWrong_235 rfl rfl ?_
    refine v_getR hW (hU 220 _ rfl) rfl kX9 fX9_24 dX9_firstWrong_236 ?_
    have hX := lX5_length 0 (Nat.le_refl _) hW (show isS 1 by unfold isS; decide) (fun b x h e => hS b x h (e ▸ (show isS 1 by unfold isS; decide)))  hw
    refine z_callV (As := []) eX5_length sX5_length lX9_80 rfl dX9_firstWrong_239 (hW.sg (show isS 1 by unfold isS; decide) (fun b x h e => hS b x h (e ▸ (show isS 1 by unfold isS; decide)))).choose_spec.choose_spec.choose_spec.choose_spec.1.choose_spec.1 hX (Nat.le_trans (by decide) hd) rfl (Nat.le_of_ble_eq_true rfl) (fun r cs hp => ?_)
    obtain ⟨r7, S6, rfl, hw, hW⟩ := hp
    refine z_st (st' := [.int (Int32.ofInt (r7)), .int (Int32.ofInt (S3.1 220 3))]) rfl ?_
    obtain ⟨q9, hw⟩ := hw
    refine i_icmp_ge (tgt := 252) dX9_firstWrong_242 (by decide) (rngq q5 (by decide) (by decide)) q9 (fun h8 => ?_) (fun h8 => ?_)
    · have hw := hw.1 h8
      refine z_iconst (v := Int32.ofInt (-1)) dX9_firstWrong_252 rfl ?_
      exact z_ireturn dX9_firstWrong_253 rfl rfl (hP _ _ _ hw hW)
    · have hw := hw.2 h8
      refine z_aload_n dX9_firstWrong_245 rfl rfl ?_
      have q10 : iv (-2147483648) 2147483647 (S6.1 220 3) := hW.iI 220 3
      have hw := hw q10
      refine v_getI hW (hU 220 _ rfl) rfl kX9 fX9_9 dX9_firstWrong_246 ?_
      refine z_goto (tgt := 253) dX9_firstWrong_249 (by decide) ?_
      exact z_ireturn dX9_firstWrong_253 rfl rfl (hP _ _ _ hw hW)
  · have hw := hw.2 h2
    refine z_aload_n dX9_firstWrong_222 rfl rfl ?_
    refine v_getI hW (hU 220 _ rfl) rfl kX9 fX9_21 dX9_firstWrong_223 ?_
    exact z_ireturn dX9_firstWrong_226 rfl rfl (hP _ _ _ hw hW)
def wX9_firstWrong_208  (l1 : Int) (S : St) (K : Int → St → Prop) (B42 : Int → St → Prop) : Prop := B42 ((l1 + 1)) S
set_option maxRecDepth 100000 in
set_option maxHeartbeats 4000000 in
theorem ubX9_firstWrong_208 {G : xG} {v : Nat → Nat} {sh : Nat → Option Sh} {B : Nat × Nat} {c0 : List va_E} {d : Nat} {Post : xP} {l1 : Int} {S : St} {cs : List va_E} {K : Int → St → Prop} {B42 : Int → St → Prop} (hd : 9 ≤ d) (hT : sb shC sh) (hS : ∀ b x, sh b = some x → ¬ isS b) (hU : sb shXT sh) (hW : Wv G v sh B c0 S cs) (hP : ∀ (x : Int) (S : St) (cs : List va_E), K x S → Wv G v sh B c0 S cs → Post (some (.int (Int32.ofInt x))) cs) (hB42 : ∀ (l1 : Int) (S : St) (cs : List va_E), B42 l1 S → Wv G v sh B c0 S cs → Z (RX9, cX9_firstWrong, 2, some .int, false) G d Post 42 [(0, .ref (G.1 + v 220)), (1, .int (Int32.ofInt (l1)))] [] cs) (hw : wX9_firstWrong_208 l1 S K B42) : Z (RX9, cX9_firstWrong, 2, some .int, false) G d Post 208 [(0, .ref (G.1 + v 220)), (1, .int (Int32.ofInt (l1)))] [] cs := by
  unfold wX9_firstWrong_208 at hw
  refine i_iinc (l := l1) dX9_firstWrong_208 rfl (by decide) ?_
  refine z_loc (L' := [(0, .ref (G.1 + v 220)), (1, .int (Int32.ofInt ((l1 + 1))))]) (List.forall_mem_cons.mpr ⟨rfl, (List.forall_mem_cons.mpr ⟨rfl, (fun _ h => nomatch h)⟩)⟩) ?_
  refine z_goto (tgt := 42) dX9_firstWrong_211 (by decide) ?_
  refine z_loc (L' := [(0, .ref (G.1 + v 220)), (1, .int (Int32.ofInt ((l1 + 1))))]) (List.forall_mem_cons.mpr ⟨rfl, (List.forall_mem_cons.mpr ⟨rfl, (fun _ h => nomatch h)⟩)⟩) ?_
  exact hB42 _ _ _ hw hW
def wX9_firstWrong_193  (l1 : Int) (S : St) (K : Int → St → Prop) (B42 : Int → St → Prop) : Prop := (iv (-2147483648) 2147483647 (S.1 220 3) → (∀ S2, S2 = pI S 220 6 (S.1 220 3) → wX9_firstWrong_208 (l1) S2 K B42))
set_option maxRecDepth 100000 in
set_option maxHeartbeats 4000000 in
theorem ubX9_firstWrong_193 {G : xG} {v : Nat → Nat} {sh : Nat → Option Sh} {B : Nat × Nat} {c0 : List va_E} {d : Nat} {Post : xP} {l1 : Int} {S : St} {cs : List va_E} {K : Int → St → Prop} {B42 : Int → St → Prop} (hd : 9 ≤ d) (hT : sb shC sh) (hS : ∀ b x, sh b = some x → ¬ isS b) (hU : sb shXT sh) (hW : Wv G v sh B c0 S cs) (hP : ∀ (x : Int) (S : St) (cs : List va_E), K x S → Wv G v sh B c0 S cs → Post (some (.int (Int32.ofInt x))) cs) (hB42 : ∀ (l1 : Int) (S : St) (cs : List va_E), B42 l1 S → Wv G v sh B c0 S cs → Z (RX9, cX9_firstWrong, 2, some .int, false) G d Post 42 [(0, .ref (G.1 + v 220)), (1, .int (Int32.ofInt (l1)))] [] cs) (hw : wX9_firstWrong_193 l1 S K B42) : Z (RX9, cX9_firstWrong, 2, some .int, false) G d Post 193 [(0, .ref (G.1 + v 220)), (1, .int (Int32.ofInt (l1)))] [] cs := by
  unfold wX9_firstWrong_193 at hw
  refine z_aload_n dX9_firstWrong_193 rfl rfl ?_
  refine z_aload_n dX9_firstWrong_194 rfl rfl ?_
  have q1 : iv (-2147483648) 2147483647 (S.1 220 3) := hW.iI 220 3
  have hw := hw q1
  refine v_getI hW (hU 220 _ rfl) rfl kX9 fX9_9 dX9_firstWrong_195 ?_
  refine v_putI hW (hU 220 _ rfl) (by decide) (by unfold isS; decide) rfl kX9 fX9_21 dX9_firstWrong_198 rfl rfl rfl q1 (fun cs hW => ?_)
  obtain ⟨S2, hS2⟩ : ∃ x, x = pI S 220 6 (S.1 220 3) := ⟨_, rfl⟩
  rw [← hS2] at hW
  have hw := hw S2 hS2
  refine z_goto (tgt := 208) dX9_firstWrong_201 (by decide) ?_
  refine z_loc (L' := [(0, .ref (G.1 + v 220)), (1, .int (Int32.ofInt (l1)))]) (List.forall_mem_cons.mpr ⟨rfl, (List.forall_mem_cons.mpr ⟨rfl, (fun _ h => nomatch h)⟩)⟩) ?_
  exact ubX9_firstWrong_208 hd hT hS hU hW hP hB42 hw
def wX9_firstWrong_42'  (l1 : Int) (S : St) (K : Int → St → Prop) (B42 : Int → St → Prop) : Prop := (rng (l1) ∧ ((3000 ≤ l1 → wX9_firstWrong_214 S K) ∧ ((¬ (3000 ≤ l1)) → (iv (-2147483648) 2147483647 (S.1 220 6) → ((¬ S.1 220 6 = (-1) → wX9_firstWrong_214 S K) ∧ ((¬ (¬ S.1 220 6 = (-1))) → (iv (-1) 199 (S.1 220 4) → ((S.1 220 4 = (-1) → wX9_firstWrong_214 S K) ∧ ((¬ (S.1 220 4 = (-1))) → (iv (-2147483648) 2147483647 (S.1 220 3) → (wX5_at 1 (S.1 220 3) S (fun r9 S8 => (rng (r9) ∧ ((¬ r9 = (-1) → (iv (-2147483648) 2147483647 (S8.1 220 3) → (wX5_at 1 (S8.1 220 3) S8 (fun r14 S13 => (rng (r14) ∧ ((r14 = 60 → (iv (-2147483648) 2147483647 (S13.1 220 3) → (rng ((S13.1 220 3 + 1)) ∧ (wX5_at 1 ((S13.1 220 3 + 1)) S13 (fun r19 S18 => (rng (r19) ∧ ((¬ r19 = 47 → (wX9_comes S18 (fun r24 S23 => (rng (r24) ∧ ((r24 = 0 → (wX9_comes_b S23 (fun r28 S27 => (rng (r28) ∧ ((r28 = 0 → (wX6_size S27 (fun r32 S31 => (rng (r32) ∧ ((200 ≤ r32 → wX9_firstWrong_193 (l1) S31 K B42) ∧ ((¬ (200 ≤ r32)) → (iv (-2147483648) 2147483647 (S31.1 220 5) → ((S31.1 220 5 < 40 → (wX9_startTag S31 (fun r38 S37 => wX9_firstWrong_208 (l1) S37 K B42))) ∧ ((¬ (S31.1 220 5 < 40)) → wX9_firstWrong_193 (l1) S31 K B42))))))))) ∧ ((¬ (r28 = 0)) → (wX9_cdata S27 (fun r40 S39 => wX9_firstWrong_208 (l1) S39 K B42)))))))) ∧ ((¬ (r24 = 0)) → (wX9_comment S23 (fun r42 S41 => wX9_firstWrong_208 (l1) S41 K B42)))))))) ∧ ((¬ (¬ r19 = 47)) → (wX9_endTag S18 (fun r44 S43 => wX9_firstWrong_208 (l1) S43 K B42)))))))))) ∧ ((¬ (r14 = 60)) → (wX9_textSign S13 (fun r46 S45 => wX9_firstWrong_208 (l1) S45 K B42))))))))) ∧ ((¬ (¬ r9 = (-1))) → (iv (-2147483648) 2147483647 (S8.1 220 3) → (∀ S48, S48 = pI S8 220 6 (S8.1 220 3) → wX9_firstWrong_208 (l1) S48 K B42)))))))))))))))))
set_option maxRecDepth 100000 in
set_option maxHeartbeats 4000000 in
theorem ubX9_firstWrong_42' {G : xG} {v : Nat → Nat} {sh : Nat → Option Sh} {B : Nat × Nat} {c0 : List va_E} {d : Nat} {Post : xP} {l1 : Int} {S : St} {cs : List va_E} {K : Int → St → Prop} {B42 : Int → St → Prop} (hd : 9 ≤ d) (hT : sb shC sh) (hS : ∀ b x, sh b = some x → ¬ isS b) (hU : sb shXT sh) (hW : Wv G v sh B c0 S cs) (hP : ∀ (x : Int) (S : St) (cs : List va_E), K x S → Wv G v sh B c0 S cs → Post (some (.int (Int32.ofInt x))) cs) (hB42 : ∀ (l1 : Int) (S : St) (cs : List va_E), B42 l1 S → Wv G v sh B c0 S cs → Z (RX9, cX9_firstWrong, 2, some .int, false) G d Post 42 [(0, .ref (G.1 + v 220)), (1, .int (Int32.ofInt (l1)))] [] cs) (hw : wX9_firstWrong_42' l1 S K B42) : Z (RX9, cX9_firstWrong, 2, some .int, false) G d Post 42 [(0, .ref (G.1 + v 220)), (1, .int (Int32.ofInt (l1)))] [] cs := by
  unfold wX9_firstWrong_42' at hw
  refine z_iload_n dX9_firstWrong_42 rfl rfl ?_
  refine z_sipush (v := Int32.ofInt 3000) dX9_firstWrong_43 (by decide) ?_
  obtain ⟨q2, hw⟩ := hw
  refine i_icmp_ge (tgt := 214) dX9_firstWrong_46 (by decide) q2 ⟨by decide, by decide⟩ (fun h1 => ?_) (fun h1 => ?_)
  · have hw := hw.1 h1
    refine z_loc (L' := [(0, .ref (G.1 + v 220))]) (List.forall_mem_cons.mpr ⟨rfl, (fun _ h => nomatch h)⟩) ?_
    exact ubX9_firstWrong_214 hd hT hS hU hW hP  hw
  · have hw := hw.2 h1
    refine z_aload_n dX9_firstWrong_49 rfl rfl ?_
    have q3 : iv (-2147483648) 2147483647 (S.1 220 6) := hW.iI 220 6
    have hw := hw q3
    refine v_getI hW (hU 220 _ rfl) rfl kX9 fX9_21 dX9_firstWrong_50 ?_
    refine z_iconst (v := Int32.ofInt (-1)) dX9_firstWrong_53 rfl ?_
    refine i_icmp_ne (tgt := 214) dX9_firstWrong_54 (by decide) (rngq q3 (by decide) (by decide)) ⟨by decide, by decide⟩ (fun h4 => ?_) (fun h4 => ?_)
    · have hw := hw.1 h4
      refine z_loc (L' := [(0, .ref (G.1 + v 220))]) (List.forall_mem_cons.mpr ⟨rfl, (fun _ h => nomatch h)⟩) ?_
      exact ubX9_firstWrong_214 hd hT hS hU hW hP  hw
    · have hw := hw.2 h4
      refine z_aload_n dX9_firstWrong_57 rfl rfl ?_
      have q5 : iv (-1) 199 (S.1 220 4) := hW.iI 220 4
      have hw := hw q5
      refine v_getI hW (hU 220 _ rfl) rfl kX9 fX9_15 dX9_firstWrong_58 ?_
      refine z_iconst (v := Int32.ofInt (-1)) dX9_firstWrong_61 rfl ?_
      refine i_icmp_eq (tgt := 214) dX9_firstWrong_62 (by decide) (rngq q5 (by decide) (by decide)) ⟨by decide, by decide⟩ (fun h6 => ?_) (fun h6 => ?_)
      · have hw := hw.1 h6
        refine z_loc (L' := [(0, .ref (G.1 + v 220))]) (List.forall_mem_cons.mpr ⟨rfl, (fun _ h => nomatch h)⟩) ?_
        exact ubX9_firstWrong_214 hd hT hS hU hW hP  hw
      · have hw := hw.2 h6
        refine z_aload_n dX9_firstWrong_65 rfl rfl ?_
        refine v_getR hW (hU 220 _ rfl) rfl kX9 fX9_24 dX9_firstWrong_66 ?_
        refine z_aload_n dX9_firstWrong_69 rfl rfl ?_
        have q7 : iv (-2147483648) 2147483647 (S.1 220 3) := hW.iI 220 3
        have hw := hw q7
        refine v_getI hW (hU 220 _ rfl) rfl kX9 fX9_9 dX9_firstWrong_70 ?_
        have hX := lX5_at 0 (Nat.le_refl _) hW (show isS 1 by unfold isS; decide) (fun b x h e => hS b x h (e ▸ (show isS 1 by unfold isS; decide))) (rngq q7 (by decide) (by decide)) hw
        refine z_callV (As := [_]) eX5_at sX5_at lX9_47 rfl dX9_firstWrong_73 (hW.sg (show isS 1 by unfold isS; decide) (fun b x h e => hS b x h (e ▸ (show isS 1 by unfold isS; decide)))).choose_spec.choose_spec.choose_spec.choose_spec.1.choose_spec.1 hX (Nat.le_trans (by decide) hd) rfl (Nat.le_of_ble_eq_true rfl) (fun r cs hp => ?_)
        obtain ⟨r9, S8, rfl, hw, hW⟩ := hp
        refine z_st (st' := [.int (Int32.ofInt (r9))]) rfl ?_
        refine z_iconst (v := Int32.ofInt (-1)) dX9_firstWrong_76 rfl ?_
        obtain ⟨q11, hw⟩ := hw
        refine i_icmp_ne (tgt := 91) dX9_firstWrong_77 (by decide) q11 ⟨by decide, by decide⟩ (fun h10 => ?_) (fun h10 => ?_)
        · have hw := hw.1 h10
          refine z_aload_n dX9_firstWrong_91 rfl rfl ?_
          refine v_getR hW (hU 220 _ rfl) rfl kX9 fX9_24 dX9_firstWrong_92 ?_
          refine z_aload_n dX9_firstWrong_95 rfl rfl ?_
          have q12 : iv (-2147483648) 2147483647 (S8.1 220 3) := hW.iI 220 3
          have hw := hw q12
          refine v_getI hW (hU 220 _ rfl) rfl kX9 fX9_9 dX9_firstWrong_96 ?_
          have hX := lX5_at 0 (Nat.le_refl _) hW (show isS 1 by unfold isS; decide) (fun b x h e => hS b x h (e ▸ (show isS 1 by unfold isS; decide))) (rngq q12 (by decide) (by decide)) hw
          refine z_callV (As := [_]) eX5_at sX5_at lX9_47 rfl dX9_firstWrong_99 (hW.sg (show isS 1 by unfold isS; decide) (fun b x h e => hS b x h (e ▸ (show isS 1 by unfold isS; decide)))).choose_spec.choose_spec.choose_spec.choose_spec.1.choose_spec.1 hX (Nat.le_trans (by decide) hd) rfl (Nat.le_of_ble_eq_true rfl) (fun r cs hp => ?_)
          obtain ⟨r14, S13, rfl, hw, hW⟩ := hp
          refine z_st (st' := [.int (Int32.ofInt (r14))]) rfl ?_
          refine z_bipush (v := Int32.ofInt 60) dX9_firstWrong_102 (by decide) ?_
          obtain ⟨q16, hw⟩ := hw
          refine i_icmp_eq (tgt := 114) dX9_firstWrong_104 (by decide) q16 ⟨by decide, by decide⟩ (fun h15 => ?_) (fun h15 => ?_)
          · have hw := hw.1 h15
            refine z_aload_n dX9_firstWrong_114 rfl rfl ?_
            refine v_getR hW (hU 220 _ rfl) rfl kX9 fX9_24 dX9_firstWrong_115 ?_
            refine z_aload_n dX9_firstWrong_118 rfl rfl ?_
            have q17 : iv (-2147483648) 2147483647 (S13.1 220 3) := hW.iI 220 3
            have hw := hw q17
            refine v_getI hW (hU 220 _ rfl) rfl kX9 fX9_9 dX9_firstWrong_119 ?_
            refine z_iconst (v := Int32.ofInt 1) dX9_firstWrong_122 rfl ?_
            refine i_iadd dX9_firstWrong_123 ?_
            obtain ⟨q20, hw⟩ := hw
            have hX := lX5_at 0 (Nat.le_refl _) hW (show isS 1 by unfold isS; decide) (fun b x h e => hS b x h (e ▸ (show isS 1 by unfold isS; decide))) q20 hw
            refine z_callV (As := [_]) eX5_at sX5_at lX9_47 rfl dX9_firstWrong_124 (hW.sg (show isS 1 by unfold isS; decide) (fun b x h e => hS b x h (e ▸ (show isS 1 by unfold isS; decide)))).choose_spec.choose_spec.choose_spec.choose_spec.1.choose_spec.1 hX (Nat.le_trans (by decide) hd) rfl (Nat.le_of_ble_eq_true rfl) (fun r cs hp => ?_)
            obtain ⟨r19, S18, rfl, hw, hW⟩ := hp
            refine z_st (st' := [.int (Int32.ofInt (r19))]) rfl ?_
            refine z_bipush (v := Int32.ofInt 47) dX9_firstWrong_127 (by decide) ?_
            obtain ⟨q22, hw⟩ := hw
            refine i_icmp_ne (tgt := 139) dX9_firstWrong_129 (by decide) q22 ⟨by decide, by decide⟩ (fun h21 => ?_) (fun h21 => ?_)
            · have hw := hw.1 h21
              refine z_aload_n dX9_firstWrong_139 rfl rfl ?_
              refine z_ldcS (i := 20) (tx := "<!--") (by decide +kernel) dX9_firstWrong_140 ?_
              have hX := lX9_comes 4 (Nat.le_refl _) hT hS hU hW  hw
              refine z_callV (As := [_]) eX9_comes sX9_comes lX9_64 rfl dX9_firstWrong_142 (hW.at (hU 220 _ rfl)) hX (Nat.le_trans (by decide) hd) rfl (Nat.le_of_ble_eq_true rfl) (fun r cs hp => ?_)
              obtain ⟨r24, S23, rfl, hw, hW⟩ := hp
              refine z_st (st' := [.int (Int32.ofInt (r24))]) rfl ?_
              obtain ⟨q26, hw⟩ := hw
              refine i_if_eq (tgt := 155) dX9_firstWrong_145 (by decide) q26 (fun h25 => ?_) (fun h25 => ?_)
              · have hw := hw.1 h25
                refine z_aload_n dX9_firstWrong_155 rfl rfl ?_
                refine z_ldcS (i := 22) (tx := "<![CDATA[") (by decide +kernel) dX9_firstWrong_156 ?_
                have hX := lX9_comes_b 4 (Nat.le_refl _) hT hS hU hW  hw
                refine z_callV (As := [_]) eX9_comes sX9_comes lX9_64 rfl dX9_firstWrong_158 (hW.at (hU 220 _ rfl)) hX (Nat.le_trans (by decide) hd) rfl (Nat.le_of_ble_eq_true rfl) (fun r cs hp => ?_)
                obtain ⟨r28, S27, rfl, hw, hW⟩ := hp
                refine z_st (st' := [.int (Int32.ofInt (r28))]) rfl ?_
                obtain ⟨q30, hw⟩ := hw
                refine i_if_eq (tgt := 171) dX9_firstWrong_161 (by decide) q30 (fun h29 => ?_) (fun h29 => ?_)
                · have hw := hw.1 h29
                  refine z_aload_n dX9_firstWrong_171 rfl rfl ?_
                  refine v_getR hW (hU 220 _ rfl) rfl kX9 fX9_28 dX9_firstWrong_172 ?_
                  have hX := lX6_size 0 (Nat.le_refl _) hT hS (sbt sbX6_X9 hU) hW  hw
                  refine z_callV (As := []) eX6_size sX6_size lX9_76 rfl dX9_firstWrong_175 (hW.at (hU 3 _ rfl)) hX (Nat.le_trans (by decide) hd) rfl (Nat.le_of_ble_eq_true rfl) (fun r cs hp => ?_)
                  obtain ⟨r32, S31, rfl, hw, hW⟩ := hp
                  refine z_st (st' := [.int (Int32.ofInt (r32))]) rfl ?_
                  refine z_sipush (v := Int32.ofInt 200) dX9_firstWrong_178 (by decide) ?_
                  obtain ⟨q34, hw⟩ := hw
                  refine i_icmp_ge (tgt := 193) dX9_firstWrong_181 (by decide) q34 ⟨by decide, by decide⟩ (fun h33 => ?_) (fun h33 => ?_)
                  · have hw := hw.1 h33
                    refine z_loc (L' := [(0, .ref (G.1 + v 220)), (1, .int (Int32.ofInt (l1)))]) (List.forall_mem_cons.mpr ⟨rfl, (List.forall_mem_cons.mpr ⟨rfl, (fun _ h => nomatch h)⟩)⟩) ?_
                    exact ubX9_firstWrong_193 hd hT hS hU hW hP hB42 hw
                  · have hw := hw.2 h33
                    refine z_aload_n dX9_firstWrong_184 rfl rfl ?_
                    have q35 : iv (-2147483648) 2147483647 (S31.1 220 5) := hW.iI 220 5
                    have hw := hw q35
                    refine v_getI hW (hU 220 _ rfl) rfl kX9 fX9_18 dX9_firstWrong_185 ?_
                    refine z_bipush (v := Int32.ofInt 40) dX9_firstWrong_188 (by decide) ?_
                    refine i_icmp_lt (tgt := 204) dX9_firstWrong_190 (by decide) (rngq q35 (by decide) (by decide)) ⟨by decide, by decide⟩ (fun h36 => ?_) (fun h36 => ?_)
                    · have hw := hw.1 h36
                      refine z_aload_n dX9_firstWrong_204 rfl rfl ?_
                      have hX := lX9_startTag 8 (Nat.le_refl _) hT hS hU hW  hw
                      refine z_callV (As := []) eX9_startTag sX9_startTag lX9_53 rfl dX9_firstWrong_205 (hW.at (hU 220 _ rfl)) hX (Nat.le_trans (by decide) hd) rfl (Nat.le_of_ble_eq_true rfl) (fun r cs hp => ?_)
                      obtain ⟨r38, S37, rfl, hw, hW⟩ := hp
                      refine z_st (st' := []) rfl ?_
                      refine z_loc (L' := [(0, .ref (G.1 + v 220)), (1, .int (Int32.ofInt (l1)))]) (List.forall_mem_cons.mpr ⟨rfl, (List.forall_mem_cons.mpr ⟨rfl, (fun _ h => nomatch h)⟩)⟩) ?_
                      exact ubX9_firstWrong_208 hd hT hS hU hW hP hB42 hw
                    · have hw := hw.2 h36
                      refine z_loc (L' := [(0, .ref (G.1 + v 220)), (1, .int (Int32.ofInt (l1)))]) (List.forall_mem_cons.mpr ⟨rfl, (List.forall_mem_cons.mpr ⟨rfl, (fun _ h => nomatch h)⟩)⟩) ?_
                      exact ubX9_firstWrong_193 hd hT hS hU hW hP hB42 hw
                · have hw := hw.2 h29
                  refine z_aload_n dX9_firstWrong_164 rfl rfl ?_
                  have hX := lX9_cdata 5 (Nat.le_refl _) hT hS hU hW  hw
                  refine z_callV (As := []) eX9_cdata sX9_cdata lX9_73 rfl dX9_firstWrong_165 (hW.at (hU 220 _ rfl)) hX (Nat.le_trans (by decide) hd) rfl (Nat.le_of_ble_eq_true rfl) (fun r cs hp => ?_)
                  obtain ⟨r40, S39, rfl, hw, hW⟩ := hp
                  refine z_st (st' := []) rfl ?_
                  refine z_goto (tgt := 208) dX9_firstWrong_168 (by decide) ?_
                  refine z_loc (L' := [(0, .ref (G.1 + v 220)), (1, .int (Int32.ofInt (l1)))]) (List.forall_mem_cons.mpr ⟨rfl, (List.forall_mem_cons.mpr ⟨rfl, (fun _ h => nomatch h)⟩)⟩) ?_
                  exact ubX9_firstWrong_208 hd hT hS hU hW hP hB42 hw
              · have hw := hw.2 h25
                refine z_aload_n dX9_firstWrong_148 rfl rfl ?_
                have hX := lX9_comment 5 (Nat.le_refl _) hT hS hU hW  hw
                refine z_callV (As := []) eX9_comment sX9_comment lX9_68 rfl dX9_firstWrong_149 (hW.at (hU 220 _ rfl)) hX (Nat.le_trans (by decide) hd) rfl (Nat.le_of_ble_eq_true rfl) (fun r cs hp => ?_)
                obtain ⟨r42, S41, rfl, hw, hW⟩ := hp
                refine z_st (st' := []) rfl ?_
                refine z_goto (tgt := 208) dX9_firstWrong_152 (by decide) ?_
                refine z_loc (L' := [(0, .ref (G.1 + v 220)), (1, .int (Int32.ofInt (l1)))]) (List.forall_mem_cons.mpr ⟨rfl, (List.forall_mem_cons.mpr ⟨rfl, (fun _ h => nomatch h)⟩)⟩) ?_
                exact ubX9_firstWrong_208 hd hT hS hU hW hP hB42 hw
            · have hw := hw.2 h21
              refine z_aload_n dX9_firstWrong_132 rfl rfl ?_
              have hX := lX9_endTag 3 (Nat.le_refl _) hT hS hU hW  hw
              refine z_callV (As := []) eX9_endTag sX9_endTag lX9_59 rfl dX9_firstWrong_133 (hW.at (hU 220 _ rfl)) hX (Nat.le_trans (by decide) hd) rfl (Nat.le_of_ble_eq_true rfl) (fun r cs hp => ?_)
              obtain ⟨r44, S43, rfl, hw, hW⟩ := hp
              refine z_st (st' := []) rfl ?_
              refine z_goto (tgt := 208) dX9_firstWrong_136 (by decide) ?_
              refine z_loc (L' := [(0, .ref (G.1 + v 220)), (1, .int (Int32.ofInt (l1)))]) (List.forall_mem_cons.mpr ⟨rfl, (List.forall_mem_cons.mpr ⟨rfl, (fun _ h => nomatch h)⟩)⟩) ?_
              exact ubX9_firstWrong_208 hd hT hS hU hW hP hB42 hw
          · have hw := hw.2 h15
            refine z_aload_n dX9_firstWrong_107 rfl rfl ?_
            have hX := lX9_textSign 7 (Nat.le_refl _) hT hS hU hW  hw
            refine z_callV (As := []) eX9_textSign sX9_textSign lX9_56 rfl dX9_firstWrong_108 (hW.at (hU 220 _ rfl)) hX (Nat.le_trans (by decide) hd) rfl (Nat.le_of_ble_eq_true rfl) (fun r cs hp => ?_)
            obtain ⟨r46, S45, rfl, hw, hW⟩ := hp
            refine z_st (st' := []) rfl ?_
            refine z_goto (tgt := 208) dX9_firstWrong_111 (by decide) ?_
            refine z_loc (L' := [(0, .ref (G.1 + v 220)), (1, .int (Int32.ofInt (l1)))]) (List.forall_mem_cons.mpr ⟨rfl, (List.forall_mem_cons.mpr ⟨rfl, (fun _ h => nomatch h)⟩)⟩) ?_
            exact ubX9_firstWrong_208 hd hT hS hU hW hP hB42 hw
        · have hw := hw.2 h10
          refine z_aload_n dX9_firstWrong_80 rfl rfl ?_
          refine z_aload_n dX9_firstWrong_81 rfl rfl ?_
          have q47 : iv (-2147483648) 2147483647 (S8.1 220 3) := hW.iI 220 3
          have hw := hw q47
          refine v_getI hW (hU 220 _ rfl) rfl kX9 fX9_9 dX9_firstWrong_82 ?_
          refine v_putI hW (hU 220 _ rfl) (by decide) (by unfold isS; decide) rfl kX9 fX9_21 dX9_firstWrong_85 rfl rfl rfl q47 (fun cs hW => ?_)
          obtain ⟨S48, hS48⟩ : ∃ x, x = pI S8 220 6 (S8.1 220 3) := ⟨_, rfl⟩
          rw [← hS48] at hW
          have hw := hw S48 hS48
          refine z_goto (tgt := 208) dX9_firstWrong_88 (by decide) ?_
          refine z_loc (L' := [(0, .ref (G.1 + v 220)), (1, .int (Int32.ofInt (l1)))]) (List.forall_mem_cons.mpr ⟨rfl, (List.forall_mem_cons.mpr ⟨rfl, (fun _ h => nomatch h)⟩)⟩) ?_
          exact ubX9_firstWrong_208 hd hT hS hU hW hP hB42 hw
def wX9_firstWrong_42  (l1 : Int) (S : St) (K : Int → St → Prop) : Prop := ∃ (Iv : Int → St → Prop) (mu : Int → St → Nat), Iv l1 S ∧ ∀ (l1 : Int) (S : St), Iv l1 S → wX9_firstWrong_42' l1 S K  (fun ml1 T => Iv ml1 T ∧ mu ml1 T < mu l1 S)
set_option maxRecDepth 100000 in
set_option maxHeartbeats 4000000 in
theorem ubX9_firstWrong_42 {G : xG} {v : Nat → Nat} {sh : Nat → Option Sh} {B : Nat × Nat} {c0 : List va_E} {d : Nat} {Post : xP} {l1 : Int} {S : St} {cs : List va_E} {K : Int → St → Prop} (hd : 9 ≤ d) (hT : sb shC sh) (hS : ∀ b x, sh b = some x → ¬ isS b) (hU : sb shXT sh) (hW : Wv G v sh B c0 S cs) (hP : ∀ (x : Int) (S : St) (cs : List va_E), K x S → Wv G v sh B c0 S cs → Post (some (.int (Int32.ofInt x))) cs)  (hw : wX9_firstWrong_42 l1 S K ) : Z (RX9, cX9_firstWrong, 2, some .int, false) G d Post 42 [(0, .ref (G.1 + v 220)), (1, .int (Int32.ofInt (l1)))] [] cs := by
  unfold wX9_firstWrong_42 at hw
  obtain ⟨Iv, mu, h0, hs⟩ := hw
  have key : ∀ (n : Nat) (l1 : Int) (S : St) (cs : List va_E), mu l1 S < n → Iv l1 S → Wv G v sh B c0 S cs → Z (RX9, cX9_firstWrong, 2, some .int, false) G d Post 42 [(0, .ref (G.1 + v 220)), (1, .int (Int32.ofInt (l1)))] [] cs := by
    intro n
    induction n with
    | zero => intro l1 S cs hn; exact absurd hn (Nat.not_lt_zero _)
    | succ n ih =>
      intro l1 S cs hn hI hW
      exact ubX9_firstWrong_42' hd hT hS hU hW hP  (fun l1 S cs hb hW => ih l1 S cs (Nat.lt_of_lt_of_le hb.2 (Nat.le_of_lt_succ hn)) hb.1 hW) (hs l1 S hI)
  exact key _ _ _ _ (Nat.lt_succ_self _) h0 hW
def wX9_firstWrong_11  (S : St) (K : Int → St → Prop) : Prop := (wX9_skipBlanks S (fun r2 S1 => (iv (-2147483648) 2147483647 (S1.1 220 3) → (wX5_at 1 (S1.1 220 3) S1 (fun r5 S4 => (rng (r5) ∧ ((r5 = 60 → (wX9_startTag S4 (fun r9 S8 => wX9_firstWrong_42 (0) S8 K))) ∧ ((¬ (r5 = 60)) → (iv (-2147483648) 2147483647 (S4.1 220 3) → K (S4.1 220 3) S4)))))))))
set_option maxRecDepth 100000 in
set_option maxHeartbeats 4000000 in
theorem ubX9_firstWrong_11 {G : xG} {v : Nat → Nat} {sh : Nat → Option Sh} {B : Nat × Nat} {c0 : List va_E} {d : Nat} {Post : xP} {S : St} {cs : List va_E} {K : Int → St → Prop} (hd : 9 ≤ d) (hT : sb shC sh) (hS : ∀ b x, sh b = some x → ¬ isS b) (hU : sb shXT sh) (hW : Wv G v sh B c0 S cs) (hP : ∀ (x : Int) (S : St) (cs : List va_E), K x S → Wv G v sh B c0 S cs → Post (some (.int (Int32.ofInt x))) cs)  (hw : wX9_firstWrong_11  S K ) : Z (RX9, cX9_firstWrong, 2, some .int, false) G d Post 11 [(0, .ref (G.1 + v 220))] [] cs := by
  unfold wX9_firstWrong_11 at hw
  refine z_aload_n dX9_firstWrong_11 rfl rfl ?_
  have hX := lX9_skipBlanks 1 (Nat.le_refl _) hT hS hU hW  hw
  refine z_callV (As := []) eX9_skipBlanks sX9_skipBlanks lX9_44 rfl dX9_firstWrong_12 (hW.at (hU 220 _ rfl)) hX (Nat.le_trans (by decide) hd) rfl (Nat.le_of_ble_eq_true rfl) (fun r cs hp => ?_)
  obtain ⟨r2, S1, rfl, hw, hW⟩ := hp
  refine z_st (st' := []) rfl ?_
  refine z_aload_n dX9_firstWrong_15 rfl rfl ?_
  refine v_getR hW (hU 220 _ rfl) rfl kX9 fX9_24 dX9_firstWrong_16 ?_
  refine z_aload_n dX9_firstWrong_19 rfl rfl ?_
  have q3 : iv (-2147483648) 2147483647 (S1.1 220 3) := hW.iI 220 3
  have hw := hw q3
  refine v_getI hW (hU 220 _ rfl) rfl kX9 fX9_9 dX9_firstWrong_20 ?_
  have hX := lX5_at 0 (Nat.le_refl _) hW (show isS 1 by unfold isS; decide) (fun b x h e => hS b x h (e ▸ (show isS 1 by unfold isS; decide))) (rngq q3 (by decide) (by decide)) hw
  refine z_callV (As := [_]) eX5_at sX5_at lX9_47 rfl dX9_firstWrong_23 (hW.sg (show isS 1 by unfold isS; decide) (fun b x h e => hS b x h (e ▸ (show isS 1 by unfold isS; decide)))).choose_spec.choose_spec.choose_spec.choose_spec.1.choose_spec.1 hX (Nat.le_trans (by decide) hd) rfl (Nat.le_of_ble_eq_true rfl) (fun r cs hp => ?_)
  obtain ⟨r5, S4, rfl, hw, hW⟩ := hp
  refine z_st (st' := [.int (Int32.ofInt (r5))]) rfl ?_
  refine z_bipush (v := Int32.ofInt 60) dX9_firstWrong_26 (by decide) ?_
  obtain ⟨q7, hw⟩ := hw
  refine i_icmp_eq (tgt := 36) dX9_firstWrong_28 (by decide) q7 ⟨by decide, by decide⟩ (fun h6 => ?_) (fun h6 => ?_)
  · have hw := hw.1 h6
    refine z_aload_n dX9_firstWrong_36 rfl rfl ?_
    have hX := lX9_startTag 8 (Nat.le_refl _) hT hS hU hW  hw
    refine z_callV (As := []) eX9_startTag sX9_startTag lX9_53 rfl dX9_firstWrong_37 (hW.at (hU 220 _ rfl)) hX (Nat.le_trans (by decide) hd) rfl (Nat.le_of_ble_eq_true rfl) (fun r cs hp => ?_)
    obtain ⟨r9, S8, rfl, hw, hW⟩ := hp
    refine z_st (st' := []) rfl ?_
    refine z_iconst (v := Int32.ofInt 0) dX9_firstWrong_40 rfl ?_
    refine z_istore_n dX9_firstWrong_41 rfl (by decide) ?_
    refine z_loc (L' := [(0, .ref (G.1 + v 220)), (1, .int (Int32.ofInt (0)))]) (List.forall_mem_cons.mpr ⟨rfl, (List.forall_mem_cons.mpr ⟨rfl, (fun _ h => nomatch h)⟩)⟩) ?_
    refine z_loc (L' := [(0, .ref (G.1 + v 220)), (1, .int (Int32.ofInt (0)))]) (List.forall_mem_cons.mpr ⟨rfl, (List.forall_mem_cons.mpr ⟨rfl, (fun _ h => nomatch h)⟩)⟩) ?_
    exact ubX9_firstWrong_42 hd hT hS hU hW hP  hw
  · have hw := hw.2 h6
    refine z_aload_n dX9_firstWrong_31 rfl rfl ?_
    have q10 : iv (-2147483648) 2147483647 (S4.1 220 3) := hW.iI 220 3
    have hw := hw q10
    refine v_getI hW (hU 220 _ rfl) rfl kX9 fX9_9 dX9_firstWrong_32 ?_
    exact z_ireturn dX9_firstWrong_35 rfl rfl (hP _ _ _ hw hW)

def wX1_hasCell_b  (a1 a2 a3 : Int) (S : St) (K : Int → St → Prop) : Prop := rng a1 → rng a2 → rng a3 → ((a1 < 0 → K (0) S) ∧ ((¬ (a1 < 0)) → (iv 0 30 (S.1 50 3) → ((S.1 50 3 ≤ a1 → K (0) S) ∧ ((¬ (S.1 50 3 ≤ a1)) → ((a2 < 0 → K (0) S) ∧ ((¬ (a2 < 0)) → ((4 ≤ a2 → K (0) S) ∧ ((¬ (4 ≤ a2)) → ((a3 < 0 → K (0) S) ∧ ((¬ (a3 < 0)) → ((20 ≤ a3 → K (0) S) ∧ ((¬ (20 ≤ a3)) → ((0 : Int) ≤ ((a1 * 4) + a2) ∧ ((a1 * 4) + a2) < (120 : Int) ∧ (iv (-2147483648) 2147483647 (S.2 52 (((a1 * 4) + a2))) → ((S.2 52 (((a1 * 4) + a2)) ≤ a3 → K (0) S) ∧ ((¬ (S.2 52 (((a1 * 4) + a2)) ≤ a3)) → K (1) S)))))))))))))))))
set_option maxRecDepth 100000 in
set_option maxHeartbeats 4000000 in
theorem lX1_hasCell_b {G : xG} {v : Nat → Nat} {sh : Nat → Option Sh} {B : Nat × Nat} {c0 : List va_E}  {a1 a2 a3 : Int} {S : St} {cs : List va_E} {K : Int → St → Prop} (d : Nat) (hd : 0 ≤ d) (hT : sb shC sh) (hS : ∀ b x, sh b = some x → ¬ isS b) (hW : Wv G v sh B c0 S cs) (g1 : rng a1) (g2 : rng a2) (g3 : rng a3) (hw : wX1_hasCell_b a1 a2 a3 S K) : X G yX1_hasCell cX1_hasCell 4 (some .boolean) d [.ref (G.1 + v 50), .int (Int32.ofInt a1), .int (Int32.ofInt a2), .int (Int32.ofInt a3)] cs (vI G v sh B c0 K) := by
  refine X.of false (by decide +kernel) (by decide) (Nat.le_of_ble_eq_true rfl) ?_
  show Z (RX1, cX1_hasCell, 4, some .boolean, false) G d _ 0 [(0, .ref (G.1 + v 50)), (1, .int (Int32.ofInt a1)), (2, .int (Int32.ofInt a2)), (3, .int (Int32.ofInt a3))] [] cs
  have hP : ∀ (x : Int) (S : St) (cs : List va_E), K x S → Wv G v sh B c0 S cs → vI G v sh B c0 K (some (.int (Int32.ofInt x))) cs := fun x S cs a b => ⟨x, S, rfl, a, b⟩
  unfold wX1_hasCell_b at hw
  have hw := hw g1 g2 g3
  refine z_iload_n dX1_hasCell_0 rfl rfl ?_
  refine i_if_lt (tgt := 49) dX1_hasCell_1 (by decide) g1 (fun h1 => ?_) (fun h1 => ?_)
  · have hw := hw.1 h1
    refine z_iconst (v := Int32.ofInt 0) dX1_hasCell_49 rfl ?_
    exact z_ireturn dX1_hasCell_50 rfl (nar01 (by decide)) (hP _ _ _ hw hW)
  · have hw := hw.2 h1
    refine z_iload_n dX1_hasCell_4 rfl rfl ?_
    refine z_aload_n dX1_hasCell_5 rfl rfl ?_
    have q2 : iv 0 30 (S.1 50 3) := hW.iI 50 3
    have hw := hw q2
    refine v_getI hW (hT 50 _ rfl) rfl kX1 fX1_21 dX1_hasCell_6 ?_
    refine i_icmp_ge (tgt := 49) dX1_hasCell_9 (by decide) g1 (rngq q2 (by decide) (by decide)) (fun h3 => ?_) (fun h3 => ?_)
    · have hw := hw.1 h3
      refine z_iconst (v := Int32.ofInt 0) dX1_hasCell_49 rfl ?_
      exact z_ireturn dX1_hasCell_50 rfl (nar01 (by decide)) (hP _ _ _ hw hW)
    · have hw := hw.2 h3
      refine z_iload_n dX1_hasCell_12 rfl rfl ?_
      refine i_if_lt (tgt := 49) dX1_hasCell_13 (by decide) g2 (fun h4 => ?_) (fun h4 => ?_)
      · have hw := hw.1 h4
        refine z_iconst (v := Int32.ofInt 0) dX1_hasCell_49 rfl ?_
        exact z_ireturn dX1_hasCell_50 rfl (nar01 (by decide)) (hP _ _ _ hw hW)
      · have hw := hw.2 h4
        refine z_iload_n dX1_hasCell_16 rfl rfl ?_
        refine z_iconst (v := Int32.ofInt 4) dX1_hasCell_17 rfl ?_
        refine i_icmp_ge (tgt := 49) dX1_hasCell_18 (by decide) g2 ⟨by decide, by decide⟩ (fun h5 => ?_) (fun h5 => ?_)
        · have hw := hw.1 h5
          refine z_iconst (v := Int32.ofInt 0) dX1_hasCell_49 rfl ?_
          exact z_ireturn dX1_hasCell_50 rfl (nar01 (by decide)) (hP _ _ _ hw hW)
        · have hw := hw.2 h5
          refine z_iload_n dX1_hasCell_21 rfl rfl ?_
          refine i_if_lt (tgt := 49) dX1_hasCell_22 (by decide) g3 (fun h6 => ?_) (fun h6 => ?_)
          · have hw := hw.1 h6
            refine z_iconst (v := Int32.ofInt 0) dX1_hasCell_49 rfl ?_
            exact z_ireturn dX1_hasCell_50 rfl (nar01 (by decide)) (hP _ _ _ hw hW)
          · have hw := hw.2 h6
            refine z_iload_n dX1_hasCell_25 rfl rfl ?_
            refine z_bipush (v := Int32.ofInt 20) dX1_hasCell_26 (by decide) ?_
            refine i_icmp_ge (tgt := 49) dX1_hasCell_28 (by decide) g3 ⟨by decide, by decide⟩ (fun h7 => ?_) (fun h7 => ?_)
            · have hw := hw.1 h7
              refine z_iconst (v := Int32.ofInt 0) dX1_hasCell_49 rfl ?_
              exact z_ireturn dX1_hasCell_50 rfl (nar01 (by decide)) (hP _ _ _ hw hW)
            · have hw := hw.2 h7
              refine z_iload_n dX1_hasCell_31 rfl rfl ?_
              refine z_aload_n dX1_hasCell_32 rfl rfl ?_
              refine v_getR hW (hT 50 _ rfl) rfl kX1 fX1_15 dX1_hasCell_33 ?_
              refine z_iload_n dX1_hasCell_36 rfl rfl ?_
              refine z_iconst (v := Int32.ofInt 4) dX1_hasCell_37 rfl ?_
              refine i_imul dX1_hasCell_38 ?_
              refine z_iload_n dX1_hasCell_39 rfl rfl ?_
              refine i_iadd dX1_hasCell_40 ?_
              obtain ⟨q8a, q8b, hw⟩ := hw
              have q9 : iv (-2147483648) 2147483647 (S.2 52 (((a1 * 4) + a2))) := hW.iA 52 _
              have hw := hw q9
              refine v_iald hW (hT 52 _ rfl) q8a q8b (by decide) dX1_hasCell_41 ?_
              refine i_icmp_ge (tgt := 49) dX1_hasCell_42 (by decide) g3 (rngq q9 (by decide) (by decide)) (fun h10 => ?_) (fun h10 => ?_)
              · have hw := hw.1 h10
                refine z_iconst (v := Int32.ofInt 0) dX1_hasCell_49 rfl ?_
                exact z_ireturn dX1_hasCell_50 rfl (nar01 (by decide)) (hP _ _ _ hw hW)
              · have hw := hw.2 h10
                refine z_iconst (v := Int32.ofInt 1) dX1_hasCell_45 rfl ?_
                refine z_goto (tgt := 50) dX1_hasCell_46 (by decide) ?_
                exact z_ireturn dX1_hasCell_50 rfl (nar01 (by decide)) (hP _ _ _ hw hW)

def wX1_putCell_b  (a1 a2 a3 a4 : Int) (S : St) (K : Int → St → Prop) : Prop := rng a1 → rng a2 → rng a3 → rng a4 → (wX1_hasCell_b (a1) (a2) (a3) S (fun r2 S1 => (rng (r2) ∧ ((r2 = 0 → K 0 S1) ∧ ((¬ (r2 = 0)) → ((0 : Int) ≤ ((((a1 * 4) + a2) * 20) + a3) ∧ ((((a1 * 4) + a2) * 20) + a3) < (2400 : Int) ∧ (iv (-2147483648) 2147483647 (a4) ∧ (∀ S6, S6 = pA S1 53 (((((a1 * 4) + a2) * 20) + a3)) (a4) → K 0 S6))))))))
set_option maxRecDepth 100000 in
set_option maxHeartbeats 4000000 in
theorem lX1_putCell_b {G : xG} {v : Nat → Nat} {sh : Nat → Option Sh} {B : Nat × Nat} {c0 : List va_E}  {a1 a2 a3 a4 : Int} {S : St} {cs : List va_E} {K : Int → St → Prop} (d : Nat) (hd : 1 ≤ d) (hT : sb shC sh) (hS : ∀ b x, sh b = some x → ¬ isS b) (hW : Wv G v sh B c0 S cs) (g1 : rng a1) (g2 : rng a2) (g3 : rng a3) (g4 : rng a4) (hw : wX1_putCell_b a1 a2 a3 a4 S K) : X G yX1_putCell cX1_putCell 5 none d [.ref (G.1 + v 50), .int (Int32.ofInt a1), .int (Int32.ofInt a2), .int (Int32.ofInt a3), .int (Int32.ofInt a4)] cs (vV G v sh B c0 K) := by
  refine X.of false (by decide +kernel) (by decide) (Nat.le_of_ble_eq_true rfl) ?_
  show Z (RX1, cX1_putCell, 5, none, false) G d _ 0 [(0, .ref (G.1 + v 50)), (1, .int (Int32.ofInt a1)), (2, .int (Int32.ofInt a2)), (3, .int (Int32.ofInt a3)), (4, .int (Int32.ofInt a4))] [] cs
  have hP : ∀ (x : Int) (S : St) (cs : List va_E), K x S → Wv G v sh B c0 S cs → vV G v sh B c0 K (none) cs := fun x S cs a b => ⟨x, S, rfl, a, b⟩
  unfold wX1_putCell_b at hw
  have hw := hw g1 g2 g3 g4
  refine z_aload_n dX1_putCell_0 rfl rfl ?_
  refine z_iload_n dX1_putCell_1 rfl rfl ?_
  refine z_iload_n dX1_putCell_2 rfl rfl ?_
  refine z_iload_n dX1_putCell_3 rfl rfl ?_
  have hX := lX1_hasCell_b 0 (Nat.le_refl _) hT hS hW g1 g2 g3 hw
  refine z_callV (As := [_, _, _]) eX1_hasCell sX1_hasCell lX1_33 rfl dX1_putCell_4 (hW.at (hT 50 _ rfl)) hX (Nat.le_trans (by decide) hd) rfl (Nat.le_of_ble_eq_true rfl) (fun r cs hp => ?_)
  obtain ⟨r2, S1, rfl, hw, hW⟩ := hp
  refine z_st (st' := [.int (Int32.ofInt (r2))]) rfl ?_
  obtain ⟨q4, hw⟩ := hw
  refine i_if_eq (tgt := 27) dX1_putCell_7 (by decide) q4 (fun h3 => ?_) (fun h3 => ?_)
  · have hw := hw.1 h3
    exact z_return dX1_putCell_27 rfl (hP 0 _ _ hw hW)
  · have hw := hw.2 h3
    refine z_aload_n dX1_putCell_10 rfl rfl ?_
    refine v_getR hW (hT 50 _ rfl) rfl kX1 fX1_18 dX1_putCell_11 ?_
    refine z_iload_n dX1_putCell_14 rfl rfl ?_
    refine z_iconst (v := Int32.ofInt 4) dX1_putCell_15 rfl ?_
    refine i_imul dX1_putCell_16 ?_
    refine z_iload_n dX1_putCell_17 rfl rfl ?_
    refine i_iadd dX1_putCell_18 ?_
    refine z_bipush (v := Int32.ofInt 20) dX1_putCell_19 (by decide) ?_
    refine i_imul dX1_putCell_21 ?_
    refine z_iload_n dX1_putCell_22 rfl rfl ?_
    refine i_iadd dX1_putCell_23 ?_
    refine z_iload dX1_putCell_24 rfl ?_
    obtain ⟨q5a, q5b, hw⟩ := hw
    obtain ⟨q7, hw⟩ := hw
    refine v_iast hW (hT 53 _ rfl) (by decide) (by unfold isS; decide) q5a q5b (by decide) q7 dX1_putCell_26 (fun cs hW => ?_)
    obtain ⟨S6, hS6⟩ : ∃ x, x = pA S1 53 (((((a1 * 4) + a2) * 20) + a3)) (a4) := ⟨_, rfl⟩
    rw [← hS6] at hW
    have hw := hw S6 hS6
    exact z_return dX1_putCell_27 rfl (hP 0 _ _ hw hW)

def wX1_has_b  (a1 : Int) (S : St) (K : Int → St → Prop) : Prop := rng a1 → ((a1 < 0 → K (0) S) ∧ ((¬ (a1 < 0)) → (iv 0 30 (S.1 50 3) → ((S.1 50 3 ≤ a1 → K (0) S) ∧ ((¬ (S.1 50 3 ≤ a1)) → K (1) S)))))
set_option maxRecDepth 100000 in
set_option maxHeartbeats 4000000 in
theorem lX1_has_b {G : xG} {v : Nat → Nat} {sh : Nat → Option Sh} {B : Nat × Nat} {c0 : List va_E}  {a1 : Int} {S : St} {cs : List va_E} {K : Int → St → Prop} (d : Nat) (hd : 0 ≤ d) (hT : sb shC sh) (hS : ∀ b x, sh b = some x → ¬ isS b) (hW : Wv G v sh B c0 S cs) (g1 : rng a1) (hw : wX1_has_b a1 S K) : X G yX1_has cX1_has 2 (some .boolean) d [.ref (G.1 + v 50), .int (Int32.ofInt a1)] cs (vI G v sh B c0 K) := by
  refine X.of false (by decide +kernel) (by decide) (Nat.le_of_ble_eq_true rfl) ?_
  show Z (RX1, cX1_has, 2, some .boolean, false) G d _ 0 [(0, .ref (G.1 + v 50)), (1, .int (Int32.ofInt a1))] [] cs
  have hP : ∀ (x : Int) (S : St) (cs : List va_E), K x S → Wv G v sh B c0 S cs → vI G v sh B c0 K (some (.int (Int32.ofInt x))) cs := fun x S cs a b => ⟨x, S, rfl, a, b⟩
  unfold wX1_has_b at hw
  have hw := hw g1
  refine z_iload_n dX1_has_0 rfl rfl ?_
  refine i_if_lt (tgt := 16) dX1_has_1 (by decide) g1 (fun h1 => ?_) (fun h1 => ?_)
  · have hw := hw.1 h1
    refine z_iconst (v := Int32.ofInt 0) dX1_has_16 rfl ?_
    exact z_ireturn dX1_has_17 rfl (nar01 (by decide)) (hP _ _ _ hw hW)
  · have hw := hw.2 h1
    refine z_iload_n dX1_has_4 rfl rfl ?_
    refine z_aload_n dX1_has_5 rfl rfl ?_
    have q2 : iv 0 30 (S.1 50 3) := hW.iI 50 3
    have hw := hw q2
    refine v_getI hW (hT 50 _ rfl) rfl kX1 fX1_21 dX1_has_6 ?_
    refine i_icmp_ge (tgt := 16) dX1_has_9 (by decide) g1 (rngq q2 (by decide) (by decide)) (fun h3 => ?_) (fun h3 => ?_)
    · have hw := hw.1 h3
      refine z_iconst (v := Int32.ofInt 0) dX1_has_16 rfl ?_
      exact z_ireturn dX1_has_17 rfl (nar01 (by decide)) (hP _ _ _ hw hW)
    · have hw := hw.2 h3
      refine z_iconst (v := Int32.ofInt 1) dX1_has_12 rfl ?_
      refine z_goto (tgt := 17) dX1_has_13 (by decide) ?_
      exact z_ireturn dX1_has_17 rfl (nar01 (by decide)) (hP _ _ _ hw hW)

