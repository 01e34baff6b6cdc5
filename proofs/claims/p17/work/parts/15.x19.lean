def wX9_startTag_127  (l2 l3 : Int) (S : St) (K : Int → St → Prop) : Prop := (iv (-2147483648) 2147483647 (S.1 220 3) → (wX5_at 1 (S.1 220 3) S (fun r3 S2 => (rng (r3) ∧ ((r3 = 62 → (iv (-2147483648) 2147483647 (S2.1 220 3) → (iv (-2147483648) 2147483647 ((S2.1 220 3 + 1)) ∧ (∀ S7, S7 = pI S2 220 3 ((S2.1 220 3 + 1)) → (rng (l2) ∧ (wX6_beginText (l2) S7 (fun r10 S9 => (rng (l3) ∧ ((¬ l3 = 0 → K 0 S9) ∧ ((¬ (¬ l3 = 0)) → (iv (-1) 199 (l2) ∧ (∀ S14, S14 = pI S9 220 4 (l2) → (iv (-2147483648) 2147483647 (S14.1 220 5) → (iv (-2147483648) 2147483647 ((S14.1 220 5 + 1)) ∧ (∀ S17, S17 = pI S14 220 5 ((S14.1 220 5 + 1)) → K 0 S17))))))))))))))) ∧ ((¬ (r3 = 62)) → (iv (-2147483648) 2147483647 (S2.1 220 3) → (∀ S20, S20 = pI S2 220 6 (S2.1 220 3) → K 0 S20))))))))
set_option maxRecDepth 100000 in
set_option maxHeartbeats 4000000 in
theorem ubX9_startTag_127 {G : xG} {v : Nat → Nat} {sh : Nat → Option Sh} {B : Nat × Nat} {c0 : List va_E} {d : Nat} {Post : xP} {l2 l3 : Int} {S : St} {cs : List va_E} {K : Int → St → Prop} (hd : 8 ≤ d) (hT : sb shC sh) (hS : ∀ b x, sh b = some x → ¬ isS b) (hU : sb shXT sh) (hW : Wv G v sh B c0 S cs) (hP : ∀ (x : Int) (S : St) (cs : List va_E), K x S → Wv G v sh B c0 S cs → Post (none) cs)  (hw : wX9_startTag_127 l2 l3 S K ) : Z (RX9, cX9_startTag, 4, none, false) G d Post 127 [(0, .ref (G.1 + v 220)), (2, .int (Int32.ofInt (l2))), (3, .int (Int32.ofInt (l3)))] [] cs := by
  unfold wX9_startTag_127 at hw
  refine z_aload_n dX9_startTag_127 rfl rfl ?_
  refine v_getR hW (hU 220 _ rfl) rfl kX9 fX9_24 dX9_startTag_128 ?_
  refine z_aload_n dX9_startTag_131 rfl rfl ?_
  have q1 : iv (-2147483648) 2147483647 (S.1 220 3) := hW.iI 220 3
  have hw := hw q1
  refine v_getI hW (hU 220 _ rfl) rfl kX9 fX9_9 dX9_startTag_132 ?_
  have hX := lX5_at 0 (Nat.le_refl _) hW (show isS 1 by unfold isS; decide) (fun b x h e => hS b x h (e ▸ (show isS 1 by unfold isS; decide))) (rngq q1 (by decide) (by decide)) hw
  refine z_callV (As := [_]) eX5_at sX5_at lX9_47 rfl dX9_startTag_135 (hW.sg (show isS 1 by unfold isS; decide) (fun b x h e => hS b x h (e ▸ (show isS 1 by unfold isS; decide)))).choose_spec.choose_spec.choose_spec.choose_spec.1.choose_spec.1 hX (Nat.le_trans (by decide) hd) rfl (Nat.le_of_ble_eq_true rfl) (fun r cs hp => ?_)
  obtain ⟨r3, S2, rfl, hw, hW⟩ := hp
  refine z_st (st' := [.int (Int32.ofInt (r3))]) rfl ?_
  refine z_bipush (v := Int32.ofInt 62) dX9_startTag_138 (by decide) ?_
  obtain ⟨q5, hw⟩ := hw
  refine i_icmp_eq (tgt := 152) dX9_startTag_140 (by decide) q5 ⟨by decide, by decide⟩ (fun h4 => ?_) (fun h4 => ?_)
  · have hw := hw.1 h4
    refine z_aload_n dX9_startTag_152 rfl rfl ?_
    refine z_dup dX9_startTag_153 rfl ?_
    have q6 : iv (-2147483648) 2147483647 (S2.1 220 3) := hW.iI 220 3
    have hw := hw q6
    refine v_getI hW (hU 220 _ rfl) rfl kX9 fX9_9 dX9_startTag_154 ?_
    refine z_iconst (v := Int32.ofInt 1) dX9_startTag_157 rfl ?_
    refine i_iadd dX9_startTag_158 ?_
    obtain ⟨q8, hw⟩ := hw
    refine v_putI hW (hU 220 _ rfl) (by decide) (by unfold isS; decide) rfl kX9 fX9_9 dX9_startTag_159 rfl rfl rfl q8 (fun cs hW => ?_)
    obtain ⟨S7, hS7⟩ : ∃ x, x = pI S2 220 3 ((S2.1 220 3 + 1)) := ⟨_, rfl⟩
    rw [← hS7] at hW
    have hw := hw S7 hS7
    refine z_aload_n dX9_startTag_162 rfl rfl ?_
    refine v_getR hW (hU 220 _ rfl) rfl kX9 fX9_28 dX9_startTag_163 ?_
    refine z_iload_n dX9_startTag_166 rfl rfl ?_
    obtain ⟨q11, hw⟩ := hw
    have hX := lX6_beginText 1 (Nat.le_refl _) hT hS (sbt sbX6_X9 hU) hW q11 hw
    refine z_callV (As := [_]) eX6_beginText sX6_beginText lX9_98 rfl dX9_startTag_167 (hW.at (hU 3 _ rfl)) hX (Nat.le_trans (by decide) hd) rfl (Nat.le_of_ble_eq_true rfl) (fun r cs hp => ?_)
    obtain ⟨r10, S9, rfl, hw, hW⟩ := hp
    refine z_st (st' := []) rfl ?_
    refine z_iload_n dX9_startTag_170 rfl rfl ?_
    obtain ⟨q13, hw⟩ := hw
    refine i_if_ne (tgt := 189) dX9_startTag_171 (by decide) q13 (fun h12 => ?_) (fun h12 => ?_)
    · have hw := hw.1 h12
      exact z_return dX9_startTag_189 rfl (hP 0 _ _ hw hW)
    · have hw := hw.2 h12
      refine z_aload_n dX9_startTag_174 rfl rfl ?_
      refine z_iload_n dX9_startTag_175 rfl rfl ?_
      obtain ⟨q15, hw⟩ := hw
      refine v_putI hW (hU 220 _ rfl) (by decide) (by unfold isS; decide) rfl kX9 fX9_15 dX9_startTag_176 rfl rfl rfl q15 (fun cs hW => ?_)
      obtain ⟨S14, hS14⟩ : ∃ x, x = pI S9 220 4 (l2) := ⟨_, rfl⟩
      rw [← hS14] at hW
      have hw := hw S14 hS14
      refine z_aload_n dX9_startTag_179 rfl rfl ?_
      refine z_dup dX9_startTag_180 rfl ?_
      have q16 : iv (-2147483648) 2147483647 (S14.1 220 5) := hW.iI 220 5
      have hw := hw q16
      refine v_getI hW (hU 220 _ rfl) rfl kX9 fX9_18 dX9_startTag_181 ?_
      refine z_iconst (v := Int32.ofInt 1) dX9_startTag_184 rfl ?_
      refine i_iadd dX9_startTag_185 ?_
      obtain ⟨q18, hw⟩ := hw
      refine v_putI hW (hU 220 _ rfl) (by decide) (by unfold isS; decide) rfl kX9 fX9_18 dX9_startTag_186 rfl rfl rfl q18 (fun cs hW => ?_)
      obtain ⟨S17, hS17⟩ : ∃ x, x = pI S14 220 5 ((S14.1 220 5 + 1)) := ⟨_, rfl⟩
      rw [← hS17] at hW
      have hw := hw S17 hS17
      exact z_return dX9_startTag_189 rfl (hP 0 _ _ hw hW)
  · have hw := hw.2 h4
    refine z_aload_n dX9_startTag_143 rfl rfl ?_
    refine z_aload_n dX9_startTag_144 rfl rfl ?_
    have q19 : iv (-2147483648) 2147483647 (S2.1 220 3) := hW.iI 220 3
    have hw := hw q19
    refine v_getI hW (hU 220 _ rfl) rfl kX9 fX9_9 dX9_startTag_145 ?_
    refine v_putI hW (hU 220 _ rfl) (by decide) (by unfold isS; decide) rfl kX9 fX9_21 dX9_startTag_148 rfl rfl rfl q19 (fun cs hW => ?_)
    obtain ⟨S20, hS20⟩ : ∃ x, x = pI S2 220 6 (S2.1 220 3) := ⟨_, rfl⟩
    rw [← hS20] at hW
    have hw := hw S20 hS20
    exact z_return dX9_startTag_151 rfl (hP 0 _ _ hw hW)
def wX9_startTag_112  (l2 s0 : Int) (S : St) (K : Int → St → Prop) : Prop := (rng (s0) ∧ ((s0 = 0 → wX9_startTag_127 (l2) (s0) S K) ∧ ((¬ (s0 = 0)) → (iv (-2147483648) 2147483647 (S.1 220 3) → (iv (-2147483648) 2147483647 ((S.1 220 3 + 1)) ∧ (∀ S4, S4 = pI S 220 3 ((S.1 220 3 + 1)) → wX9_startTag_127 (l2) (s0) S4 K))))))
set_option maxRecDepth 100000 in
set_option maxHeartbeats 4000000 in
theorem ubX9_startTag_112 {G : xG} {v : Nat → Nat} {sh : Nat → Option Sh} {B : Nat × Nat} {c0 : List va_E} {d : Nat} {Post : xP} {l2 s0 : Int} {S : St} {cs : List va_E} {K : Int → St → Prop} (hd : 8 ≤ d) (hT : sb shC sh) (hS : ∀ b x, sh b = some x → ¬ isS b) (hU : sb shXT sh) (hW : Wv G v sh B c0 S cs) (hP : ∀ (x : Int) (S : St) (cs : List va_E), K x S → Wv G v sh B c0 S cs → Post (none) cs)  (hw : wX9_startTag_112 l2 s0 S K ) : Z (RX9, cX9_startTag, 4, none, false) G d Post 112 [(0, .ref (G.1 + v 220)), (2, .int (Int32.ofInt (l2)))] [.int (Int32.ofInt (s0))] cs := by
  unfold wX9_startTag_112 at hw
  refine z_istore_n dX9_startTag_112 rfl (by decide) ?_
  refine z_loc (L' := [(0, .ref (G.1 + v 220)), (2, .int (Int32.ofInt (l2))), (3, .int (Int32.ofInt (s0)))]) (List.forall_mem_cons.mpr ⟨rfl, (List.forall_mem_cons.mpr ⟨rfl, (List.forall_mem_cons.mpr ⟨rfl, (fun _ h => nomatch h)⟩)⟩)⟩) ?_
  refine z_iload_n dX9_startTag_113 rfl rfl ?_
  obtain ⟨q2, hw⟩ := hw
  refine i_if_eq (tgt := 127) dX9_startTag_114 (by decide) q2 (fun h1 => ?_) (fun h1 => ?_)
  · have hw := hw.1 h1
    refine z_loc (L' := [(0, .ref (G.1 + v 220)), (2, .int (Int32.ofInt (l2))), (3, .int (Int32.ofInt (s0)))]) (List.forall_mem_cons.mpr ⟨rfl, (List.forall_mem_cons.mpr ⟨rfl, (List.forall_mem_cons.mpr ⟨rfl, (fun _ h => nomatch h)⟩)⟩)⟩) ?_
    exact ubX9_startTag_127 hd hT hS hU hW hP  hw
  · have hw := hw.2 h1
    refine z_aload_n dX9_startTag_117 rfl rfl ?_
    refine z_dup dX9_startTag_118 rfl ?_
    have q3 : iv (-2147483648) 2147483647 (S.1 220 3) := hW.iI 220 3
    have hw := hw q3
    refine v_getI hW (hU 220 _ rfl) rfl kX9 fX9_9 dX9_startTag_119 ?_
    refine z_iconst (v := Int32.ofInt 1) dX9_startTag_122 rfl ?_
    refine i_iadd dX9_startTag_123 ?_
    obtain ⟨q5, hw⟩ := hw
    refine v_putI hW (hU 220 _ rfl) (by decide) (by unfold isS; decide) rfl kX9 fX9_9 dX9_startTag_124 rfl rfl rfl q5 (fun cs hW => ?_)
    obtain ⟨S4, hS4⟩ : ∃ x, x = pI S 220 3 ((S.1 220 3 + 1)) := ⟨_, rfl⟩
    rw [← hS4] at hW
    have hw := hw S4 hS4
    refine z_loc (L' := [(0, .ref (G.1 + v 220)), (2, .int (Int32.ofInt (l2))), (3, .int (Int32.ofInt (s0)))]) (List.forall_mem_cons.mpr ⟨rfl, (List.forall_mem_cons.mpr ⟨rfl, (List.forall_mem_cons.mpr ⟨rfl, (fun _ h => nomatch h)⟩)⟩)⟩) ?_
    exact ubX9_startTag_127 hd hT hS hU hW hP  hw
def wX9_startTag_91  (l2 : Int) (S : St) (K : Int → St → Prop) : Prop := (iv (-2147483648) 2147483647 (S.1 220 3) → (wX5_at 1 (S.1 220 3) S (fun r3 S2 => (rng (r3) ∧ ((¬ r3 = 47 → wX9_startTag_112 (l2) (0) S2 K) ∧ ((¬ (¬ r3 = 47)) → wX9_startTag_112 (l2) (1) S2 K))))))
set_option maxRecDepth 100000 in
set_option maxHeartbeats 4000000 in
theorem ubX9_startTag_91 {G : xG} {v : Nat → Nat} {sh : Nat → Option Sh} {B : Nat × Nat} {c0 : List va_E} {d : Nat} {Post : xP} {l2 : Int} {S : St} {cs : List va_E} {K : Int → St → Prop} (hd : 8 ≤ d) (hT : sb shC sh) (hS : ∀ b x, sh b = some x → ¬ isS b) (hU : sb shXT sh) (hW : Wv G v sh B c0 S cs) (hP : ∀ (x : Int) (S : St) (cs : List va_E), K x S → Wv G v sh B c0 S cs → Post (none) cs)  (hw : wX9_startTag_91 l2 S K ) : Z (RX9, cX9_startTag, 4, none, false) G d Post 91 [(0, .ref (G.1 + v 220)), (2, .int (Int32.ofInt (l2)))] [] cs := by
  unfold wX9_startTag_91 at hw
  refine z_aload_n dX9_startTag_91 rfl rfl ?_
  refine v_getR hW (hU 220 _ rfl) rfl kX9 fX9_24 dX9_startTag_92 ?_
  refine z_aload_n dX9_startTag_95 rfl rfl ?_
  have q1 : iv (-2147483648) 2147483647 (S.1 220 3) := hW.iI 220 3
  have hw := hw q1
  refine v_getI hW (hU 220 _ rfl) rfl kX9 fX9_9 dX9_startTag_96 ?_
  have hX := lX5_at 0 (Nat.le_refl _) hW (show isS 1 by unfold isS; decide) (fun b x h e => hS b x h (e ▸ (show isS 1 by unfold isS; decide))) (rngq q1 (by decide) (by decide)) hw
  refine z_callV (As := [_]) eX5_at sX5_at lX9_47 rfl dX9_startTag_99 (hW.sg (show isS 1 by unfold isS; decide) (fun b x h e => hS b x h (e ▸ (show isS 1 by unfold isS; decide)))).choose_spec.choose_spec.choose_spec.choose_spec.1.choose_spec.1 hX (Nat.le_trans (by decide) hd) rfl (Nat.le_of_ble_eq_true rfl) (fun r cs hp => ?_)
  obtain ⟨r3, S2, rfl, hw, hW⟩ := hp
  refine z_st (st' := [.int (Int32.ofInt (r3))]) rfl ?_
  refine z_bipush (v := Int32.ofInt 47) dX9_startTag_102 (by decide) ?_
  obtain ⟨q5, hw⟩ := hw
  refine i_icmp_ne (tgt := 111) dX9_startTag_104 (by decide) q5 ⟨by decide, by decide⟩ (fun h4 => ?_) (fun h4 => ?_)
  · have hw := hw.1 h4
    refine z_iconst (v := Int32.ofInt 0) dX9_startTag_111 rfl ?_
    refine z_loc (L' := [(0, .ref (G.1 + v 220)), (2, .int (Int32.ofInt (l2)))]) (List.forall_mem_cons.mpr ⟨rfl, (List.forall_mem_cons.mpr ⟨rfl, (fun _ h => nomatch h)⟩)⟩) ?_
    exact ubX9_startTag_112 hd hT hS hU hW hP  hw
  · have hw := hw.2 h4
    refine z_iconst (v := Int32.ofInt 1) dX9_startTag_107 rfl ?_
    refine z_goto (tgt := 112) dX9_startTag_108 (by decide) ?_
    refine z_loc (L' := [(0, .ref (G.1 + v 220)), (2, .int (Int32.ofInt (l2)))]) (List.forall_mem_cons.mpr ⟨rfl, (List.forall_mem_cons.mpr ⟨rfl, (fun _ h => nomatch h)⟩)⟩) ?_
    exact ubX9_startTag_112 hd hT hS hU hW hP  hw
def wX9_startTag_57'  (l2 l3 : Int) (S : St) (K : Int → St → Prop) (B57 : Int → Int → St → Prop) : Prop := (rng (l3) ∧ ((600 < l3 → wX9_startTag_91 (l2) S K) ∧ ((¬ (600 < l3)) → (wX9_skipsToName S (fun r4 S3 => (rng (r4) ∧ ((r4 = 0 → wX9_startTag_91 (l2) S3 K) ∧ ((¬ (r4 = 0)) → (rng (l2) ∧ (wX9_attribute (l2) S3 (fun r8 S7 => (iv (-2147483648) 2147483647 (S7.1 220 6) → ((S7.1 220 6 = (-1) → B57 (l2) ((l3 + 1)) S7) ∧ ((¬ (S7.1 220 6 = (-1))) → K 0 S7))))))))))))))
set_option maxRecDepth 100000 in
set_option maxHeartbeats 4000000 in
theorem ubX9_startTag_57' {G : xG} {v : Nat → Nat} {sh : Nat → Option Sh} {B : Nat × Nat} {c0 : List va_E} {d : Nat} {Post : xP} {l2 l3 : Int} {S : St} {cs : List va_E} {K : Int → St → Prop} {B57 : Int → Int → St → Prop} (hd : 8 ≤ d) (hT : sb shC sh) (hS : ∀ b x, sh b = some x → ¬ isS b) (hU : sb shXT sh) (hW : Wv G v sh B c0 S cs) (hP : ∀ (x : Int) (S : St) (cs : List va_E), K x S → Wv G v sh B c0 S cs → Post (none) cs) (hB57 : ∀ (l2 : Int) (l3 : Int) (S : St) (cs : List va_E), B57 l2 l3 S → Wv G v sh B c0 S cs → Z (RX9, cX9_startTag, 4, none, false) G d Post 57 [(0, .ref (G.1 + v 220)), (2, .int (Int32.ofInt (l2))), (3, .int (Int32.ofInt (l3)))] [] cs) (hw : wX9_startTag_57' l2 l3 S K B57) : Z (RX9, cX9_startTag, 4, none, false) G d Post 57 [(0, .ref (G.1 + v 220)), (2, .int (Int32.ofInt (l2))), (3, .int (Int32.ofInt (l3)))] [] cs := by
  unfold wX9_startTag_57' at hw
  refine z_iload_n dX9_startTag_57 rfl rfl ?_
  refine z_sipush (v := Int32.ofInt 600) dX9_startTag_58 (by decide) ?_
  obtain ⟨q2, hw⟩ := hw
  refine i_icmp_gt (tgt := 91) dX9_startTag_61 (by decide) q2 ⟨by decide, by decide⟩ (fun h1 => ?_) (fun h1 => ?_)
  · have hw := hw.1 h1
    refine z_loc (L' := [(0, .ref (G.1 + v 220)), (2, .int (Int32.ofInt (l2)))]) (List.forall_mem_cons.mpr ⟨rfl, (List.forall_mem_cons.mpr ⟨rfl, (fun _ h => nomatch h)⟩)⟩) ?_
    exact ubX9_startTag_91 hd hT hS hU hW hP  hw
  · have hw := hw.2 h1
    refine z_aload_n dX9_startTag_64 rfl rfl ?_
    have hX := lX9_skipsToName 2 (Nat.le_refl _) hT hS hU hW  hw
    refine z_callV (As := []) eX9_skipsToName sX9_skipsToName lX9_90 rfl dX9_startTag_65 (hW.at (hU 220 _ rfl)) hX (Nat.le_trans (by decide) hd) rfl (Nat.le_of_ble_eq_true rfl) (fun r cs hp => ?_)
    obtain ⟨r4, S3, rfl, hw, hW⟩ := hp
    refine z_st (st' := [.int (Int32.ofInt (r4))]) rfl ?_
    obtain ⟨q6, hw⟩ := hw
    refine i_if_eq (tgt := 91) dX9_startTag_68 (by decide) q6 (fun h5 => ?_) (fun h5 => ?_)
    · have hw := hw.1 h5
      refine z_loc (L' := [(0, .ref (G.1 + v 220)), (2, .int (Int32.ofInt (l2)))]) (List.forall_mem_cons.mpr ⟨rfl, (List.forall_mem_cons.mpr ⟨rfl, (fun _ h => nomatch h)⟩)⟩) ?_
      exact ubX9_startTag_91 hd hT hS hU hW hP  hw
    · have hw := hw.2 h5
      refine z_aload_n dX9_startTag_71 rfl rfl ?_
      refine z_iload_n dX9_startTag_72 rfl rfl ?_
      obtain ⟨q9, hw⟩ := hw
      have hX := lX9_attribute 7 (Nat.le_refl _) hT hS hU hW q9 hw
      refine z_callV (As := [_]) eX9_attribute sX9_attribute lX9_94 rfl dX9_startTag_73 (hW.at (hU 220 _ rfl)) hX (Nat.le_trans (by decide) hd) rfl (Nat.le_of_ble_eq_true rfl) (fun r cs hp => ?_)
      obtain ⟨r8, S7, rfl, hw, hW⟩ := hp
      refine z_st (st' := []) rfl ?_
      refine z_aload_n dX9_startTag_76 rfl rfl ?_
      have q10 : iv (-2147483648) 2147483647 (S7.1 220 6) := hW.iI 220 6
      have hw := hw q10
      refine v_getI hW (hU 220 _ rfl) rfl kX9 fX9_21 dX9_startTag_77 ?_
      refine z_iconst (v := Int32.ofInt (-1)) dX9_startTag_80 rfl ?_
      refine i_icmp_eq (tgt := 85) dX9_startTag_81 (by decide) (rngq q10 (by decide) (by decide)) ⟨by decide, by decide⟩ (fun h11 => ?_) (fun h11 => ?_)
      · have hw := hw.1 h11
        refine i_iinc (l := l3) dX9_startTag_85 rfl (by decide) ?_
        refine z_loc (L' := [(0, .ref (G.1 + v 220)), (2, .int (Int32.ofInt (l2))), (3, .int (Int32.ofInt ((l3 + 1))))]) (List.forall_mem_cons.mpr ⟨rfl, (List.forall_mem_cons.mpr ⟨rfl, (List.forall_mem_cons.mpr ⟨rfl, (fun _ h => nomatch h)⟩)⟩)⟩) ?_
        refine z_goto (tgt := 57) dX9_startTag_88 (by decide) ?_
        refine z_loc (L' := [(0, .ref (G.1 + v 220)), (2, .int (Int32.ofInt (l2))), (3, .int (Int32.ofInt ((l3 + 1))))]) (List.forall_mem_cons.mpr ⟨rfl, (List.forall_mem_cons.mpr ⟨rfl, (List.forall_mem_cons.mpr ⟨rfl, (fun _ h => nomatch h)⟩)⟩)⟩) ?_
        exact hB57 _ _ _ _ hw hW
      · have hw := hw.2 h11
        exact z_return dX9_startTag_84 rfl (hP 0 _ _ hw hW)
def wX9_startTag_57  (l2 l3 : Int) (S : St) (K : Int → St → Prop) : Prop := ∃ (Iv : Int → Int → St → Prop) (mu : Int → Int → St → Nat), Iv l2 l3 S ∧ ∀ (l2 l3 : Int) (S : St), Iv l2 l3 S → wX9_startTag_57' l2 l3 S K  (fun ml2 ml3 T => Iv ml2 ml3 T ∧ mu ml2 ml3 T < mu l2 l3 S)
set_option maxRecDepth 100000 in
set_option maxHeartbeats 4000000 in
theorem ubX9_startTag_57 {G : xG} {v : Nat → Nat} {sh : Nat → Option Sh} {B : Nat × Nat} {c0 : List va_E} {d : Nat} {Post : xP} {l2 l3 : Int} {S : St} {cs : List va_E} {K : Int → St → Prop} (hd : 8 ≤ d) (hT : sb shC sh) (hS : ∀ b x, sh b = some x → ¬ isS b) (hU : sb shXT sh) (hW : Wv G v sh B c0 S cs) (hP : ∀ (x : Int) (S : St) (cs : List va_E), K x S → Wv G v sh B c0 S cs → Post (none) cs)  (hw : wX9_startTag_57 l2 l3 S K ) : Z (RX9, cX9_startTag, 4, none, false) G d Post 57 [(0, .ref (G.1 + v 220)), (2, .int (Int32.ofInt (l2))), (3, .int (Int32.ofInt (l3)))] [] cs := by
  unfold wX9_startTag_57 at hw
  obtain ⟨Iv, mu, h0, hs⟩ := hw
  have key : ∀ (n : Nat) (l2 l3 : Int) (S : St) (cs : List va_E), mu l2 l3 S < n → Iv l2 l3 S → Wv G v sh B c0 S cs → Z (RX9, cX9_startTag, 4, none, false) G d Post 57 [(0, .ref (G.1 + v 220)), (2, .int (Int32.ofInt (l2))), (3, .int (Int32.ofInt (l3)))] [] cs := by
    intro n
    induction n with
    | zero => intro l2 l3 S cs hn; exact absurd hn (Nat.not_lt_zero _)
    | succ n ih =>
      intro l2 l3 S cs hn hI hW
      exact ubX9_startTag_57' hd hT hS hU hW hP  (fun l2 l3 S cs hb hW => ih l2 l3 S cs (Nat.lt_of_lt_of_le hb.2 (Nat.le_of_lt_succ hn)) hb.1 hW) (hs l2 l3 S hI)
  exact key _ _ _ _ _ (Nat.lt_succ_self _) h0 hW
def wX9_startTag  (S : St) (K : Int → St → Prop) : Prop := (iv (-2147483648) 2147483647 (S.1 220 3) → (iv (-2147483648) 2147483647 ((S.1 220 3 + 1)) ∧ (∀ S2, S2 = pI S 220 3 ((S.1 220 3 + 1)) → (wX9_skipName S2 (fun r5 S4 => (iv (-2147483648) 2147483647 (S4.1 220 3) → ((¬ S4.1 220 3 = (S.1 220 3 + 1) → (iv (-1) 199 (S4.1 220 4) → (wX6_begin (S.1 220 3) (S4.1 220 3) (S4.1 220 4) S4 (fun r10 S9 => wX9_startTag_57 (r10) (0) S9 K)))) ∧ ((¬ (¬ S4.1 220 3 = (S.1 220 3 + 1))) → (∀ S11, S11 = pI S4 220 6 (S4.1 220 3) → K 0 S11)))))))))
set_option maxRecDepth 100000 in
set_option maxHeartbeats 4000000 in
theorem lX9_startTag {G : xG} {v : Nat → Nat} {sh : Nat → Option Sh} {B : Nat × Nat} {c0 : List va_E}  {S : St} {cs : List va_E} {K : Int → St → Prop} (d : Nat) (hd : 8 ≤ d) (hT : sb shC sh) (hS : ∀ b x, sh b = some x → ¬ isS b) (hU : sb shXT sh) (hW : Wv G v sh B c0 S cs)  (hw : wX9_startTag  S K) : X G yX9_startTag cX9_startTag 4 none d [.ref (G.1 + v 220)] cs (vV G v sh B c0 K) := by
  refine X.of false (by decide +kernel) (by decide) (Nat.le_of_ble_eq_true rfl) ?_
  show Z (RX9, cX9_startTag, 4, none, false) G d _ 0 [(0, .ref (G.1 + v 220))] [] cs
  have hP : ∀ (x : Int) (S : St) (cs : List va_E), K x S → Wv G v sh B c0 S cs → vV G v sh B c0 K (none) cs := fun x S cs a b => ⟨x, S, rfl, a, b⟩
  unfold wX9_startTag at hw
  refine z_aload_n dX9_startTag_0 rfl rfl ?_
  have q1 : iv (-2147483648) 2147483647 (S.1 220 3) := hW.iI 220 3
  have hw := hw q1
  refine v_getI hW (hU 220 _ rfl) rfl kX9 fX9_9 dX9_startTag_1 ?_
  refine z_istore_n dX9_startTag_4 rfl (by decide) ?_
  refine z_loc (L' := [(0, .ref (G.1 + v 220)), (1, .int (Int32.ofInt (S.1 220 3)))]) (List.forall_mem_cons.mpr ⟨rfl, (List.forall_mem_cons.mpr ⟨rfl, (fun _ h => nomatch h)⟩)⟩) ?_
  refine z_aload_n dX9_startTag_5 rfl rfl ?_
  refine z_dup dX9_startTag_6 rfl ?_
  refine v_getI hW (hU 220 _ rfl) rfl kX9 fX9_9 dX9_startTag_7 ?_
  refine z_iconst (v := Int32.ofInt 1) dX9_startTag_10 rfl ?_
  refine i_iadd dX9_startTag_11 ?_
  obtain ⟨q3, hw⟩ := hw
  refine v_putI hW (hU 220 _ rfl) (by decide) (by unfold isS; decide) rfl kX9 fX9_9 dX9_startTag_12 rfl rfl rfl q3 (fun cs hW => ?_)
  obtain ⟨S2, hS2⟩ : ∃ x, x = pI S 220 3 ((S.1 220 3 + 1)) := ⟨_, rfl⟩
  rw [← hS2] at hW
  have hw := hw S2 hS2
  refine z_aload_n dX9_startTag_15 rfl rfl ?_
  have hX := lX9_skipName 2 (Nat.le_refl _) hT hS hU hW  hw
  refine z_callV (As := []) eX9_skipName sX9_skipName lX9_83 rfl dX9_startTag_16 (hW.at (hU 220 _ rfl)) hX (Nat.le_trans (by decide) hd) rfl (Nat.le_of_ble_eq_true rfl) (fun r cs hp => ?_)
  obtain ⟨r5, S4, rfl, hw, hW⟩ := hp
  refine z_st (st' := []) rfl ?_
  refine z_aload_n dX9_startTag_19 rfl rfl ?_
  have q6 : iv (-2147483648) 2147483647 (S4.1 220 3) := hW.iI 220 3
  have hw := hw q6
  refine v_getI hW (hU 220 _ rfl) rfl kX9 fX9_9 dX9_startTag_20 ?_
  refine z_iload_n dX9_startTag_23 rfl rfl ?_
  refine z_iconst (v := Int32.ofInt 1) dX9_startTag_24 rfl ?_
  refine i_iadd dX9_startTag_25 ?_
  refine i_icmp_ne (tgt := 38) dX9_startTag_26 (by decide) (rngq q6 (by decide) (by decide)) (rngq q3 (by decide) (by decide)) (fun h7 => ?_) (fun h7 => ?_)
  · have hw := hw.1 h7
    refine z_aload_n dX9_startTag_38 rfl rfl ?_
    refine v_getR hW (hU 220 _ rfl) rfl kX9 fX9_28 dX9_startTag_39 ?_
    refine z_iload_n dX9_startTag_42 rfl rfl ?_
    refine z_aload_n dX9_startTag_43 rfl rfl ?_
    refine v_getI hW (hU 220 _ rfl) rfl kX9 fX9_9 dX9_startTag_44 ?_
    refine z_aload_n dX9_startTag_47 rfl rfl ?_
    have q8 : iv (-1) 199 (S4.1 220 4) := hW.iI 220 4
    have hw := hw q8
    refine v_getI hW (hU 220 _ rfl) rfl kX9 fX9_15 dX9_startTag_48 ?_
    have hX := lX6_begin 1 (Nat.le_refl _) hT hS (sbt sbX6_X9 hU) hW (rngq q1 (by decide) (by decide)) (rngq q6 (by decide) (by decide)) (rngq q8 (by decide) (by decide)) hw
    refine z_callV (As := [_, _, _]) eX6_begin sX6_begin lX9_86 rfl dX9_startTag_51 (hW.at (hU 3 _ rfl)) hX (Nat.le_trans (by decide) hd) rfl (Nat.le_of_ble_eq_true rfl) (fun r cs hp => ?_)
    obtain ⟨r10, S9, rfl, hw, hW⟩ := hp
    refine z_st (st' := [.int (Int32.ofInt (r10))]) rfl ?_
    refine z_istore_n dX9_startTag_54 rfl (by decide) ?_
    refine z_loc (L' := [(0, .ref (G.1 + v 220)), (1, .int (Int32.ofInt (S.1 220 3))), (2, .int (Int32.ofInt (r10)))]) (List.forall_mem_cons.mpr ⟨rfl, (List.forall_mem_cons.mpr ⟨rfl, (List.forall_mem_cons.mpr ⟨rfl, (fun _ h => nomatch h)⟩)⟩)⟩) ?_
    refine z_iconst (v := Int32.ofInt 0) dX9_startTag_55 rfl ?_
    refine z_istore_n dX9_startTag_56 rfl (by decide) ?_
    refine z_loc (L' := [(0, .ref (G.1 + v 220)), (1, .int (Int32.ofInt (S.1 220 3))), (2, .int (Int32.ofInt (r10))), (3, .int (Int32.ofInt (0)))]) (List.forall_mem_cons.mpr ⟨rfl, (List.forall_mem_cons.mpr ⟨rfl, (List.forall_mem_cons.mpr ⟨rfl, (List.forall_mem_cons.mpr ⟨rfl, (fun _ h => nomatch h)⟩)⟩)⟩)⟩) ?_
    refine z_loc (L' := [(0, .ref (G.1 + v 220)), (2, .int (Int32.ofInt (r10))), (3, .int (Int32.ofInt (0)))]) (List.forall_mem_cons.mpr ⟨rfl, (List.forall_mem_cons.mpr ⟨rfl, (List.forall_mem_cons.mpr ⟨rfl, (fun _ h => nomatch h)⟩)⟩)⟩) ?_
    exact ubX9_startTag_57 hd hT hS hU hW hP  hw
  · have hw := hw.2 h7
    refine z_aload_n dX9_startTag_29 rfl rfl ?_
    refine z_aload_n dX9_startTag_30 rfl rfl ?_
    refine v_getI hW (hU 220 _ rfl) rfl kX9 fX9_9 dX9_startTag_31 ?_
    refine v_putI hW (hU 220 _ rfl) (by decide) (by unfold isS; decide) rfl kX9 fX9_21 dX9_startTag_34 rfl rfl rfl q6 (fun cs hW => ?_)
    obtain ⟨S11, hS11⟩ : ∃ x, x = pI S4 220 6 (S4.1 220 3) := ⟨_, rfl⟩
    rw [← hS11] at hW
    have hw := hw S11 hS11
    exact z_return dX9_startTag_37 rfl (hP 0 _ _ hw hW)

def wX9_comes_h_2'  (l2 : Int) (S : St) (K : Int → St → Prop) (B2 : Int → St → Prop) : Prop := (rng (l2) ∧ ((3 ≤ l2 → K (1) S) ∧ ((¬ (3 ≤ l2)) → (iv (-2147483648) 2147483647 (S.1 220 3) → (rng ((S.1 220 3 + l2)) ∧ (wX5_at 1 ((S.1 220 3 + l2)) S (fun r5 S4 => ((0 : Int) ≤ l2 ∧ l2 < (3 : Int) ∧ (rng (r5) ∧ ((r5 = (sch 23 (l2)) → B2 ((l2 + 1)) S4) ∧ ((¬ (r5 = (sch 23 (l2)))) → K (0) S4)))))))))))
set_option maxRecDepth 100000 in
set_option maxHeartbeats 4000000 in
theorem ubX9_comes_h_2' {G : xG} {v : Nat → Nat} {sh : Nat → Option Sh} {B : Nat × Nat} {c0 : List va_E} {d : Nat} {Post : xP} {l2 : Int} {S : St} {cs : List va_E} {K : Int → St → Prop} {B2 : Int → St → Prop} (hd : 4 ≤ d) (hT : sb shC sh) (hS : ∀ b x, sh b = some x → ¬ isS b) (hU : sb shXT sh) (hW : Wv G v sh B c0 S cs) (hP : ∀ (x : Int) (S : St) (cs : List va_E), K x S → Wv G v sh B c0 S cs → Post (some (.int (Int32.ofInt x))) cs) (hB2 : ∀ (l2 : Int) (S : St) (cs : List va_E), B2 l2 S → Wv G v sh B c0 S cs → Z (RX9, cX9_comes, 3, some .boolean, false) G d Post 2 [(0, .ref (G.1 + v 220)), (1, .ref (G.2.2.2.1 23)), (2, .int (Int32.ofInt (l2)))] [] cs) (hw : wX9_comes_h_2' l2 S K B2) : Z (RX9, cX9_comes, 3, some .boolean, false) G d Post 2 [(0, .ref (G.1 + v 220)), (1, .ref (G.2.2.2.1 23)), (2, .int (Int32.ofInt (l2)))] [] cs := by
  unfold wX9_comes_h_2' at hw
  refine z_iload_n dX9_comes_2 rfl rfl ?_
  refine z_aload_n dX9_comes_3 rfl rfl ?_
  refine z_callVS (As := []) (show 23 < xN by decide) eJ0_length_8abf5 sJ0_length_8abf5 lX9_162 rfl dX9_comes_4 (c_length 1 (Nat.le_refl _) (show 23 < xN by decide)) (Nat.le_trans (by decide) hd) rfl (Nat.le_of_ble_eq_true rfl) (fun r cs1 hp => ?_)
  obtain ⟨rfl, rfl⟩ := hp
  refine z_st (st' := [.int (Int32.ofInt (3)), .int (Int32.ofInt (l2))]) rfl ?_
  obtain ⟨q2, hw⟩ := hw
  refine i_icmp_ge (tgt := 39) dX9_comes_7 (by decide) q2 ⟨by decide, by decide⟩ (fun h1 => ?_) (fun h1 => ?_)
  · have hw := hw.1 h1
    refine z_iconst (v := Int32.ofInt 1) dX9_comes_39 rfl ?_
    exact z_ireturn dX9_comes_40 rfl (nar01 (by decide)) (hP _ _ _ hw hW)
  · have hw := hw.2 h1
    refine z_aload_n dX9_comes_10 rfl rfl ?_
    refine v_getR hW (hU 220 _ rfl) rfl kX9 fX9_24 dX9_comes_11 ?_
    refine z_aload_n dX9_comes_14 rfl rfl ?_
    have q3 : iv (-2147483648) 2147483647 (S.1 220 3) := hW.iI 220 3
    have hw := hw q3
    refine v_getI hW (hU 220 _ rfl) rfl kX9 fX9_9 dX9_comes_15 ?_
    refine z_iload_n dX9_comes_18 rfl rfl ?_
    refine i_iadd dX9_comes_19 ?_
    obtain ⟨q6, hw⟩ := hw
    have hX := lX5_at 0 (Nat.le_refl _) hW (show isS 1 by unfold isS; decide) (fun b x h e => hS b x h (e ▸ (show isS 1 by unfold isS; decide))) q6 hw
    refine z_callV (As := [_]) eX5_at sX5_at lX9_47 rfl dX9_comes_20 (hW.sg (show isS 1 by unfold isS; decide) (fun b x h e => hS b x h (e ▸ (show isS 1 by unfold isS; decide)))).choose_spec.choose_spec.choose_spec.choose_spec.1.choose_spec.1 hX (Nat.le_trans (by decide) hd) rfl (Nat.le_of_ble_eq_true rfl) (fun r cs hp => ?_)
    obtain ⟨r5, S4, rfl, hw, hW⟩ := hp
    refine z_st (st' := [.int (Int32.ofInt (r5))]) rfl ?_
    refine z_aload_n dX9_comes_23 rfl rfl ?_
    refine z_iload_n dX9_comes_24 rfl rfl ?_
    obtain ⟨q7a, q7b, hw⟩ := hw
    refine z_callVS (As := [_]) (show 23 < xN by decide) eJ0_charAt_5068e sJ0_charAt_5068e lX9_165 rfl dX9_comes_25 (c_charAt 3 (Nat.le_refl _) (show 23 < xN by decide) (oI_in (n := 3) q7a q7b (by decide))) (Nat.le_trans (by decide) hd) rfl (Nat.le_of_ble_eq_true rfl) (fun r cs1 hp => ?_)
    obtain ⟨rfl, rfl⟩ := hp
    refine z_st (st' := [.int (Int32.ofInt ((sch 23 (l2)))), .int (Int32.ofInt (r5))]) (by unfold sch; rw [Int32.ofInt_toInt]; rfl) ?_
    obtain ⟨q9, hw⟩ := hw
    refine i_icmp_eq (tgt := 33) dX9_comes_28 (by decide) q9 (rng_of _) (fun h8 => ?_) (fun h8 => ?_)
    · have hw := hw.1 h8
      refine i_iinc (l := l2) dX9_comes_33 rfl (by decide) ?_
      refine z_loc (L' := [(0, .ref (G.1 + v 220)), (1, .ref (G.2.2.2.1 23)), (2, .int (Int32.ofInt ((l2 + 1))))]) (List.forall_mem_cons.mpr ⟨rfl, (List.forall_mem_cons.mpr ⟨rfl, (List.forall_mem_cons.mpr ⟨rfl, (fun _ h => nomatch h)⟩)⟩)⟩) ?_
      refine z_goto (tgt := 2) dX9_comes_36 (by decide) ?_
      refine z_loc (L' := [(0, .ref (G.1 + v 220)), (1, .ref (G.2.2.2.1 23)), (2, .int (Int32.ofInt ((l2 + 1))))]) (List.forall_mem_cons.mpr ⟨rfl, (List.forall_mem_cons.mpr ⟨rfl, (List.forall_mem_cons.mpr ⟨rfl, (fun _ h => nomatch h)⟩)⟩)⟩) ?_
      exact hB2 _ _ _ hw hW
    · have hw := hw.2 h8
      refine z_iconst (v := Int32.ofInt 0) dX9_comes_31 rfl ?_
      exact z_ireturn dX9_comes_32 rfl (nar01 (by decide)) (hP _ _ _ hw hW)
def wX9_comes_h_2  (l2 : Int) (S : St) (K : Int → St → Prop) : Prop := ∃ (Iv : Int → St → Prop) (mu : Int → St → Nat), Iv l2 S ∧ ∀ (l2 : Int) (S : St), Iv l2 S → wX9_comes_h_2' l2 S K  (fun ml2 T => Iv ml2 T ∧ mu ml2 T < mu l2 S)
set_option maxRecDepth 100000 in
set_option maxHeartbeats 4000000 in
theorem ubX9_comes_h_2 {G : xG} {v : Nat → Nat} {sh : Nat → Option Sh} {B : Nat × Nat} {c0 : List va_E} {d : Nat} {Post : xP} {l2 : Int} {S : St} {cs : List va_E} {K : Int → St → Prop} (hd : 4 ≤ d) (hT : sb shC sh) (hS : ∀ b x, sh b = some x → ¬ isS b) (hU : sb shXT sh) (hW : Wv G v sh B c0 S cs) (hP : ∀ (x : Int) (S : St) (cs : List va_E), K x S → Wv G v sh B c0 S cs → Post (some (.int (Int32.ofInt x))) cs)  (hw : wX9_comes_h_2 l2 S K ) : Z (RX9, cX9_comes, 3, some .boolean, false) G d Post 2 [(0, .ref (G.1 + v 220)), (1, .ref (G.2.2.2.1 23)), (2, .int (Int32.ofInt (l2)))] [] cs := by
  unfold wX9_comes_h_2 at hw
  obtain ⟨Iv, mu, h0, hs⟩ := hw
  have key : ∀ (n : Nat) (l2 : Int) (S : St) (cs : List va_E), mu l2 S < n → Iv l2 S → Wv G v sh B c0 S cs → Z (RX9, cX9_comes, 3, some .boolean, false) G d Post 2 [(0, .ref (G.1 + v 220)), (1, .ref (G.2.2.2.1 23)), (2, .int (Int32.ofInt (l2)))] [] cs := by
    intro n
    induction n with
    | zero => intro l2 S cs hn; exact absurd hn (Nat.not_lt_zero _)
    | succ n ih =>
      intro l2 S cs hn hI hW
      exact ubX9_comes_h_2' hd hT hS hU hW hP  (fun l2 S cs hb hW => ih l2 S cs (Nat.lt_of_lt_of_le hb.2 (Nat.le_of_lt_succ hn)) hb.1 hW) (hs l2 S hI)
  exact key _ _ _ _ (Nat.lt_succ_self _) h0 hW
def wX9_comes_h  (S : St) (K : Int → St → Prop) : Prop := wX9_comes_h_2 (0) S K
set_option maxRecDepth 100000 in
set_option maxHeartbeats 4000000 in
theorem lX9_comes_h {G : xG} {v : Nat → Nat} {sh : Nat → Option Sh} {B : Nat × Nat} {c0 : List va_E}  {S : St} {cs : List va_E} {K : Int → St → Prop} (d : Nat) (hd : 4 ≤ d) (hT : sb shC sh) (hS : ∀ b x, sh b = some x → ¬ isS b) (hU : sb shXT sh) (hW : Wv G v sh B c0 S cs)  (hw : wX9_comes_h  S K) : X G yX9_comes cX9_comes 3 (some .boolean) d [.ref (G.1 + v 220), .ref (G.2.2.2.1 23)] cs (vI G v sh B c0 K) := by
  refine X.of false (by decide +kernel) (by decide) (Nat.le_of_ble_eq_true rfl) ?_
  show Z (RX9, cX9_comes, 3, some .boolean, false) G d _ 0 [(0, .ref (G.1 + v 220)), (1, .ref (G.2.2.2.1 23))] [] cs
  have hP : ∀ (x : Int) (S : St) (cs : List va_E), K x S → Wv G v sh B c0 S cs → vI G v sh B c0 K (some (.int (Int32.ofInt x))) cs := fun x S cs a b => ⟨x, S, rfl, a, b⟩
  unfold wX9_comes_h at hw
  refine z_iconst (v := Int32.ofInt 0) dX9_comes_0 rfl ?_
  refine z_istore_n dX9_comes_1 rfl (by decide) ?_
  refine z_loc (L' := [(0, .ref (G.1 + v 220)), (1, .ref (G.2.2.2.1 23)), (2, .int (Int32.ofInt (0)))]) (List.forall_mem_cons.mpr ⟨rfl, (List.forall_mem_cons.mpr ⟨rfl, (List.forall_mem_cons.mpr ⟨rfl, (fun _ h => nomatch h)⟩)⟩)⟩) ?_
  refine z_loc (L' := [(0, .ref (G.1 + v 220)), (1, .ref (G.2.2.2.1 23)), (2, .int (Int32.ofInt (0)))]) (List.forall_mem_cons.mpr ⟨rfl, (List.forall_mem_cons.mpr ⟨rfl, (List.forall_mem_cons.mpr ⟨rfl, (fun _ h => nomatch h)⟩)⟩)⟩) ?_
  exact ubX9_comes_h_2 hd hT hS hU hW hP  hw

def wX6_addText  (a1 a2 : Int) (S : St) (K : Int → St → Prop) : Prop := rng a1 → rng a2 → (wX6_has (a1) S (fun r2 S1 => (rng (r2) ∧ ((r2 = 0 → K 0 S1) ∧ ((¬ (r2 = 0)) → (wX5_put 4 (a2) S1 (fun r6 S5 => (wX5_length 4 S5 (fun r8 S7 => ((0 : Int) ≤ a1 ∧ a1 < (200 : Int) ∧ (iv (-2147483648) 2147483647 (r8) ∧ (∀ S10, S10 = pA S7 14 (a1) (r8) → ((0 : Int) ≤ a1 ∧ a1 < (200 : Int) ∧ (iv 0 1 (S10.2 15 (a1)) → ((¬ S10.2 15 (a1) = 0 → ((0 : Int) ≤ a1 ∧ a1 < (200 : Int) ∧ (∀ S16, S16 = pA S10 15 (a1) (1) → K 0 S16))) ∧ ((¬ (¬ S10.2 15 (a1) = 0)) → (wX10_isBlank (a2) S10 (fun r18 S17 => (rng (r18) ∧ ((¬ r18 = 0 → ((0 : Int) ≤ a1 ∧ a1 < (200 : Int) ∧ (∀ S22, S22 = pA S17 15 (a1) (0) → K 0 S22))) ∧ ((¬ (¬ r18 = 0)) → ((0 : Int) ≤ a1 ∧ a1 < (200 : Int) ∧ (∀ S24, S24 = pA S17 15 (a1) (1) → K 0 S24)))))))))))))))))))))))
set_option maxRecDepth 100000 in
set_option maxHeartbeats 4000000 in
theorem lX6_addText {G : xG} {v : Nat → Nat} {sh : Nat → Option Sh} {B : Nat × Nat} {c0 : List va_E}  {a1 a2 : Int} {S : St} {cs : List va_E} {K : Int → St → Prop} (d : Nat) (hd : 2 ≤ d) (hT : sb shC sh) (hS : ∀ b x, sh b = some x → ¬ isS b) (hU : sb shTr sh) (hW : Wv G v sh B c0 S cs) (g1 : rng a1) (g2 : rng a2) (hw : wX6_addText a1 a2 S K) : X G yX6_addText cX6_addText 3 none d [.ref (G.1 + v 3), .int (Int32.ofInt a1), .int (Int32.ofInt a2)] cs (vV G v sh B c0 K) := by
  refine X.of false (by decide +kernel) (by decide) (Nat.le_of_ble_eq_true rfl) ?_
  show Z (RX6, cX6_addText, 3, none, false) G d _ 0 [(0, .ref (G.1 + v 3)), (1, .int (Int32.ofInt a1)), (2, .int (Int32.ofInt a2))] [] cs
  have hP : ∀ (x : Int) (S : St) (cs : List va_E), K x S → Wv G v sh B c0 S cs → vV G v sh B c0 K (none) cs := fun x S cs a b => ⟨x, S, rfl, a, b⟩
  unfold wX6_addText at hw
  have hw := hw g1 g2
  refine z_aload_n dX6_addText_0 rfl rfl ?_
  refine z_iload_n dX6_addText_1 rfl rfl ?_
  have hX := lX6_has 0 (Nat.le_refl _) hT hS hU hW g1 hw
  refine z_callV (As := [_]) eX6_has sX6_has lX6_75 rfl dX6_addText_2 (hW.at (hU 3 _ rfl)) hX (Nat.le_trans (by decide) hd) rfl (Nat.le_of_ble_eq_true rfl) (fun r cs hp => ?_)
  obtain ⟨r2, S1, rfl, hw, hW⟩ := hp
  refine z_st (st' := [.int (Int32.ofInt (r2))]) rfl ?_
  obtain ⟨q4, hw⟩ := hw
  refine i_if_eq (tgt := 57) dX6_addText_5 (by decide) q4 (fun h3 => ?_) (fun h3 => ?_)
  · have hw := hw.1 h3
    exact z_return dX6_addText_57 rfl (hP 0 _ _ hw hW)
  · have hw := hw.2 h3
    refine z_aload_n dX6_addText_8 rfl rfl ?_
    refine v_getR hW (hU 3 _ rfl) rfl kX6 fX6_12 dX6_addText_9 ?_
    refine z_iload_n dX6_addText_12 rfl rfl ?_
    have hX := lX5_put 1 (Nat.le_refl _) hW (show isS 4 by unfold isS; decide) (fun b x h e => hS b x h (e ▸ (show isS 4 by unfold isS; decide))) g2 hw
    refine z_callV (As := [_]) eX5_put sX5_put lX6_83 rfl dX6_addText_13 (hW.sg (show isS 4 by unfold isS; decide) (fun b x h e => hS b x h (e ▸ (show isS 4 by unfold isS; decide)))).choose_spec.choose_spec.choose_spec.choose_spec.1.choose_spec.1 hX (Nat.le_trans (by decide) hd) rfl (Nat.le_of_ble_eq_true rfl) (fun r cs hp => ?_)
    obtain ⟨r6, S5, rfl, hw, hW⟩ := hp
    refine z_st (st' := [.int (Int32.ofInt (r6))]) rfl ?_
    refine z_pop dX6_addText_16 rfl ?_
    refine z_aload_n dX6_addText_17 rfl rfl ?_
    refine v_getR hW (hU 3 _ rfl) rfl kX6 fX6_46 dX6_addText_18 ?_
    refine z_iload_n dX6_addText_21 rfl rfl ?_
    refine z_aload_n dX6_addText_22 rfl rfl ?_
    refine v_getR hW (hU 3 _ rfl) rfl kX6 fX6_12 dX6_addText_23 ?_
    have hX := lX5_length 0 (Nat.le_refl _) hW (show isS 4 by unfold isS; decide) (fun b x h e => hS b x h (e ▸ (show isS 4 by unfold isS; decide)))  hw
    refine z_callV (As := []) eX5_length sX5_length lX6_79 rfl dX6_addText_26 (hW.sg (show isS 4 by unfold isS; decide) (fun b x h e => hS b x h (e ▸ (show isS 4 by unfold isS; decide)))).choose_spec.choose_spec.choose_spec.choose_spec.1.choose_spec.1 hX (Nat.le_trans (by decide) hd) rfl (Nat.le_of_ble_eq_true rfl) (fun r cs hp => ?_)
    obtain ⟨r8, S7, rfl, hw, hW⟩ := hp
    refine z_st (st' := [.int (Int32.ofInt (r8)), .int (Int32.ofInt (a1)), .ref (G.1 + v 14)]) rfl ?_
    obtain ⟨q9a, q9b, hw⟩ := hw
    obtain ⟨q11, hw⟩ := hw
    refine v_iast hW (hT 14 _ rfl) (by decide) (by unfold isS; decide) q9a q9b (by decide) q11 dX6_addText_29 (fun cs hW => ?_)
    obtain ⟨S10, hS10⟩ : ∃ x, x = pA S7 14 (a1) (r8) := ⟨_, rfl⟩
    rw [← hS10] at hW
    have hw := hw S10 hS10
    refine z_aload_n dX6_addText_30 rfl rfl ?_
    refine v_getR hW (hU 3 _ rfl) rfl kX6 fX6_49 dX6_addText_31 ?_
    refine z_iload_n dX6_addText_34 rfl rfl ?_
    refine z_aload_n dX6_addText_35 rfl rfl ?_
    refine v_getR hW (hU 3 _ rfl) rfl kX6 fX6_49 dX6_addText_36 ?_
    refine z_iload_n dX6_addText_39 rfl rfl ?_
    obtain ⟨q12a, q12b, hw⟩ := hw
    have q13 : iv 0 1 (S10.2 15 (a1)) := hW.iA 15 _
    have hw := hw q13
    refine v_zald hW (hT 15 _ rfl) q12a q12b (by decide) dX6_addText_40 ?_
    refine i_if_ne (tgt := 51) dX6_addText_41 (by decide) (rngq q13 (by decide) (by decide)) (fun h14 => ?_) (fun h14 => ?_)
    · have hw := hw.1 h14
      refine z_iconst (v := Int32.ofInt 1) dX6_addText_51 rfl ?_
      refine z_goto (tgt := 56) dX6_addText_52 (by decide) ?_
      obtain ⟨q15a, q15b, hw⟩ := hw
      refine v_zast hW (hT 15 _ rfl) (by decide) (by unfold isS; decide) q15a q15b (by decide) (by decide) ⟨by decide, by decide⟩ dX6_addText_56 (fun cs hW => ?_)
      obtain ⟨S16, hS16⟩ : ∃ x, x = pA S10 15 (a1) (1) := ⟨_, rfl⟩
      rw [← hS16] at hW
      have hw := hw S16 hS16
      exact z_return dX6_addText_57 rfl (hP 0 _ _ hw hW)
    · have hw := hw.2 h14
      refine z_iload_n dX6_addText_44 rfl rfl ?_
      have hX := lX10_isBlank 0 (Nat.le_refl _) hT hS hW g2 hw
      refine z_callSN (As := [_]) eX10_isBlank sX10_isBlank lX6_86 dX6_addText_45 hX (Nat.le_trans (by decide) hd) rfl (Nat.le_of_ble_eq_true rfl) (fun r cs hp => ?_)
      obtain ⟨r18, S17, rfl, hw, hW⟩ := hp
      refine z_st (st' := [.int (Int32.ofInt (r18)), .int (Int32.ofInt (a1)), .ref (G.1 + v 15)]) rfl ?_
      obtain ⟨q20, hw⟩ := hw
      refine i_if_ne (tgt := 55) dX6_addText_48 (by decide) q20 (fun h19 => ?_) (fun h19 => ?_)
      · have hw := hw.1 h19
        refine z_iconst (v := Int32.ofInt 0) dX6_addText_55 rfl ?_
        obtain ⟨q21a, q21b, hw⟩ := hw
        refine v_zast hW (hT 15 _ rfl) (by decide) (by unfold isS; decide) q21a q21b (by decide) (by decide) ⟨by decide, by decide⟩ dX6_addText_56 (fun cs hW => ?_)
        obtain ⟨S22, hS22⟩ : ∃ x, x = pA S17 15 (a1) (0) := ⟨_, rfl⟩
        rw [← hS22] at hW
        have hw := hw S22 hS22
        exact z_return dX6_addText_57 rfl (hP 0 _ _ hw hW)
      · have hw := hw.2 h19
        refine z_iconst (v := Int32.ofInt 1) dX6_addText_51 rfl ?_
        refine z_goto (tgt := 56) dX6_addText_52 (by decide) ?_
        obtain ⟨q23a, q23b, hw⟩ := hw
        refine v_zast hW (hT 15 _ rfl) (by decide) (by unfold isS; decide) q23a q23b (by decide) (by decide) ⟨by decide, by decide⟩ dX6_addText_56 (fun cs hW => ?_)
        obtain ⟨S24, hS24⟩ : ∃ x, x = pA S17 15 (a1) (1) := ⟨_, rfl⟩
        rw [← hS24] at hW
        have hw := hw S24 hS24
        exact z_return dX6_addText_57 rfl (hP 0 _ _ hw hW)

def wX9_cdata_69  (S : St) (K : Int → St → Prop) : Prop := (iv (-2147483648) 2147483647 (S.1 220 3) → (wX5_length 1 S (fun r3 S2 => (rng (r3) ∧ ((r3 ≤ S.1 220 3 → (iv (-2147483648) 2147483647 (S2.1 220 3) → (∀ S7, S7 = pI S2 220 6 (S2.1 220 3) → K 0 S7))) ∧ ((¬ (r3 ≤ S.1 220 3)) → (iv (-2147483648) 2147483647 (S2.1 220 3) → (iv (-2147483648) 2147483647 ((S2.1 220 3 + 3)) ∧ (∀ S9, S9 = pI S2 220 3 ((S2.1 220 3 + 3)) → K 0 S9)))))))))
set_option maxRecDepth 100000 in
set_option maxHeartbeats 4000000 in
theorem ubX9_cdata_69 {G : xG} {v : Nat → Nat} {sh : Nat → Option Sh} {B : Nat × Nat} {c0 : List va_E} {d : Nat} {Post : xP} {S : St} {cs : List va_E} {K : Int → St → Prop} (hd : 5 ≤ d) (hT : sb shC sh) (hS : ∀ b x, sh b = some x → ¬ isS b) (hU : sb shXT sh) (hW : Wv G v sh B c0 S cs) (hP : ∀ (x : Int) (S : St) (cs : List va_E), K x S → Wv G v sh B c0 S cs → Post (none) cs)  (hw : wX9_cdata_69  S K ) : Z (RX9, cX9_cdata, 1, none, false) G d Post 69 [(0, .ref (G.1 + v 220))] [] cs := by
  unfold wX9_cdata_69 at hw
  refine z_aload_n dX9_cdata_69 rfl rfl ?_
  have q1 : iv (-2147483648) 2147483647 (S.1 220 3) := hW.iI 220 3
  have hw := hw q1
  refine v_getI hW (hU 220 _ rfl) rfl kX9 fX9_9 dX9_cdata_70 ?_
  refine z_aload_n dX9_cdata_73 rfl rfl ?_
  refine v_getR hW (hU 220 _ rfl) rfl kX9 fX9_24 dX9_cdata_74 ?_
  have hX := lX5_length 0 (Nat.le_refl _) hW (show isS 1 by unfold isS; decide) (fun b x h e => hS b x h (e ▸ (show isS 1 by unfold isS; decide)))  hw
  refine z_callV (As := []) eX5_length sX5_length lX9_80 rfl dX9_cdata_77 (hW.sg (show isS 1 by unfold isS; decide) (fun b x h e => hS b x h (e ▸ (show isS 1 by unfold isS; decide)))).choose_spec.choose_spec.choose_spec.choose_spec.1.choose_spec.1 hX (Nat.le_trans (by decide) hd) rfl (Nat.le_of_ble_eq_true rfl) (fun r cs hp => ?_)
  obtain ⟨r3, S2, rfl, hw, hW⟩ := hp
  refine z_st (st' := [.int (Int32.ofInt (r3)), .int (Int32.ofInt (S.1 220 3))]) rfl ?_
  obtain ⟨q5, hw⟩ := hw
  refine i_icmp_ge (tgt := 96) dX9_cdata_80 (by decide) (rngq q1 (by decide) (by decide)) q5 (fun h4 => ?_) (fun h4 => ?_)
  · have hw := hw.1 h4
    refine z_aload_n dX9_cdata_96 rfl rfl ?_
    refine z_aload_n dX9_cdata_97 rfl rfl ?_
    have q6 : iv (-2147483648) 2147483647 (S2.1 220 3) := hW.iI 220 3
    have hw := hw q6
    refine v_getI hW (hU 220 _ rfl) rfl kX9 fX9_9 dX9_cdata_98 ?_
    refine v_putI hW (hU 220 _ rfl) (by decide) (by unfold isS; decide) rfl kX9 fX9_21 dX9_cdata_101 rfl rfl rfl q6 (fun cs hW => ?_)
    obtain ⟨S7, hS7⟩ : ∃ x, x = pI S2 220 6 (S2.1 220 3) := ⟨_, rfl⟩
    rw [← hS7] at hW
    have hw := hw S7 hS7
    exact z_return dX9_cdata_104 rfl (hP 0 _ _ hw hW)
  · have hw := hw.2 h4
    refine z_aload_n dX9_cdata_83 rfl rfl ?_
    refine z_dup dX9_cdata_84 rfl ?_
    have q8 : iv (-2147483648) 2147483647 (S2.1 220 3) := hW.iI 220 3
    have hw := hw q8
    refine v_getI hW (hU 220 _ rfl) rfl kX9 fX9_9 dX9_cdata_85 ?_
    refine z_iconst (v := Int32.ofInt 3) dX9_cdata_88 rfl ?_
    refine i_iadd dX9_cdata_89 ?_
    obtain ⟨q10, hw⟩ := hw
    refine v_putI hW (hU 220 _ rfl) (by decide) (by unfold isS; decide) rfl kX9 fX9_9 dX9_cdata_90 rfl rfl rfl q10 (fun cs hW => ?_)
    obtain ⟨S9, hS9⟩ : ∃ x, x = pI S2 220 3 ((S2.1 220 3 + 3)) := ⟨_, rfl⟩
    rw [← hS9] at hW
    have hw := hw S9 hS9
    refine z_goto (tgt := 104) dX9_cdata_93 (by decide) ?_
    exact z_return dX9_cdata_104 rfl (hP 0 _ _ hw hW)
def wX9_cdata_11'  (S : St) (K : Int → St → Prop) (B11 : St → Prop) : Prop := (iv (-2147483648) 2147483647 (S.1 220 3) → (wX5_length 1 S (fun r3 S2 => (rng (r3) ∧ ((r3 ≤ S.1 220 3 → wX9_cdata_69 S2 K) ∧ ((¬ (r3 ≤ S.1 220 3)) → (wX9_comes_h S2 (fun r7 S6 => (rng (r7) ∧ ((¬ r7 = 0 → wX9_cdata_69 S6 K) ∧ ((¬ (¬ r7 = 0)) → (iv (-1) 199 (S6.1 220 4) → (iv (-2147483648) 2147483647 (S6.1 220 3) → (wX5_at 1 (S6.1 220 3) S6 (fun r13 S12 => (rng (r13) ∧ (wX6_addText (S6.1 220 4) (r13) S12 (fun r15 S14 => (iv (-2147483648) 2147483647 (S14.1 220 3) → (iv (-2147483648) 2147483647 ((S14.1 220 3 + 1)) ∧ (∀ S18, S18 = pI S14 220 3 ((S14.1 220 3 + 1)) → B11 S18)))))))))))))))))))))
set_option maxRecDepth 100000 in
set_option maxHeartbeats 4000000 in
theorem ubX9_cdata_11' {G : xG} {v : Nat → Nat} {sh : Nat → Option Sh} {B : Nat × Nat} {c0 : List va_E} {d : Nat} {Post : xP} {S : St} {cs : List va_E} {K : Int → St → Prop} {B11 : St → Prop} (hd : 5 ≤ d) (hT : sb shC sh) (hS : ∀ b x, sh b = some x → ¬ isS b) (hU : sb shXT sh) (hW : Wv G v sh B c0 S cs) (hP : ∀ (x : Int) (S : St) (cs : List va_E), K x S → Wv G v sh B c0 S cs → Post (none) cs) (hB11 : ∀  (S : St) (cs : List va_E), B11  S → Wv G v sh B c0 S cs → Z (RX9, cX9_cdata, 1, none, false) G d Post 11 [(0, .ref (G.1 + v 220))] [] cs) (hw : wX9_cdata_11'  S K B11) : Z (RX9, cX9_cdata, 1, none, false) G d Post 11 [(0, .ref (G.1 + v 220))] [] cs := by
  unfold wX9_cdata_11' at hw
  refine z_aload_n dX9_cdata_11 rfl rfl ?_
  have q1 : iv (-2147483648) 2147483647 (S.1 220 3) := hW.iI 220 3
  have hw := hw q1
  refine v_getI hW (hU 220 _ rfl) rfl kX9 fX9_9 dX9_cdata_12 ?_
  refine z_aload_n dX9_cdata_15 rfl rfl ?_
  refine v_getR hW (hU 220 _ rfl) rfl kX9 fX9_24 dX9_cdata_16 ?_
  have hX := lX5_length 0 (Nat.le_refl _) hW (show isS 1 by unfold isS; decide) (fun b x h e => hS b x h (e ▸ (show isS 1 by unfold isS; decide)))  hw
  refine z_callV (As := []) eX5_length sX5_length lX9_80 rfl dX9_cdata_19 (hW.sg (show isS 1 by unfold isS; decide) (fun b x h e => hS b x h (e ▸ (show isS 1 by unfold isS; decide)))).choose_spec.choose_spec.choose_spec.choose_spec.1.choose_spec.1 hX (Nat.le_trans (by decide) hd) rfl (Nat.le_of_ble_eq_true rfl) (fun r cs hp => ?_)
  obtain ⟨r3, S2, rfl, hw, hW⟩ := hp
  refine z_st (st' := [.int (Int32.ofInt (r3)), .int (Int32.ofInt (S.1 220 3))]) rfl ?_
  obtain ⟨q5, hw⟩ := hw
  refine i_icmp_ge (tgt := 69) dX9_cdata_22 (by decide) (rngq q1 (by decide) (by decide)) q5 (fun h4 => ?_) (fun h4 => ?_)
  · have hw := hw.1 h4
    refine z_loc (L' := [(0, .ref (G.1 + v 220))]) (List.forall_mem_cons.mpr ⟨rfl, (fun _ h => nomatch h)⟩) ?_
    exact ubX9_cdata_69 hd hT hS hU hW hP  hw
  · have hw := hw.2 h4
    refine z_aload_n dX9_cdata_25 rfl rfl ?_
    refine z_ldcS (i := 23) (tx := "]]>") (by decide +kernel) dX9_cdata_26 ?_
    have hX := lX9_comes_h 4 (Nat.le_refl _) hT hS hU hW  hw
    refine z_callV (As := [_]) eX9_comes sX9_comes lX9_64 rfl dX9_cdata_28 (hW.at (hU 220 _ rfl)) hX (Nat.le_trans (by decide) hd) rfl (Nat.le_of_ble_eq_true rfl) (fun r cs hp => ?_)
    obtain ⟨r7, S6, rfl, hw, hW⟩ := hp
    refine z_st (st' := [.int (Int32.ofInt (r7))]) rfl ?_
    obtain ⟨q9, hw⟩ := hw
    refine i_if_ne (tgt := 69) dX9_cdata_31 (by decide) q9 (fun h8 => ?_) (fun h8 => ?_)
    · have hw := hw.1 h8
      refine z_loc (L' := [(0, .ref (G.1 + v 220))]) (List.forall_mem_cons.mpr ⟨rfl, (fun _ h => nomatch h)⟩) ?_
      exact ubX9_cdata_69 hd hT hS hU hW hP  hw
    · have hw := hw.2 h8
      refine z_aload_n dX9_cdata_34 rfl rfl ?_
      refine v_getR hW (hU 220 _ rfl) rfl kX9 fX9_28 dX9_cdata_35 ?_
      refine z_aload_n dX9_cdata_38 rfl rfl ?_
      have q10 : iv (-1) 199 (S6.1 220 4) := hW.iI 220 4
      have hw := hw q10
      refine v_getI hW (hU 220 _ rfl) rfl kX9 fX9_15 dX9_cdata_39 ?_
      refine z_aload_n dX9_cdata_42 rfl rfl ?_
      refine v_getR hW (hU 220 _ rfl) rfl kX9 fX9_24 dX9_cdata_43 ?_
      refine z_aload_n dX9_cdata_46 rfl rfl ?_
      have q11 : iv (-2147483648) 2147483647 (S6.1 220 3) := hW.iI 220 3
      have hw := hw q11
      refine v_getI hW (hU 220 _ rfl) rfl kX9 fX9_9 dX9_cdata_47 ?_
      have hX := lX5_at 0 (Nat.le_refl _) hW (show isS 1 by unfold isS; decide) (fun b x h e => hS b x h (e ▸ (show isS 1 by unfold isS; decide))) (rngq q11 (by decide) (by decide)) hw
      refine z_callV (As := [_]) eX5_at sX5_at lX9_47 rfl dX9_cdata_50 (hW.sg (show isS 1 by unfold isS; decide) (fun b x h e => hS b x h (e ▸ (show isS 1 by unfold isS; decide)))).choose_spec.choose_spec.choose_spec.choose_spec.1.choose_spec.1 hX (Nat.le_trans (by decide) hd) rfl (Nat.le_of_ble_eq_true rfl) (fun r cs hp => ?_)
      obtain ⟨r13, S12, rfl, hw, hW⟩ := hp
      refine z_st (st' := [.int (Int32.ofInt (r13)), .int (Int32.ofInt (S6.1 220 4)), .ref (G.1 + v 3)]) rfl ?_
      obtain ⟨q16, hw⟩ := hw
      have hX := lX6_addText 2 (Nat.le_refl _) hT hS (sbt sbX6_X9 hU) hW (rngq q10 (by decide) (by decide)) q16 hw
      refine z_callV (As := [_, _]) eX6_addText sX6_addText lX9_135 rfl dX9_cdata_53 (hW.at (hU 3 _ rfl)) hX (Nat.le_trans (by decide) hd) rfl (Nat.le_of_ble_eq_true rfl) (fun r cs hp => ?_)
      obtain ⟨r15, S14, rfl, hw, hW⟩ := hp
      refine z_st (st' := []) rfl ?_
      refine z_aload_n dX9_cdata_56 rfl rfl ?_
      refine z_dup dX9_cdata_57 rfl ?_
      have q17 : iv (-2147483648) 2147483647 (S14.1 220 3) := hW.iI 220 3
      have hw := hw q17
      refine v_getI hW (hU 220 _ rfl) rfl kX9 fX9_9 dX9_cdata_58 ?_
      refine z_iconst (v := Int32.ofInt 1) dX9_cdata_61 rfl ?_
      refine i_iadd dX9_cdata_62 ?_
      obtain ⟨q19, hw⟩ := hw
      refine v_putI hW (hU 220 _ rfl) (by decide) (by unfold isS; decide) rfl kX9 fX9_9 dX9_cdata_63 rfl rfl rfl q19 (fun cs hW => ?_)
      obtain ⟨S18, hS18⟩ : ∃ x, x = pI S14 220 3 ((S14.1 220 3 + 1)) := ⟨_, rfl⟩
      rw [← hS18] at hW
      have hw := hw S18 hS18
      refine z_goto (tgt := 11) dX9_cdata_66 (by decide) ?_
      refine z_loc (L' := [(0, .ref (G.1 + v 220))]) (List.forall_mem_cons.mpr ⟨rfl, (fun _ h => nomatch h)⟩) ?_
      exact hB11  _ _ hw hW
def wX9_cdata_11  (S : St) (K : Int → St → Prop) : Prop := ∃ (Iv : St → Prop) (mu : St → Nat), Iv  S ∧ ∀ (S : St), Iv  S → wX9_cdata_11'  S K  (fun  T => Iv  T ∧ mu  T < mu  S)
set_option maxRecDepth 100000 in
set_option maxHeartbeats 4000000 in
theorem ubX9_cdata_11 {G : xG} {v : Nat → Nat} {sh : Nat → Option Sh} {B : Nat × Nat} {c0 : List va_E} {d : Nat} {Post : xP} {S : St} {cs : List va_E} {K : Int → St → Prop} (hd : 5 ≤ d) (hT : sb shC sh) (hS : ∀ b x, sh b = some x → ¬ isS b) (hU : sb shXT sh) (hW : Wv G v sh B c0 S cs) (hP : ∀ (x : Int) (S : St) (cs : List va_E), K x S → Wv G v sh B c0 S cs → Post (none) cs)  (hw : wX9_cdata_11  S K ) : Z (RX9, cX9_cdata, 1, none, false) G d Post 11 [(0, .ref (G.1 + v 220))] [] cs := by
  unfold wX9_cdata_11 at hw
  obtain ⟨Iv, mu, h0, hs⟩ := hw
  have key : ∀ (n : Nat) (S : St) (cs : List va_E), mu  S < n → Iv  S → Wv G v sh B c0 S cs → Z (RX9, cX9_cdata, 1, none, false) G d Post 11 [(0, .ref (G.1 + v 220))] [] cs := by
    intro n
    induction n with
    | zero => intro  S cs hn; exact absurd hn (Nat.not_lt_zero _)
    | succ n ih =>
      intro  S cs hn hI hW
      exact ubX9_cdata_11' hd hT hS hU hW hP  (fun  S cs hb hW => ih  S cs (Nat.lt_of_lt_of_le hb.2 (Nat.le_of_lt_succ hn)) hb.1 hW) (hs  S hI)
  exact key _  _ _ (Nat.lt_succ_self _) h0 hW
def wX9_cdata  (S : St) (K : Int → St → Prop) : Prop := (iv (-2147483648) 2147483647 (S.1 220 3) → (iv (-2147483648) 2147483647 ((S.1 220 3 + 9)) ∧ (∀ S2, S2 = pI S 220 3 ((S.1 220 3 + 9)) → wX9_cdata_11 S2 K)))
set_option maxRecDepth 100000 in
set_option maxHeartbeats 4000000 in
theorem lX9_cdata {G : xG} {v : Nat → Nat} {sh : Nat → Option Sh} {B : Nat × Nat} {c0 : List va_E}  {S : St} {cs : List va_E} {K : Int → St → Prop} (d : Nat) (hd : 5 ≤ d) (hT : sb shC sh) (hS : ∀ b x, sh b = some x → ¬ isS b) (hU : sb shXT sh) (hW : Wv G v sh B c0 S cs)  (hw : wX9_cdata  S K) : X G yX9_cdata cX9_cdata 1 none d [.ref (G.1 + v 220)] cs (vV G v sh B c0 K) := by
  refine X.of false (by decide +kernel) (by decide) (Nat.le_of_ble_eq_true rfl) ?_
  show Z (RX9, cX9_cdata, 1, none, false) G d _ 0 [(0, .ref (G.1 + v 220))] [] cs
  have hP : ∀ (x : Int) (S : St) (cs : List va_E), K x S → Wv G v sh B c0 S cs → vV G v sh B c0 K (none) cs := fun x S cs a b => ⟨x, S, rfl, a, b⟩
  unfold wX9_cdata at hw
  refine z_aload_n dX9_cdata_0 rfl rfl ?_
  refine z_dup dX9_cdata_1 rfl ?_
  have q1 : iv (-2147483648) 2147483647 (S.1 220 3) := hW.iI 220 3
  have hw := hw q1
  refine v_getI hW (hU 220 _ rfl) rfl kX9 fX9_9 dX9_cdata_2 ?_
  refine z_bipush (v := Int32.ofInt 9) dX9_cdata_5 (by decide) ?_
  refine i_iadd dX9_cdata_7 ?_
  obtain ⟨q3, hw⟩ := hw
  refine v_putI hW (hU 220 _ rfl) (by decide) (by unfold isS; decide) rfl kX9 fX9_9 dX9_cdata_8 rfl rfl rfl q3 (fun cs hW => ?_)
  obtain ⟨S2, hS2⟩ : ∃ x, x = pI S 220 3 ((S.1 220 3 + 9)) := ⟨_, rfl⟩
  rw [← hS2] at hW
  have hw := hw S2 hS2
  refine z_loc (L' := [(0, .ref (G.1 + v 220))]) (List.forall_mem_cons.mpr ⟨rfl, (fun _ h => nomatch h)⟩) ?_
  exact ubX9_cdata_11 hd hT hS hU hW hP  hw

