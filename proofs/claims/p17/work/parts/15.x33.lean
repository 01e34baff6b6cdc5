def wX2_areFieldsAlike_141  (l1 l2 l3 l4 : Int) (S : St) (K : Int → St → Prop) (B12 : Int → Int → Int → Int → St → Prop) : Prop := B12 (l1) (l2) (l3) ((l4 + 1)) S
set_option maxRecDepth 100000 in
set_option maxHeartbeats 4000000 in
theorem ubX2_areFieldsAlike_141 {G : xG} {v : Nat → Nat} {sh : Nat → Option Sh} {B : Nat × Nat} {c0 : List va_E} {d : Nat} {Post : xP} {l1 l2 l3 l4 : Int} {S : St} {cs : List va_E} {K : Int → St → Prop} {B12 : Int → Int → Int → Int → St → Prop} (hd : 4 ≤ d) (hT : sb shC sh) (hS : ∀ b x, sh b = some x → ¬ isS b) (hU : sb shLi sh) (hW : Wv G v sh B c0 S cs) (hP : ∀ (x : Int) (S : St) (cs : List va_E), K x S → Wv G v sh B c0 S cs → Post (some (.int (Int32.ofInt x))) cs) (hB12 : ∀ (l1 : Int) (l2 : Int) (l3 : Int) (l4 : Int) (S : St) (cs : List va_E), B12 l1 l2 l3 l4 S → Wv G v sh B c0 S cs → Z (RX2, cX2_areFieldsAlike, 7, some .boolean, false) G d Post 12 [(0, .ref (G.1 + v 250)), (1, .int (Int32.ofInt (l1))), (2, .int (Int32.ofInt (l2))), (3, .int (Int32.ofInt (l3))), (4, .int (Int32.ofInt (l4)))] [] cs) (hw : wX2_areFieldsAlike_141 l1 l2 l3 l4 S K B12) : Z (RX2, cX2_areFieldsAlike, 7, some .boolean, false) G d Post 141 [(0, .ref (G.1 + v 250)), (1, .int (Int32.ofInt (l1))), (2, .int (Int32.ofInt (l2))), (3, .int (Int32.ofInt (l3))), (4, .int (Int32.ofInt (l4)))] [] cs := by
  unfold wX2_areFieldsAlike_141 at hw
  refine i_iinc (l := l4) dX2_areFieldsAlike_141 rfl (by decide) ?_
  refine z_loc (L' := [(0, .ref (G.1 + v 250)), (1, .int (Int32.ofInt (l1))), (2, .int (Int32.ofInt (l2))), (3, .int (Int32.ofInt (l3))), (4, .int (Int32.ofInt ((l4 + 1))))]) (List.forall_mem_cons.mpr ⟨rfl, (List.forall_mem_cons.mpr ⟨rfl, (List.forall_mem_cons.mpr ⟨rfl, (List.forall_mem_cons.mpr ⟨rfl, (List.forall_mem_cons.mpr ⟨rfl, (fun _ h => nomatch h)⟩)⟩)⟩)⟩)⟩) ?_
  refine z_goto (tgt := 12) dX2_areFieldsAlike_144 (by decide) ?_
  refine z_loc (L' := [(0, .ref (G.1 + v 250)), (1, .int (Int32.ofInt (l1))), (2, .int (Int32.ofInt (l2))), (3, .int (Int32.ofInt (l3))), (4, .int (Int32.ofInt ((l4 + 1))))]) (List.forall_mem_cons.mpr ⟨rfl, (List.forall_mem_cons.mpr ⟨rfl, (List.forall_mem_cons.mpr ⟨rfl, (List.forall_mem_cons.mpr ⟨rfl, (List.forall_mem_cons.mpr ⟨rfl, (fun _ h => nomatch h)⟩)⟩)⟩)⟩)⟩) ?_
  exact hB12 _ _ _ _ _ _ hw hW
def wX2_areFieldsAlike_122  (l1 l2 l3 l4 l5 : Int) (S : St) (K : Int → St → Prop) (B12 : Int → Int → Int → Int → St → Prop) : Prop := (rng (l5) ∧ ((¬ l5 = 4 → wX2_areFieldsAlike_141 (l1) (l2) (l3) (l4) S K B12) ∧ ((¬ (¬ l5 = 4)) → (rng (l1) ∧ (rng (l2) ∧ (rng (l4) ∧ (wX2_areListsAlike (l1) (l2) (l4) S (fun r4 S3 => (rng (r4) ∧ ((¬ r4 = 0 → wX2_areFieldsAlike_141 (l1) (l2) (l3) (l4) S3 K B12) ∧ ((¬ (¬ r4 = 0)) → K (0) S3)))))))))))
set_option maxRecDepth 100000 in
set_option maxHeartbeats 4000000 in
theorem ubX2_areFieldsAlike_122 {G : xG} {v : Nat → Nat} {sh : Nat → Option Sh} {B : Nat × Nat} {c0 : List va_E} {d : Nat} {Post : xP} {l1 l2 l3 l4 l5 : Int} {S : St} {cs : List va_E} {K : Int → St → Prop} {B12 : Int → Int → Int → Int → St → Prop} (hd : 4 ≤ d) (hT : sb shC sh) (hS : ∀ b x, sh b = some x → ¬ isS b) (hU : sb shLi sh) (hW : Wv G v sh B c0 S cs) (hP : ∀ (x : Int) (S : St) (cs : List va_E), K x S → Wv G v sh B c0 S cs → Post (some (.int (Int32.ofInt x))) cs) (hB12 : ∀ (l1 : Int) (l2 : Int) (l3 : Int) (l4 : Int) (S : St) (cs : List va_E), B12 l1 l2 l3 l4 S → Wv G v sh B c0 S cs → Z (RX2, cX2_areFieldsAlike, 7, some .boolean, false) G d Post 12 [(0, .ref (G.1 + v 250)), (1, .int (Int32.ofInt (l1))), (2, .int (Int32.ofInt (l2))), (3, .int (Int32.ofInt (l3))), (4, .int (Int32.ofInt (l4)))] [] cs) (hw : wX2_areFieldsAlike_122 l1 l2 l3 l4 l5 S K B12) : Z (RX2, cX2_areFieldsAlike, 7, some .boolean, false) G d Post 122 [(0, .ref (G.1 + v 250)), (1, .int (Int32.ofInt (l1))), (2, .int (Int32.ofInt (l2))), (3, .int (Int32.ofInt (l3))), (4, .int (Int32.ofInt (l4))), (5, .int (Int32.ofInt (l5)))] [] cs := by
  unfold wX2_areFieldsAlike_122 at hw
  refine z_iload dX2_areFieldsAlike_122 rfl ?_
  refine z_iconst (v := Int32.ofInt 4) dX2_areFieldsAlike_124 rfl ?_
  obtain ⟨q2, hw⟩ := hw
  refine i_icmp_ne (tgt := 141) dX2_areFieldsAlike_125 (by decide) q2 ⟨by decide, by decide⟩ (fun h1 => ?_) (fun h1 => ?_)
  · have hw := hw.1 h1
    refine z_loc (L' := [(0, .ref (G.1 + v 250)), (1, .int (Int32.ofInt (l1))), (2, .int (Int32.ofInt (l2))), (3, .int (Int32.ofInt (l3))), (4, .int (Int32.ofInt (l4)))]) (List.forall_mem_cons.mpr ⟨rfl, (List.forall_mem_cons.mpr ⟨rfl, (List.forall_mem_cons.mpr ⟨rfl, (List.forall_mem_cons.mpr ⟨rfl, (List.forall_mem_cons.mpr ⟨rfl, (fun _ h => nomatch h)⟩)⟩)⟩)⟩)⟩) ?_
    exact ubX2_areFieldsAlike_141 hd hT hS hU hW hP hB12 hw
  · have hw := hw.2 h1
    refine z_aload_n dX2_areFieldsAlike_128 rfl rfl ?_
    refine z_iload_n dX2_areFieldsAlike_129 rfl rfl ?_
    refine z_iload_n dX2_areFieldsAlike_130 rfl rfl ?_
    refine z_iload dX2_areFieldsAlike_131 rfl ?_
    obtain ⟨q5, hw⟩ := hw
    obtain ⟨q6, hw⟩ := hw
    obtain ⟨q7, hw⟩ := hw
    have hX := lX2_areListsAlike 3 (Nat.le_refl _) hT hS hU hW q5 q6 q7 hw
    refine z_callV (As := [_, _, _]) eX2_areListsAlike sX2_areListsAlike lX2_75 rfl dX2_areFieldsAlike_133 (hW.at (hU 250 _ rfl)) hX (Nat.le_trans (by decide) hd) rfl (Nat.le_of_ble_eq_true rfl) (fun r cs hp => ?_)
    obtain ⟨r4, S3, rfl, hw, hW⟩ := hp
    refine z_st (st' := [.int (Int32.ofInt (r4))]) rfl ?_
    obtain ⟨q9, hw⟩ := hw
    refine i_if_ne (tgt := 141) dX2_areFieldsAlike_136 (by decide) q9 (fun h8 => ?_) (fun h8 => ?_)
    · have hw := hw.1 h8
      refine z_loc (L' := [(0, .ref (G.1 + v 250)), (1, .int (Int32.ofInt (l1))), (2, .int (Int32.ofInt (l2))), (3, .int (Int32.ofInt (l3))), (4, .int (Int32.ofInt (l4)))]) (List.forall_mem_cons.mpr ⟨rfl, (List.forall_mem_cons.mpr ⟨rfl, (List.forall_mem_cons.mpr ⟨rfl, (List.forall_mem_cons.mpr ⟨rfl, (List.forall_mem_cons.mpr ⟨rfl, (fun _ h => nomatch h)⟩)⟩)⟩)⟩)⟩) ?_
      exact ubX2_areFieldsAlike_141 hd hT hS hU hW hP hB12 hw
    · have hw := hw.2 h8
      refine z_iconst (v := Int32.ofInt 0) dX2_areFieldsAlike_139 rfl ?_
      exact z_ireturn dX2_areFieldsAlike_140 rfl (nar01 (by decide)) (hP _ _ _ hw hW)
def wX2_areFieldsAlike_98  (l1 l2 l3 l4 l5 s0 : Int) (S : St) (K : Int → St → Prop) (B12 : Int → Int → Int → Int → St → Prop) : Prop := (rng (s0) ∧ ((s0 = 0 → K (0) S) ∧ ((¬ (s0 = 0)) → (rng (l5) ∧ ((¬ l5 = 2 → wX2_areFieldsAlike_122 (l1) (l2) (l3) (l4) (l5) S K B12) ∧ ((¬ (¬ l5 = 2)) → (rng (l1) ∧ (rng (l2) ∧ (rng (l4) ∧ (wX2_areTextsAlike (l1) (l2) (l4) S (fun r6 S5 => (rng (r6) ∧ ((r6 = 0 → K (0) S5) ∧ ((¬ (r6 = 0)) → wX2_areFieldsAlike_122 (l1) (l2) (l3) (l4) (l5) S5 K B12))))))))))))))
set_option maxRecDepth 100000 in
set_option maxHeartbeats 4000000 in
theorem ubX2_areFieldsAlike_98 {G : xG} {v : Nat → Nat} {sh : Nat → Option Sh} {B : Nat × Nat} {c0 : List va_E} {d : Nat} {Post : xP} {l1 l2 l3 l4 l5 s0 : Int} {S : St} {cs : List va_E} {K : Int → St → Prop} {B12 : Int → Int → Int → Int → St → Prop} (hd : 4 ≤ d) (hT : sb shC sh) (hS : ∀ b x, sh b = some x → ¬ isS b) (hU : sb shLi sh) (hW : Wv G v sh B c0 S cs) (hP : ∀ (x : Int) (S : St) (cs : List va_E), K x S → Wv G v sh B c0 S cs → Post (some (.int (Int32.ofInt x))) cs) (hB12 : ∀ (l1 : Int) (l2 : Int) (l3 : Int) (l4 : Int) (S : St) (cs : List va_E), B12 l1 l2 l3 l4 S → Wv G v sh B c0 S cs → Z (RX2, cX2_areFieldsAlike, 7, some .boolean, false) G d Post 12 [(0, .ref (G.1 + v 250)), (1, .int (Int32.ofInt (l1))), (2, .int (Int32.ofInt (l2))), (3, .int (Int32.ofInt (l3))), (4, .int (Int32.ofInt (l4)))] [] cs) (hw : wX2_areFieldsAlike_98 l1 l2 l3 l4 l5 s0 S K B12) : Z (RX2, cX2_areFieldsAlike, 7, some .boolean, false) G d Post 98 [(0, .ref (G.1 + v 250)), (1, .int (Int32.ofInt (l1))), (2, .int (Int32.ofInt (l2))), (3, .int (Int32.ofInt (l3))), (4, .int (Int32.ofInt (l4))), (5, .int (Int32.ofInt (l5)))] [.int (Int32.ofInt (s0))] cs := by
  unfold wX2_areFieldsAlike_98 at hw
  refine z_istore dX2_areFieldsAlike_98 (by decide) ?_
  refine z_loc (L' := [(0, .ref (G.1 + v 250)), (1, .int (Int32.ofInt (l1))), (2, .int (Int32.ofInt (l2))), (3, .int (Int32.ofInt (l3))), (4, .int (Int32.ofInt (l4))), (5, .int (Int32.ofInt (l5))), (6, .int (Int32.ofInt (s0)))]) (List.forall_mem_cons.mpr ⟨rfl, (List.forall_mem_cons.mpr ⟨rfl, (List.forall_mem_cons.mpr ⟨rfl, (List.forall_mem_cons.mpr ⟨rfl, (List.forall_mem_cons.mpr ⟨rfl, (List.forall_mem_cons.mpr ⟨rfl, (List.forall_mem_cons.mpr ⟨rfl, (fun _ h => nomatch h)⟩)⟩)⟩)⟩)⟩)⟩)⟩) ?_
  refine z_iload dX2_areFieldsAlike_100 rfl ?_
  obtain ⟨q2, hw⟩ := hw
  refine i_if_eq (tgt := 139) dX2_areFieldsAlike_102 (by decide) q2 (fun h1 => ?_) (fun h1 => ?_)
  · have hw := hw.1 h1
    refine z_iconst (v := Int32.ofInt 0) dX2_areFieldsAlike_139 rfl ?_
    exact z_ireturn dX2_areFieldsAlike_140 rfl (nar01 (by decide)) (hP _ _ _ hw hW)
  · have hw := hw.2 h1
    refine z_iload dX2_areFieldsAlike_105 rfl ?_
    refine z_iconst (v := Int32.ofInt 2) dX2_areFieldsAlike_107 rfl ?_
    obtain ⟨q4, hw⟩ := hw
    refine i_icmp_ne (tgt := 122) dX2_areFieldsAlike_108 (by decide) q4 ⟨by decide, by decide⟩ (fun h3 => ?_) (fun h3 => ?_)
    · have hw := hw.1 h3
      refine z_loc (L' := [(0, .ref (G.1 + v 250)), (1, .int (Int32.ofInt (l1))), (2, .int (Int32.ofInt (l2))), (3, .int (Int32.ofInt (l3))), (4, .int (Int32.ofInt (l4))), (5, .int (Int32.ofInt (l5)))]) (List.forall_mem_cons.mpr ⟨rfl, (List.forall_mem_cons.mpr ⟨rfl, (List.forall_mem_cons.mpr ⟨rfl, (List.forall_mem_cons.mpr ⟨rfl, (List.forall_mem_cons.mpr ⟨rfl, (List.forall_mem_cons.mpr ⟨rfl, (fun _ h => nomatch h)⟩)⟩)⟩)⟩)⟩)⟩) ?_
      exact ubX2_areFieldsAlike_122 hd hT hS hU hW hP hB12 hw
    · have hw := hw.2 h3
      refine z_aload_n dX2_areFieldsAlike_111 rfl rfl ?_
      refine z_iload_n dX2_areFieldsAlike_112 rfl rfl ?_
      refine z_iload_n dX2_areFieldsAlike_113 rfl rfl ?_
      refine z_iload dX2_areFieldsAlike_114 rfl ?_
      obtain ⟨q7, hw⟩ := hw
      obtain ⟨q8, hw⟩ := hw
      obtain ⟨q9, hw⟩ := hw
      have hX := lX2_areTextsAlike 2 (Nat.le_refl _) hT hS hU hW q7 q8 q9 hw
      refine z_callV (As := [_, _, _]) eX2_areTextsAlike sX2_areTextsAlike lX2_71 rfl dX2_areFieldsAlike_116 (hW.at (hU 250 _ rfl)) hX (Nat.le_trans (by decide) hd) rfl (Nat.le_of_ble_eq_true rfl) (fun r cs hp => ?_)
      obtain ⟨r6, S5, rfl, hw, hW⟩ := hp
      refine z_st (st' := [.int (Int32.ofInt (r6))]) rfl ?_
      obtain ⟨q11, hw⟩ := hw
      refine i_if_eq (tgt := 139) dX2_areFieldsAlike_119 (by decide) q11 (fun h10 => ?_) (fun h10 => ?_)
      · have hw := hw.1 h10
        refine z_iconst (v := Int32.ofInt 0) dX2_areFieldsAlike_139 rfl ?_
        exact z_ireturn dX2_areFieldsAlike_140 rfl (nar01 (by decide)) (hP _ _ _ hw hW)
      · have hw := hw.2 h10
        refine z_loc (L' := [(0, .ref (G.1 + v 250)), (1, .int (Int32.ofInt (l1))), (2, .int (Int32.ofInt (l2))), (3, .int (Int32.ofInt (l3))), (4, .int (Int32.ofInt (l4))), (5, .int (Int32.ofInt (l5)))]) (List.forall_mem_cons.mpr ⟨rfl, (List.forall_mem_cons.mpr ⟨rfl, (List.forall_mem_cons.mpr ⟨rfl, (List.forall_mem_cons.mpr ⟨rfl, (List.forall_mem_cons.mpr ⟨rfl, (List.forall_mem_cons.mpr ⟨rfl, (fun _ h => nomatch h)⟩)⟩)⟩)⟩)⟩)⟩) ?_
        exact ubX2_areFieldsAlike_122 hd hT hS hU hW hP hB12 hw
def wX2_areFieldsAlike_12'  (l1 l2 l3 l4 : Int) (S : St) (K : Int → St → Prop) (B12 : Int → Int → Int → Int → St → Prop) : Prop := (rng (l3) ∧ (wX4_fieldCount (l3) S (fun r2 S1 => (rng (l4) ∧ (rng (r2) ∧ ((r2 ≤ l4 → K (1) S1) ∧ ((¬ (r2 ≤ l4)) → (wX4_shape (l3) (l4) S1 (fun r8 S7 => (rng (r8) ∧ ((¬ r8 = 3 → (rng (l1) ∧ (wX1_head (l1) (l4) S7 (fun r12 S11 => (rng (l2) ∧ (wX1_head_c (l2) (l4) S11 (fun r15 S14 => (rng (r12) ∧ (rng (r15) ∧ ((¬ r12 = r15 → wX2_areFieldsAlike_98 (l1) (l2) (l3) (l4) (r8) (0) S14 K B12) ∧ ((¬ (¬ r12 = r15)) → wX2_areFieldsAlike_98 (l1) (l2) (l3) (l4) (r8) (1) S14 K B12))))))))))) ∧ ((¬ (¬ r8 = 3)) → (rng (l1) ∧ (wX1_head (l1) (l4) S7 (fun r21 S20 => (rng (l2) ∧ (wX1_head_c (l2) (l4) S20 (fun r24 S23 => (rng (r21) ∧ (rng (r24) ∧ (wX2_pairs (r21) (r24) S23 (fun r27 S26 => wX2_areFieldsAlike_98 (l1) (l2) (l3) (l4) (r8) (r27) S26 K B12))))))))))))))))))))))
set_option maxRecDepth 100000 in
set_option maxHeartbeats 4000000 in
theorem ubX2_areFieldsAlike_12' {G : xG} {v : Nat → Nat} {sh : Nat → Option Sh} {B : Nat × Nat} {c0 : List va_E} {d : Nat} {Post : xP} {l1 l2 l3 l4 : Int} {S : St} {cs : List va_E} {K : Int → St → Prop} {B12 : Int → Int → Int → Int → St → Prop} (hd : 4 ≤ d) (hT : sb shC sh) (hS : ∀ b x, sh b = some x → ¬ isS b) (hU : sb shLi sh) (hW : Wv G v sh B c0 S cs) (hP : ∀ (x : Int) (S : St) (cs : List va_E), K x S → Wv G v sh B c0 S cs → Post (some (.int (Int32.ofInt x))) cs) (hB12 : ∀ (l1 : Int) (l2 : Int) (l3 : Int) (l4 : Int) (S : St) (cs : List va_E), B12 l1 l2 l3 l4 S → Wv G v sh B c0 S cs → Z (RX2, cX2_areFieldsAlike, 7, some .boolean, false) G d Post 12 [(0, .ref (G.1 + v 250)), (1, .int (Int32.ofInt (l1))), (2, .int (Int32.ofInt (l2))), (3, .int (Int32.ofInt (l3))), (4, .int (Int32.ofInt (l4)))] [] cs) (hw : wX2_areFieldsAlike_12' l1 l2 l3 l4 S K B12) : Z (RX2, cX2_areFieldsAlike, 7, some .boolean, false) G d Post 12 [(0, .ref (G.1 + v 250)), (1, .int (Int32.ofInt (l1))), (2, .int (Int32.ofInt (l2))), (3, .int (Int32.ofInt (l3))), (4, .int (Int32.ofInt (l4)))] [] cs := by
  unfold wX2_areFieldsAlike_12' at hw
  refine z_iload dX2_areFieldsAlike_12 rfl ?_
  refine z_aload_n dX2_areFieldsAlike_14 rfl rfl ?_
  refine v_getR hW (hU 250 _ rfl) rfl kX2 fX2_25 dX2_areFieldsAlike_15 ?_
  refine z_iload_n dX2_areFieldsAlike_18 rfl rfl ?_
  obtain ⟨q3, hw⟩ := hw
  have hX := lX4_fieldCount 1 (Nat.le_refl _) hT hS hW q3 hw
  refine z_callV (As := [_]) eX4_fieldCount sX4_fieldCount lX2_59 rfl dX2_areFieldsAlike_19 (hW.at (hT 24 _ rfl)) hX (Nat.le_trans (by decide) hd) rfl (Nat.le_of_ble_eq_true rfl) (fun r cs hp => ?_)
  obtain ⟨r2, S1, rfl, hw, hW⟩ := hp
  refine z_st (st' := [.int (Int32.ofInt (r2)), .int (Int32.ofInt (l4))]) rfl ?_
  obtain ⟨q5, hw⟩ := hw
  obtain ⟨q6, hw⟩ := hw
  refine i_icmp_ge (tgt := 147) dX2_areFieldsAlike_22 (by decide) q5 q6 (fun h4 => ?_) (fun h4 => ?_)
  · have hw := hw.1 h4
    refine z_iconst (v := Int32.ofInt 1) dX2_areFieldsAlike_147 rfl ?_
    exact z_ireturn dX2_areFieldsAlike_148 rfl (nar01 (by decide)) (hP _ _ _ hw hW)
  · have hw := hw.2 h4
    refine z_aload_n dX2_areFieldsAlike_25 rfl rfl ?_
    refine v_getR hW (hU 250 _ rfl) rfl kX2 fX2_25 dX2_areFieldsAlike_26 ?_
    refine z_iload_n dX2_areFieldsAlike_29 rfl rfl ?_
    refine z_iload dX2_areFieldsAlike_30 rfl ?_
    have hX := lX4_shape 1 (Nat.le_refl _) hT hS hW q3 q5 hw
    refine z_callV (As := [_, _]) eX4_shape sX4_shape lX2_64 rfl dX2_areFieldsAlike_32 (hW.at (hT 24 _ rfl)) hX (Nat.le_trans (by decide) hd) rfl (Nat.le_of_ble_eq_true rfl) (fun r cs hp => ?_)
    obtain ⟨r8, S7, rfl, hw, hW⟩ := hp
    refine z_st (st' := [.int (Int32.ofInt (r8))]) rfl ?_
    refine z_istore dX2_areFieldsAlike_35 (by decide) ?_
    refine z_loc (L' := [(0, .ref (G.1 + v 250)), (1, .int (Int32.ofInt (l1))), (2, .int (Int32.ofInt (l2))), (3, .int (Int32.ofInt (l3))), (4, .int (Int32.ofInt (l4))), (5, .int (Int32.ofInt (r8)))]) (List.forall_mem_cons.mpr ⟨rfl, (List.forall_mem_cons.mpr ⟨rfl, (List.forall_mem_cons.mpr ⟨rfl, (List.forall_mem_cons.mpr ⟨rfl, (List.forall_mem_cons.mpr ⟨rfl, (List.forall_mem_cons.mpr ⟨rfl, (fun _ h => nomatch h)⟩)⟩)⟩)⟩)⟩)⟩) ?_
    refine z_iload dX2_areFieldsAlike_37 rfl ?_
    refine z_iconst (v := Int32.ofInt 3) dX2_areFieldsAlike_39 rfl ?_
    obtain ⟨q10, hw⟩ := hw
    refine i_icmp_ne (tgt := 70) dX2_areFieldsAlike_40 (by decide) q10 ⟨by decide, by decide⟩ (fun h9 => ?_) (fun h9 => ?_)
    · have hw := hw.1 h9
      refine z_aload_n dX2_areFieldsAlike_70 rfl rfl ?_
      refine v_getR hW (hU 250 _ rfl) rfl kX2 fX2_29 dX2_areFieldsAlike_71 ?_
      refine z_iload_n dX2_areFieldsAlike_74 rfl rfl ?_
      refine z_iload dX2_areFieldsAlike_75 rfl ?_
      obtain ⟨q13, hw⟩ := hw
      have hX := lX1_head 1 (Nat.le_refl _) hT hS hW q13 q5 hw
      refine z_callV (As := [_, _]) eX1_head sX1_head lX2_68 rfl dX2_areFieldsAlike_77 (hW.at (hT 42 _ rfl)) hX (Nat.le_trans (by decide) hd) rfl (Nat.le_of_ble_eq_true rfl) (fun r cs hp => ?_)
      obtain ⟨r12, S11, rfl, hw, hW⟩ := hp
      refine z_st (st' := [.int (Int32.ofInt (r12))]) rfl ?_
      refine z_aload_n dX2_areFieldsAlike_80 rfl rfl ?_
      refine v_getR hW (hU 250 _ rfl) rfl kX2 fX2_33 dX2_areFieldsAlike_81 ?_
      refine z_iload_n dX2_areFieldsAlike_84 rfl rfl ?_
      refine z_iload dX2_areFieldsAlike_85 rfl ?_
      obtain ⟨q16, hw⟩ := hw
      have hX := lX1_head_c 1 (Nat.le_refl _) hT hS hW q16 q5 hw
      refine z_callV (As := [_, _]) eX1_head sX1_head lX2_68 rfl dX2_areFieldsAlike_87 (hW.at (hT 46 _ rfl)) hX (Nat.le_trans (by decide) hd) rfl (Nat.le_of_ble_eq_true rfl) (fun r cs hp => ?_)
      obtain ⟨r15, S14, rfl, hw, hW⟩ := hp
      refine z_st (st' := [.int (Int32.ofInt (r15)), .int (Int32.ofInt (r12))]) rfl ?_
      obtain ⟨q18, hw⟩ := hw
      obtain ⟨q19, hw⟩ := hw
      refine i_icmp_ne (tgt := 97) dX2_areFieldsAlike_90 (by decide) q18 q19 (fun h17 => ?_) (fun h17 => ?_)
      · have hw := hw.1 h17
        refine z_iconst (v := Int32.ofInt 0) dX2_areFieldsAlike_97 rfl ?_
        refine z_loc (L' := [(0, .ref (G.1 + v 250)), (1, .int (Int32.ofInt (l1))), (2, .int (Int32.ofInt (l2))), (3, .int (Int32.ofInt (l3))), (4, .int (Int32.ofInt (l4))), (5, .int (Int32.ofInt (r8)))]) (List.forall_mem_cons.mpr ⟨rfl, (List.forall_mem_cons.mpr ⟨rfl, (List.forall_mem_cons.mpr ⟨rfl, (List.forall_mem_cons.mpr ⟨rfl, (List.forall_mem_cons.mpr ⟨rfl, (List.forall_mem_cons.mpr ⟨rfl, (fun _ h => nomatch h)⟩)⟩)⟩)⟩)⟩)⟩) ?_
        exact ubX2_areFieldsAlike_98 hd hT hS hU hW hP hB12 hw
      · have hw := hw.2 h17
        refine z_iconst (v := Int32.ofInt 1) dX2_areFieldsAlike_93 rfl ?_
        refine z_goto (tgt := 98) dX2_areFieldsAlike_94 (by decide) ?_
        refine z_loc (L' := [(0, .ref (G.1 + v 250)), (1, .int (Int32.ofInt (l1))), (2, .int (Int32.ofInt (l2))), (3, .int (Int32.ofInt (l3))), (4, .int (Int32.ofInt (l4))), (5, .int (Int32.ofInt (r8)))]) (List.forall_mem_cons.mpr ⟨rfl, (List.forall_mem_cons.mpr ⟨rfl, (List.forall_mem_cons.mpr ⟨rfl, (List.forall_mem_cons.mpr ⟨rfl, (List.forall_mem_cons.mpr ⟨rfl, (List.forall_mem_cons.mpr ⟨rfl, (fun _ h => nomatch h)⟩)⟩)⟩)⟩)⟩)⟩) ?_
        exact ubX2_areFieldsAlike_98 hd hT hS hU hW hP hB12 hw
    · have hw := hw.2 h9
      refine z_aload_n dX2_areFieldsAlike_43 rfl rfl ?_
      refine z_aload_n dX2_areFieldsAlike_44 rfl rfl ?_
      refine v_getR hW (hU 250 _ rfl) rfl kX2 fX2_29 dX2_areFieldsAlike_45 ?_
      refine z_iload_n dX2_areFieldsAlike_48 rfl rfl ?_
      refine z_iload dX2_areFieldsAlike_49 rfl ?_
      obtain ⟨q22, hw⟩ := hw
      have hX := lX1_head 1 (Nat.le_refl _) hT hS hW q22 q5 hw
      refine z_callV (As := [_, _]) eX1_head sX1_head lX2_68 rfl dX2_areFieldsAlike_51 (hW.at (hT 42 _ rfl)) hX (Nat.le_trans (by decide) hd) rfl (Nat.le_of_ble_eq_true rfl) (fun r cs hp => ?_)
      obtain ⟨r21, S20, rfl, hw, hW⟩ := hp
      refine z_st (st' := [.int (Int32.ofInt (r21)), .ref (G.1 + v 250)]) rfl ?_
      refine z_aload_n dX2_areFieldsAlike_54 rfl rfl ?_
      refine v_getR hW (hU 250 _ rfl) rfl kX2 fX2_33 dX2_areFieldsAlike_55 ?_
      refine z_iload_n dX2_areFieldsAlike_58 rfl rfl ?_
      refine z_iload dX2_areFieldsAlike_59 rfl ?_
      obtain ⟨q25, hw⟩ := hw
      have hX := lX1_head_c 1 (Nat.le_refl _) hT hS hW q25 q5 hw
      refine z_callV (As := [_, _]) eX1_head sX1_head lX2_68 rfl dX2_areFieldsAlike_61 (hW.at (hT 46 _ rfl)) hX (Nat.le_trans (by decide) hd) rfl (Nat.le_of_ble_eq_true rfl) (fun r cs hp => ?_)
      obtain ⟨r24, S23, rfl, hw, hW⟩ := hp
      refine z_st (st' := [.int (Int32.ofInt (r24)), .int (Int32.ofInt (r21)), .ref (G.1 + v 250)]) rfl ?_
      obtain ⟨q28, hw⟩ := hw
      obtain ⟨q29, hw⟩ := hw
      have hX := lX2_pairs 2 (Nat.le_refl _) hT hS hU hW q28 q29 hw
      refine z_callV (As := [_, _]) eX2_pairs sX2_pairs lX2_42 rfl dX2_areFieldsAlike_64 (hW.at (hU 250 _ rfl)) hX (Nat.le_trans (by decide) hd) rfl (Nat.le_of_ble_eq_true rfl) (fun r cs hp => ?_)
      obtain ⟨r27, S26, rfl, hw, hW⟩ := hp
      refine z_st (st' := [.int (Int32.ofInt (r27))]) rfl ?_
      refine z_goto (tgt := 98) dX2_areFieldsAlike_67 (by decide) ?_
      refine z_loc (L' := [(0, .ref (G.1 + v 250)), (1, .int (Int32.ofInt (l1))), (2, .int (Int32.ofInt (l2))), (3, .int (Int32.ofInt (l3))), (4, .int (Int32.ofInt (l4))), (5, .int (Int32.ofInt (r8)))]) (List.forall_mem_cons.mpr ⟨rfl, (List.forall_mem_cons.mpr ⟨rfl, (List.forall_mem_cons.mpr ⟨rfl, (List.forall_mem_cons.mpr ⟨rfl, (List.forall_mem_cons.mpr ⟨rfl, (List.forall_mem_cons.mpr ⟨rfl, (fun _ h => nomatch h)⟩)⟩)⟩)⟩)⟩)⟩) ?_
      exact ubX2_areFieldsAlike_98 hd hT hS hU hW hP hB12 hw
def wX2_areFieldsAlike_12  (l1 l2 l3 l4 : Int) (S : St) (K : Int → St → Prop) : Prop := ∃ (Iv : Int → Int → Int → Int → St → Prop) (mu : Int → Int → Int → Int → St → Nat), Iv l1 l2 l3 l4 S ∧ ∀ (l1 l2 l3 l4 : Int) (S : St), Iv l1 l2 l3 l4 S → wX2_areFieldsAlike_12' l1 l2 l3 l4 S K  (fun ml1 ml2 ml3 ml4 T => Iv ml1 ml2 ml3 ml4 T ∧ mu ml1 ml2 ml3 ml4 T < mu l1 l2 l3 l4 S)
set_option maxRecDepth 100000 in
set_option maxHeartbeats 4000000 in
theorem ubX2_areFieldsAlike_12 {G : xG} {v : Nat → Nat} {sh : Nat → Option Sh} {B : Nat × Nat} {c0 : List va_E} {d : Nat} {Post : xP} {l1 l2 l3 l4 : Int} {S : St} {cs : List va_E} {K : Int → St → Prop} (hd : 4 ≤ d) (hT : sb shC sh) (hS : ∀ b x, sh b = some x → ¬ isS b) (hU : sb shLi sh) (hW : Wv G v sh B c0 S cs) (hP : ∀ (x : Int) (S : St) (cs : List va_E), K x S → Wv G v sh B c0 S cs → Post (some (.int (Int32.ofInt x))) cs)  (hw : wX2_areFieldsAlike_12 l1 l2 l3 l4 S K ) : Z (RX2, cX2_areFieldsAlike, 7, some .boolean, false) G d Post 12 [(0, .ref (G.1 + v 250)), (1, .int (Int32.ofInt (l1))), (2, .int (Int32.ofInt (l2))), (3, .int (Int32.ofInt (l3))), (4, .int (Int32.ofInt (l4)))] [] cs := by
  unfold wX2_areFieldsAlike_12 at hw
  obtain ⟨Iv, mu, h0, hs⟩ := hw
  have key : ∀ (n : Nat) (l1 l2 l3 l4 : Int) (S : St) (cs : List va_E), mu l1 l2 l3 l4 S < n → Iv l1 l2 l3 l4 S → Wv G v sh B c0 S cs → Z (RX2, cX2_areFieldsAlike, 7, some .boolean, false) G d Post 12 [(0, .ref (G.1 + v 250)), (1, .int (Int32.ofInt (l1))), (2, .int (Int32.ofInt (l2))), (3, .int (Int32.ofInt (l3))), (4, .int (Int32.ofInt (l4)))] [] cs := by
    intro n
    induction n with
    | zero => intro l1 l2 l3 l4 S cs hn; exact absurd hn (Nat.not_lt_zero _)
    | succ n ih =>
      intro l1 l2 l3 l4 S cs hn hI hW
      exact ubX2_areFieldsAlike_12' hd hT hS hU hW hP  (fun l1 l2 l3 l4 S cs hb hW => ih l1 l2 l3 l4 S cs (Nat.lt_of_lt_of_le hb.2 (Nat.le_of_lt_succ hn)) hb.1 hW) (hs l1 l2 l3 l4 S hI)
  exact key _ _ _ _ _ _ _ (Nat.lt_succ_self _) h0 hW
def wX2_areFieldsAlike  (a1 a2 : Int) (S : St) (K : Int → St → Prop) : Prop := rng a1 → rng a2 → (wX1_classOf (a1) S (fun r2 S1 => wX2_areFieldsAlike_12 (a1) (a2) (r2) (0) S1 K))
set_option maxRecDepth 100000 in
set_option maxHeartbeats 4000000 in
theorem lX2_areFieldsAlike {G : xG} {v : Nat → Nat} {sh : Nat → Option Sh} {B : Nat × Nat} {c0 : List va_E}  {a1 a2 : Int} {S : St} {cs : List va_E} {K : Int → St → Prop} (d : Nat) (hd : 4 ≤ d) (hT : sb shC sh) (hS : ∀ b x, sh b = some x → ¬ isS b) (hU : sb shLi sh) (hW : Wv G v sh B c0 S cs) (g1 : rng a1) (g2 : rng a2) (hw : wX2_areFieldsAlike a1 a2 S K) : X G yX2_areFieldsAlike cX2_areFieldsAlike 7 (some .boolean) d [.ref (G.1 + v 250), .int (Int32.ofInt a1), .int (Int32.ofInt a2)] cs (vI G v sh B c0 K) := by
  refine X.of false (by decide +kernel) (by decide) (Nat.le_of_ble_eq_true rfl) ?_
  show Z (RX2, cX2_areFieldsAlike, 7, some .boolean, false) G d _ 0 [(0, .ref (G.1 + v 250)), (1, .int (Int32.ofInt a1)), (2, .int (Int32.ofInt a2))] [] cs
  have hP : ∀ (x : Int) (S : St) (cs : List va_E), K x S → Wv G v sh B c0 S cs → vI G v sh B c0 K (some (.int (Int32.ofInt x))) cs := fun x S cs a b => ⟨x, S, rfl, a, b⟩
  unfold wX2_areFieldsAlike at hw
  have hw := hw g1 g2
  refine z_aload_n dX2_areFieldsAlike_0 rfl rfl ?_
  refine v_getR hW (hU 250 _ rfl) rfl kX2 fX2_29 dX2_areFieldsAlike_1 ?_
  refine z_iload_n dX2_areFieldsAlike_4 rfl rfl ?_
  have hX := lX1_classOf 1 (Nat.le_refl _) hT hS hW g1 hw
  refine z_callV (As := [_]) eX1_classOf sX1_classOf lX2_55 rfl dX2_areFieldsAlike_5 (hW.at (hT 42 _ rfl)) hX (Nat.le_trans (by decide) hd) rfl (Nat.le_of_ble_eq_true rfl) (fun r cs hp => ?_)
  obtain ⟨r2, S1, rfl, hw, hW⟩ := hp
  refine z_st (st' := [.int (Int32.ofInt (r2))]) rfl ?_
  refine z_istore_n dX2_areFieldsAlike_8 rfl (by decide) ?_
  refine z_loc (L' := [(0, .ref (G.1 + v 250)), (1, .int (Int32.ofInt (a1))), (2, .int (Int32.ofInt (a2))), (3, .int (Int32.ofInt (r2)))]) (List.forall_mem_cons.mpr ⟨rfl, (List.forall_mem_cons.mpr ⟨rfl, (List.forall_mem_cons.mpr ⟨rfl, (List.forall_mem_cons.mpr ⟨rfl, (fun _ h => nomatch h)⟩)⟩)⟩)⟩) ?_
  refine z_iconst (v := Int32.ofInt 0) dX2_areFieldsAlike_9 rfl ?_
  refine z_istore dX2_areFieldsAlike_10 (by decide) ?_
  refine z_loc (L' := [(0, .ref (G.1 + v 250)), (1, .int (Int32.ofInt (a1))), (2, .int (Int32.ofInt (a2))), (3, .int (Int32.ofInt (r2))), (4, .int (Int32.ofInt (0)))]) (List.forall_mem_cons.mpr ⟨rfl, (List.forall_mem_cons.mpr ⟨rfl, (List.forall_mem_cons.mpr ⟨rfl, (List.forall_mem_cons.mpr ⟨rfl, (List.forall_mem_cons.mpr ⟨rfl, (fun _ h => nomatch h)⟩)⟩)⟩)⟩)⟩) ?_
  refine z_loc (L' := [(0, .ref (G.1 + v 250)), (1, .int (Int32.ofInt (a1))), (2, .int (Int32.ofInt (a2))), (3, .int (Int32.ofInt (r2))), (4, .int (Int32.ofInt (0)))]) (List.forall_mem_cons.mpr ⟨rfl, (List.forall_mem_cons.mpr ⟨rfl, (List.forall_mem_cons.mpr ⟨rfl, (List.forall_mem_cons.mpr ⟨rfl, (List.forall_mem_cons.mpr ⟨rfl, (fun _ h => nomatch h)⟩)⟩)⟩)⟩)⟩) ?_
  exact ubX2_areFieldsAlike_12 hd hT hS hU hW hP  hw

def wJ7_fill_53178_5'  (l1 l2 l3 : Int) (S : St) (K : Int → St → Prop) (B5 : Int → Int → Int → St → Prop) : Prop := (rng (l2) ∧ (rng (l3) ∧ ((l3 ≤ l2 → K 0 S) ∧ ((¬ (l3 ≤ l2)) → ((0 : Int) ≤ l2 ∧ l2 < (30 : Int) ∧ (iv (-2147483648) 2147483647 (l1) ∧ (∀ S5, S5 = pA S 251 (l2) (l1) → B5 (l1) ((l2 + 1)) (l3) S5)))))))
set_option maxRecDepth 100000 in
set_option maxHeartbeats 4000000 in
theorem ubJ7_fill_53178_5' {G : xG} {v : Nat → Nat} {sh : Nat → Option Sh} {B : Nat × Nat} {c0 : List va_E} {d : Nat} {Post : xP} {l1 l2 l3 : Int} {S : St} {cs : List va_E} {K : Int → St → Prop} {B5 : Int → Int → Int → St → Prop} (hd : 0 ≤ d) (hT : sb shC sh) (hS : ∀ b x, sh b = some x → ¬ isS b) (hU : sb shLi sh) (hW : Wv G v sh B c0 S cs) (hP : ∀ (x : Int) (S : St) (cs : List va_E), K x S → Wv G v sh B c0 S cs → Post (none) cs) (hB5 : ∀ (l1 : Int) (l2 : Int) (l3 : Int) (S : St) (cs : List va_E), B5 l1 l2 l3 S → Wv G v sh B c0 S cs → Z (RJ7, cJ7_fill_53178, 4, none, false) G d Post 5 [(0, .ref (G.1 + v 251)), (1, .int (Int32.ofInt (l1))), (2, .int (Int32.ofInt (l2))), (3, .int (Int32.ofInt (l3)))] [] cs) (hw : wJ7_fill_53178_5' l1 l2 l3 S K B5) : Z (RJ7, cJ7_fill_53178, 4, none, false) G d Post 5 [(0, .ref (G.1 + v 251)), (1, .int (Int32.ofInt (l1))), (2, .int (Int32.ofInt (l2))), (3, .int (Int32.ofInt (l3)))] [] cs := by
  unfold wJ7_fill_53178_5' at hw
  refine z_iload_n dJ7_fill_53178_5 rfl rfl ?_
  refine z_iload_n dJ7_fill_53178_6 rfl rfl ?_
  obtain ⟨q2, hw⟩ := hw
  obtain ⟨q3, hw⟩ := hw
  refine i_icmp_ge (tgt := 20) dJ7_fill_53178_7 (by decide) q2 q3 (fun h1 => ?_) (fun h1 => ?_)
  · have hw := hw.1 h1
    exact z_return dJ7_fill_53178_20 rfl (hP 0 _ _ hw hW)
  · have hw := hw.2 h1
    refine z_aload_n dJ7_fill_53178_10 rfl rfl ?_
    refine z_iload_n dJ7_fill_53178_11 rfl rfl ?_
    refine z_iload_n dJ7_fill_53178_12 rfl rfl ?_
    obtain ⟨q4a, q4b, hw⟩ := hw
    obtain ⟨q6, hw⟩ := hw
    refine v_iast hW (hU 251 _ rfl) (by decide) (by unfold isS; decide) q4a q4b (by decide) q6 dJ7_fill_53178_13 (fun cs hW => ?_)
    obtain ⟨S5, hS5⟩ : ∃ x, x = pA S 251 (l2) (l1) := ⟨_, rfl⟩
    rw [← hS5] at hW
    have hw := hw S5 hS5
    refine i_iinc (l := l2) dJ7_fill_53178_14 rfl (by decide) ?_
    refine z_loc (L' := [(0, .ref (G.1 + v 251)), (1, .int (Int32.ofInt (l1))), (2, .int (Int32.ofInt ((l2 + 1)))), (3, .int (Int32.ofInt (l3)))]) (List.forall_mem_cons.mpr ⟨rfl, (List.forall_mem_cons.mpr ⟨rfl, (List.forall_mem_cons.mpr ⟨rfl, (List.forall_mem_cons.mpr ⟨rfl, (fun _ h => nomatch h)⟩)⟩)⟩)⟩) ?_
    refine z_goto (tgt := 5) dJ7_fill_53178_17 (by decide) ?_
    refine z_loc (L' := [(0, .ref (G.1 + v 251)), (1, .int (Int32.ofInt (l1))), (2, .int (Int32.ofInt ((l2 + 1)))), (3, .int (Int32.ofInt (l3)))]) (List.forall_mem_cons.mpr ⟨rfl, (List.forall_mem_cons.mpr ⟨rfl, (List.forall_mem_cons.mpr ⟨rfl, (List.forall_mem_cons.mpr ⟨rfl, (fun _ h => nomatch h)⟩)⟩)⟩)⟩) ?_
    exact hB5 _ _ _ _ _ hw hW
def wJ7_fill_53178_5  (l1 l2 l3 : Int) (S : St) (K : Int → St → Prop) : Prop := ∃ (Iv : Int → Int → Int → St → Prop) (mu : Int → Int → Int → St → Nat), Iv l1 l2 l3 S ∧ ∀ (l1 l2 l3 : Int) (S : St), Iv l1 l2 l3 S → wJ7_fill_53178_5' l1 l2 l3 S K  (fun ml1 ml2 ml3 T => Iv ml1 ml2 ml3 T ∧ mu ml1 ml2 ml3 T < mu l1 l2 l3 S)
set_option maxRecDepth 100000 in
set_option maxHeartbeats 4000000 in
theorem ubJ7_fill_53178_5 {G : xG} {v : Nat → Nat} {sh : Nat → Option Sh} {B : Nat × Nat} {c0 : List va_E} {d : Nat} {Post : xP} {l1 l2 l3 : Int} {S : St} {cs : List va_E} {K : Int → St → Prop} (hd : 0 ≤ d) (hT : sb shC sh) (hS : ∀ b x, sh b = some x → ¬ isS b) (hU : sb shLi sh) (hW : Wv G v sh B c0 S cs) (hP : ∀ (x : Int) (S : St) (cs : List va_E), K x S → Wv G v sh B c0 S cs → Post (none) cs)  (hw : wJ7_fill_53178_5 l1 l2 l3 S K ) : Z (RJ7, cJ7_fill_53178, 4, none, false) G d Post 5 [(0, .ref (G.1 + v 251)), (1, .int (Int32.ofInt (l1))), (2, .int (Int32.ofInt (l2))), (3, .int (Int32.ofInt (l3)))] [] cs := by
  unfold wJ7_fill_53178_5 at hw
  obtain ⟨Iv, mu, h0, hs⟩ := hw
  have key : ∀ (n : Nat) (l1 l2 l3 : Int) (S : St) (cs : List va_E), mu l1 l2 l3 S < n → Iv l1 l2 l3 S → Wv G v sh B c0 S cs → Z (RJ7, cJ7_fill_53178, 4, none, false) G d Post 5 [(0, .ref (G.1 + v 251)), (1, .int (Int32.ofInt (l1))), (2, .int (Int32.ofInt (l2))), (3, .int (Int32.ofInt (l3)))] [] cs := by
    intro n
    induction n with
    | zero => intro l1 l2 l3 S cs hn; exact absurd hn (Nat.not_lt_zero _)
    | succ n ih =>
      intro l1 l2 l3 S cs hn hI hW
      exact ubJ7_fill_53178_5' hd hT hS hU hW hP  (fun l1 l2 l3 S cs hb hW => ih l1 l2 l3 S cs (Nat.lt_of_lt_of_le hb.2 (Nat.le_of_lt_succ hn)) hb.1 hW) (hs l1 l2 l3 S hI)
  exact key _ _ _ _ _ _ (Nat.lt_succ_self _) h0 hW
def wJ7_fill_53178  (a1 : Int) (S : St) (K : Int → St → Prop) : Prop := rng a1 → wJ7_fill_53178_5 (a1) (0) (30) S K
set_option maxRecDepth 100000 in
set_option maxHeartbeats 4000000 in
theorem lJ7_fill_53178 {G : xG} {v : Nat → Nat} {sh : Nat → Option Sh} {B : Nat × Nat} {c0 : List va_E}  {a1 : Int} {S : St} {cs : List va_E} {K : Int → St → Prop} (d : Nat) (hd : 0 ≤ d) (hT : sb shC sh) (hS : ∀ b x, sh b = some x → ¬ isS b) (hU : sb shLi sh) (hW : Wv G v sh B c0 S cs) (g1 : rng a1) (hw : wJ7_fill_53178 a1 S K) : X G yJ7_fill_53178 cJ7_fill_53178 4 none d [.ref (G.1 + v 251), .int (Int32.ofInt a1)] cs (vV G v sh B c0 K) := by
  refine X.of false (by decide +kernel) (by decide) (Nat.le_of_ble_eq_true rfl) ?_
  show Z (RJ7, cJ7_fill_53178, 4, none, false) G d _ 0 [(0, .ref (G.1 + v 251)), (1, .int (Int32.ofInt a1))] [] cs
  have hP : ∀ (x : Int) (S : St) (cs : List va_E), K x S → Wv G v sh B c0 S cs → vV G v sh B c0 K (none) cs := fun x S cs a b => ⟨x, S, rfl, a, b⟩
  unfold wJ7_fill_53178 at hw
  have hw := hw g1
  refine z_iconst (v := Int32.ofInt 0) dJ7_fill_53178_0 rfl ?_
  refine z_istore_n dJ7_fill_53178_1 rfl (by decide) ?_
  refine z_loc (L' := [(0, .ref (G.1 + v 251)), (1, .int (Int32.ofInt (a1))), (2, .int (Int32.ofInt (0)))]) (List.forall_mem_cons.mpr ⟨rfl, (List.forall_mem_cons.mpr ⟨rfl, (List.forall_mem_cons.mpr ⟨rfl, (fun _ h => nomatch h)⟩)⟩)⟩) ?_
  refine z_aload_n dJ7_fill_53178_2 rfl rfl ?_
  refine v_alen (t0 := 0) hW (hU 251 _ rfl) rfl dJ7_fill_53178_3 ?_
  refine z_istore_n dJ7_fill_53178_4 rfl (by decide) ?_
  refine z_loc (L' := [(0, .ref (G.1 + v 251)), (1, .int (Int32.ofInt (a1))), (2, .int (Int32.ofInt (0))), (3, .int (Int32.ofInt (30)))]) (List.forall_mem_cons.mpr ⟨rfl, (List.forall_mem_cons.mpr ⟨rfl, (List.forall_mem_cons.mpr ⟨rfl, (List.forall_mem_cons.mpr ⟨rfl, (fun _ h => nomatch h)⟩)⟩)⟩)⟩) ?_
  refine z_loc (L' := [(0, .ref (G.1 + v 251)), (1, .int (Int32.ofInt (a1))), (2, .int (Int32.ofInt (0))), (3, .int (Int32.ofInt (30)))]) (List.forall_mem_cons.mpr ⟨rfl, (List.forall_mem_cons.mpr ⟨rfl, (List.forall_mem_cons.mpr ⟨rfl, (List.forall_mem_cons.mpr ⟨rfl, (fun _ h => nomatch h)⟩)⟩)⟩)⟩) ?_
  exact ubJ7_fill_53178_5 hd hT hS hU hW hP  hw

def wJ7_fill_53178_b_5'  (l1 l2 l3 : Int) (S : St) (K : Int → St → Prop) (B5 : Int → Int → Int → St → Prop) : Prop := (rng (l2) ∧ (rng (l3) ∧ ((l3 ≤ l2 → K 0 S) ∧ ((¬ (l3 ≤ l2)) → ((0 : Int) ≤ l2 ∧ l2 < (30 : Int) ∧ (iv (-2147483648) 2147483647 (l1) ∧ (∀ S5, S5 = pA S 252 (l2) (l1) → B5 (l1) ((l2 + 1)) (l3) S5)))))))
set_option maxRecDepth 100000 in
set_option maxHeartbeats 4000000 in
theorem ubJ7_fill_53178_b_5' {G : xG} {v : Nat → Nat} {sh : Nat → Option Sh} {B : Nat × Nat} {c0 : List va_E} {d : Nat} {Post : xP} {l1 l2 l3 : Int} {S : St} {cs : List va_E} {K : Int → St → Prop} {B5 : Int → Int → Int → St → Prop} (hd : 0 ≤ d) (hT : sb shC sh) (hS : ∀ b x, sh b = some x → ¬ isS b) (hU : sb shLi sh) (hW : Wv G v sh B c0 S cs) (hP : ∀ (x : Int) (S : St) (cs : List va_E), K x S → Wv G v sh B c0 S cs → Post (none) cs) (hB5 : ∀ (l1 : Int) (l2 : Int) (l3 : Int) (S : St) (cs : List va_E), B5 l1 l2 l3 S → Wv G v sh B c0 S cs → Z (RJ7, cJ7_fill_53178, 4, none, false) G d Post 5 [(0, .ref (G.1 + v 252)), (1, .int (Int32.ofInt (l1))), (2, .int (Int32.ofInt (l2))), (3, .int (Int32.ofInt (l3)))] [] cs) (hw : wJ7_fill_53178_b_5' l1 l2 l3 S K B5) : Z (RJ7, cJ7_fill_53178, 4, none, false) G d Post 5 [(0, .ref (G.1 + v 252)), (1, .int (Int32.ofInt (l1))), (2, .int (Int32.ofInt (l2))), (3, .int (Int32.ofInt (l3)))] [] cs := by
  unfold wJ7_fill_53178_b_5' at hw
  refine z_iload_n dJ7_fill_53178_5 rfl rfl ?_
  refine z_iload_n dJ7_fill_53178_6 rfl rfl ?_
  obtain ⟨q2, hw⟩ := hw
  obtain ⟨q3, hw⟩ := hw
  refine i_icmp_ge (tgt := 20) dJ7_fill_53178_7 (by decide) q2 q3 (fun h1 => ?_) (fun h1 => ?_)
  · have hw := hw.1 h1
    exact z_return dJ7_fill_53178_20 rfl (hP 0 _ _ hw hW)
  · have hw := hw.2 h1
    refine z_aload_n dJ7_fill_53178_10 rfl rfl ?_
    refine z_iload_n dJ7_fill_53178_11 rfl rfl ?_
    refine z_iload_n dJ7_fill_53178_12 rfl rfl ?_
    obtain ⟨q4a, q4b, hw⟩ := hw
    obtain ⟨q6, hw⟩ := hw
    refine v_iast hW (hU 252 _ rfl) (by decide) (by unfold isS; decide) q4a q4b (by decide) q6 dJ7_fill_53178_13 (fun cs hW => ?_)
    obtain ⟨S5, hS5⟩ : ∃ x, x = pA S 252 (l2) (l1) := ⟨_, rfl⟩
    rw [← hS5] at hW
    have hw := hw S5 hS5
    refine i_iinc (l := l2) dJ7_fill_53178_14 rfl (by decide) ?_
    refine z_loc (L' := [(0, .ref (G.1 + v 252)), (1, .int (Int32.ofInt (l1))), (2, .int (Int32.ofInt ((l2 + 1)))), (3, .int (Int32.ofInt (l3)))]) (List.forall_mem_cons.mpr ⟨rfl, (List.forall_mem_cons.mpr ⟨rfl, (List.forall_mem_cons.mpr ⟨rfl, (List.forall_mem_cons.mpr ⟨rfl, (fun _ h => nomatch h)⟩)⟩)⟩)⟩) ?_
    refine z_goto (tgt := 5) dJ7_fill_53178_17 (by decide) ?_
    refine z_loc (L' := [(0, .ref (G.1 + v 252)), (1, .int (Int32.ofInt (l1))), (2, .int (Int32.ofInt ((l2 + 1)))), (3, .int (Int32.ofInt (l3)))]) (List.forall_mem_cons.mpr ⟨rfl, (List.forall_mem_cons.mpr ⟨rfl, (List.forall_mem_cons.mpr ⟨rfl, (List.forall_mem_cons.mpr ⟨rfl, (fun _ h => nomatch h)⟩)⟩)⟩)⟩) ?_
    exact hB5 _ _ _ _ _ hw hW
def wJ7_fill_53178_b_5  (l1 l2 l3 : Int) (S : St) (K : Int → St → Prop) : Prop := ∃ (Iv : Int → Int → Int → St → Prop) (mu : Int → Int → Int → St → Nat), Iv l1 l2 l3 S ∧ ∀ (l1 l2 l3 : Int) (S : St), Iv l1 l2 l3 S → wJ7_fill_53178_b_5' l1 l2 l3 S K  (fun ml1 ml2 ml3 T => Iv ml1 ml2 ml3 T ∧ mu ml1 ml2 ml3 T < mu l1 l2 l3 S)
set_option maxRecDepth 100000 in
set_option maxHeartbeats 4000000 in
theorem ubJ7_fill_53178_b_5 {G : xG} {v : Nat → Nat} {sh : Nat → Option Sh} {B : Nat × Nat} {c0 : List va_E} {d : Nat} {Post : xP} {l1 l2 l3 : Int} {S : St} {cs : List va_E} {K : Int → St → Prop} (hd : 0 ≤ d) (hT : sb shC sh) (hS : ∀ b x, sh b = some x → ¬ isS b) (hU : sb shLi sh) (hW : Wv G v sh B c0 S cs) (hP : ∀ (x : Int) (S : St) (cs : List va_E), K x S → Wv G v sh B c0 S cs → Post (none) cs)  (hw : wJ7_fill_53178_b_5 l1 l2 l3 S K ) : Z (RJ7, cJ7_fill_53178, 4, none, false) G d Post 5 [(0, .ref (G.1 + v 252)), (1, .int (Int32.ofInt (l1))), (2, .int (Int32.ofInt (l2))), (3, .int (Int32.ofInt (l3)))] [] cs := by
  unfold wJ7_fill_53178_b_5 at hw
  obtain ⟨Iv, mu, h0, hs⟩ := hw
  have key : ∀ (n : Nat) (l1 l2 l3 : Int) (S : St) (cs : List va_E), mu l1 l2 l3 S < n → Iv l1 l2 l3 S → Wv G v sh B c0 S cs → Z (RJ7, cJ7_fill_53178, 4, none, false) G d Post 5 [(0, .ref (G.1 + v 252)), (1, .int (Int32.ofInt (l1))), (2, .int (Int32.ofInt (l2))), (3, .int (Int32.ofInt (l3)))] [] cs := by
    intro n
    induction n with
    | zero => intro l1 l2 l3 S cs hn; exact absurd hn (Nat.not_lt_zero _)
    | succ n ih =>
      intro l1 l2 l3 S cs hn hI hW
      exact ubJ7_fill_53178_b_5' hd hT hS hU hW hP  (fun l1 l2 l3 S cs hb hW => ih l1 l2 l3 S cs (Nat.lt_of_lt_of_le hb.2 (Nat.le_of_lt_succ hn)) hb.1 hW) (hs l1 l2 l3 S hI)
  exact key _ _ _ _ _ _ (Nat.lt_succ_self _) h0 hW
def wJ7_fill_53178_b  (a1 : Int) (S : St) (K : Int → St → Prop) : Prop := rng a1 → wJ7_fill_53178_b_5 (a1) (0) (30) S K
set_option maxRecDepth 100000 in
set_option maxHeartbeats 4000000 in
theorem lJ7_fill_53178_b {G : xG} {v : Nat → Nat} {sh : Nat → Option Sh} {B : Nat × Nat} {c0 : List va_E}  {a1 : Int} {S : St} {cs : List va_E} {K : Int → St → Prop} (d : Nat) (hd : 0 ≤ d) (hT : sb shC sh) (hS : ∀ b x, sh b = some x → ¬ isS b) (hU : sb shLi sh) (hW : Wv G v sh B c0 S cs) (g1 : rng a1) (hw : wJ7_fill_53178_b a1 S K) : X G yJ7_fill_53178 cJ7_fill_53178 4 none d [.ref (G.1 + v 252), .int (Int32.ofInt a1)] cs (vV G v sh B c0 K) := by
  refine X.of false (by decide +kernel) (by decide) (Nat.le_of_ble_eq_true rfl) ?_
  show Z (RJ7, cJ7_fill_53178, 4, none, false) G d _ 0 [(0, .ref (G.1 + v 252)), (1, .int (Int32.ofInt a1))] [] cs
  have hP : ∀ (x : Int) (S : St) (cs : List va_E), K x S → Wv G v sh B c0 S cs → vV G v sh B c0 K (none) cs := fun x S cs a b => ⟨x, S, rfl, a, b⟩
  unfold wJ7_fill_53178_b at hw
  have hw := hw g1
  refine z_iconst (v := Int32.ofInt 0) dJ7_fill_53178_0 rfl ?_
  refine z_istore_n dJ7_fill_53178_1 rfl (by decide) ?_
  refine z_loc (L' := [(0, .ref (G.1 + v 252)), (1, .int (Int32.ofInt (a1))), (2, .int (Int32.ofInt (0)))]) (List.forall_mem_cons.mpr ⟨rfl, (List.forall_mem_cons.mpr ⟨rfl, (List.forall_mem_cons.mpr ⟨rfl, (fun _ h => nomatch h)⟩)⟩)⟩) ?_
  refine z_aload_n dJ7_fill_53178_2 rfl rfl ?_
  refine v_alen (t0 := 0) hW (hU 252 _ rfl) rfl dJ7_fill_53178_3 ?_
  refine z_istore_n dJ7_fill_53178_4 rfl (by decide) ?_
  refine z_loc (L' := [(0, .ref (G.1 + v 252)), (1, .int (Int32.ofInt (a1))), (2, .int (Int32.ofInt (0))), (3, .int (Int32.ofInt (30)))]) (List.forall_mem_cons.mpr ⟨rfl, (List.forall_mem_cons.mpr ⟨rfl, (List.forall_mem_cons.mpr ⟨rfl, (List.forall_mem_cons.mpr ⟨rfl, (fun _ h => nomatch h)⟩)⟩)⟩)⟩) ?_
  refine z_loc (L' := [(0, .ref (G.1 + v 252)), (1, .int (Int32.ofInt (a1))), (2, .int (Int32.ofInt (0))), (3, .int (Int32.ofInt (30)))]) (List.forall_mem_cons.mpr ⟨rfl, (List.forall_mem_cons.mpr ⟨rfl, (List.forall_mem_cons.mpr ⟨rfl, (List.forall_mem_cons.mpr ⟨rfl, (fun _ h => nomatch h)⟩)⟩)⟩)⟩) ?_
  exact ubJ7_fill_53178_b_5 hd hT hS hU hW hP  hw

def wX2_holdsFrom_31'  (l3 : Int) (S : St) (K : Int → St → Prop) (B31 : Int → St → Prop) : Prop := (rng (l3) ∧ ((30 ≤ l3 → K (1) S) ∧ ((¬ (30 ≤ l3)) → (iv 0 30 (S.1 250 6) → ((S.1 250 6 ≤ l3 → K (1) S) ∧ ((¬ (S.1 250 6 ≤ l3)) → ((0 : Int) ≤ l3 ∧ l3 < (30 : Int) ∧ (iv 0 29 (S.2 253 (l3)) → ((0 : Int) ≤ l3 ∧ l3 < (30 : Int) ∧ (iv 0 29 (S.2 253 (l3)) → ((0 : Int) ≤ S.2 253 (l3) ∧ S.2 253 (l3) < (30 : Int) ∧ (iv (-2147483648) 2147483647 (S.2 251 (S.2 253 (l3))) → (wX2_areFieldsAlike (S.2 253 (l3)) (S.2 251 (S.2 253 (l3))) S (fun r12 S11 => (rng (r12) ∧ ((¬ r12 = 0 → B31 ((l3 + 1)) S11) ∧ ((¬ (¬ r12 = 0)) → K (0) S11)))))))))))))))))
set_option maxRecDepth 100000 in
set_option maxHeartbeats 4000000 in
theorem ubX2_holdsFrom_31' {G : xG} {v : Nat → Nat} {sh : Nat → Option Sh} {B : Nat × Nat} {c0 : List va_E} {d : Nat} {Post : xP} {l3 : Int} {S : St} {cs : List va_E} {K : Int → St → Prop} {B31 : Int → St → Prop} (hd : 5 ≤ d) (hT : sb shC sh) (hS : ∀ b x, sh b = some x → ¬ isS b) (hU : sb shLi sh) (hW : Wv G v sh B c0 S cs) (hP : ∀ (x : Int) (S : St) (cs : List va_E), K x S → Wv G v sh B c0 S cs → Post (some (.int (Int32.ofInt x))) cs) (hB31 : ∀ (l3 : Int) (S : St) (cs : List va_E), B31 l3 S → Wv G v sh B c0 S cs → Z (RX2, cX2_holdsFrom, 4, some .boolean, false) G d Post 31 [(0, .ref (G.1 + v 250)), (3, .int (Int32.ofInt (l3)))] [] cs) (hw : wX2_holdsFrom_31' l3 S K B31) : Z (RX2, cX2_holdsFrom, 4, some .boolean, false) G d Post 31 [(0, .ref (G.1 + v 250)), (3, .int (Int32.ofInt (l3)))] [] cs := by
  unfold wX2_holdsFrom_31' at hw
  refine z_iload_n dX2_holdsFrom_31 rfl rfl ?_
  refine z_bipush (v := Int32.ofInt 30) dX2_holdsFrom_32 (by decide) ?_
  obtain ⟨q2, hw⟩ := hw
  refine i_icmp_ge (tgt := 77) dX2_holdsFrom_34 (by decide) q2 ⟨by decide, by decide⟩ (fun h1 => ?_) (fun h1 => ?_)
  · have hw := hw.1 h1
    refine z_iconst (v := Int32.ofInt 1) dX2_holdsFrom_77 rfl ?_
    exact z_ireturn dX2_holdsFrom_78 rfl (nar01 (by decide)) (hP _ _ _ hw hW)
  · have hw := hw.2 h1
    refine z_iload_n dX2_holdsFrom_37 rfl rfl ?_
    refine z_aload_n dX2_holdsFrom_38 rfl rfl ?_
    have q3 : iv 0 30 (S.1 250 6) := hW.iI 250 6
    have hw := hw q3
    refine v_getI hW (hU 250 _ rfl) rfl kX2 fX2_21 dX2_holdsFrom_39 ?_
    refine i_icmp_ge (tgt := 77) dX2_holdsFrom_42 (by decide) q2 (rngq q3 (by decide) (by decide)) (fun h4 => ?_) (fun h4 => ?_)
    · have hw := hw.1 h4
      refine z_iconst (v := Int32.ofInt 1) dX2_holdsFrom_77 rfl ?_
      exact z_ireturn dX2_holdsFrom_78 rfl (nar01 (by decide)) (hP _ _ _ hw hW)
    · have hw := hw.2 h4
      refine z_aload_n dX2_holdsFrom_45 rfl rfl ?_
      refine z_aload_n dX2_holdsFrom_46 rfl rfl ?_
      refine v_getR hW (hU 250 _ rfl) rfl kX2 fX2_18 dX2_holdsFrom_47 ?_
      refine z_iload_n dX2_holdsFrom_50 rfl rfl ?_
      obtain ⟨q5a, q5b, hw⟩ := hw
      have q6 : iv 0 29 (S.2 253 (l3)) := hW.iA 253 _
      have hw := hw q6
      refine v_iald hW (hU 253 _ rfl) q5a q5b (by decide) dX2_holdsFrom_51 ?_
      refine z_aload_n dX2_holdsFrom_52 rfl rfl ?_
      refine v_getR hW (hU 250 _ rfl) rfl kX2 fX2_9 dX2_holdsFrom_53 ?_
      refine z_aload_n dX2_holdsFrom_56 rfl rfl ?_
      refine v_getR hW (hU 250 _ rfl) rfl kX2 fX2_18 dX2_holdsFrom_57 ?_
      refine z_iload_n dX2_holdsFrom_60 rfl rfl ?_
      obtain ⟨q7a, q7b, hw⟩ := hw
      have q8 : iv 0 29 (S.2 253 (l3)) := hW.iA 253 _
      have hw := hw q8
      refine v_iald hW (hU 253 _ rfl) q7a q7b (by decide) dX2_holdsFrom_61 ?_
      obtain ⟨q9a, q9b, hw⟩ := hw
      have q10 : iv (-2147483648) 2147483647 (S.2 251 (S.2 253 (l3))) := hW.iA 251 _
      have hw := hw q10
      refine v_iald hW (hU 251 _ rfl) q9a q9b (by decide) dX2_holdsFrom_62 ?_
      have hX := lX2_areFieldsAlike 4 (Nat.le_refl _) hT hS hU hW (rngq q8 (by decide) (by decide)) (rngq q10 (by decide) (by decide)) hw
      refine z_callV (As := [_, _]) eX2_areFieldsAlike sX2_areFieldsAlike lX2_46 rfl dX2_holdsFrom_63 (hW.at (hU 250 _ rfl)) hX (Nat.le_trans (by decide) hd) rfl (Nat.le_of_ble_eq_true rfl) (fun r cs hp => ?_)
      obtain ⟨r12, S11, rfl, hw, hW⟩ := hp
      refine z_st (st' := [.int (Int32.ofInt (r12))]) rfl ?_
      obtain ⟨q14, hw⟩ := hw
      refine i_if_ne (tgt := 71) dX2_holdsFrom_66 (by decide) q14 (fun h13 => ?_) (fun h13 => ?_)
      · have hw := hw.1 h13
        refine i_iinc (l := l3) dX2_holdsFrom_71 rfl (by decide) ?_
        refine z_loc (L' := [(0, .ref (G.1 + v 250)), (3, .int (Int32.ofInt ((l3 + 1))))]) (List.forall_mem_cons.mpr ⟨rfl, (List.forall_mem_cons.mpr ⟨rfl, (fun _ h => nomatch h)⟩)⟩) ?_
        refine z_goto (tgt := 31) dX2_holdsFrom_74 (by decide) ?_
        refine z_loc (L' := [(0, .ref (G.1 + v 250)), (3, .int (Int32.ofInt ((l3 + 1))))]) (List.forall_mem_cons.mpr ⟨rfl, (List.forall_mem_cons.mpr ⟨rfl, (fun _ h => nomatch h)⟩)⟩) ?_
        exact hB31 _ _ _ hw hW
      · have hw := hw.2 h13
        refine z_iconst (v := Int32.ofInt 0) dX2_holdsFrom_69 rfl ?_
        exact z_ireturn dX2_holdsFrom_70 rfl (nar01 (by decide)) (hP _ _ _ hw hW)
def wX2_holdsFrom_31  (l3 : Int) (S : St) (K : Int → St → Prop) : Prop := ∃ (Iv : Int → St → Prop) (mu : Int → St → Nat), Iv l3 S ∧ ∀ (l3 : Int) (S : St), Iv l3 S → wX2_holdsFrom_31' l3 S K  (fun ml3 T => Iv ml3 T ∧ mu ml3 T < mu l3 S)
set_option maxRecDepth 100000 in
set_option maxHeartbeats 4000000 in
theorem ubX2_holdsFrom_31 {G : xG} {v : Nat → Nat} {sh : Nat → Option Sh} {B : Nat × Nat} {c0 : List va_E} {d : Nat} {Post : xP} {l3 : Int} {S : St} {cs : List va_E} {K : Int → St → Prop} (hd : 5 ≤ d) (hT : sb shC sh) (hS : ∀ b x, sh b = some x → ¬ isS b) (hU : sb shLi sh) (hW : Wv G v sh B c0 S cs) (hP : ∀ (x : Int) (S : St) (cs : List va_E), K x S → Wv G v sh B c0 S cs → Post (some (.int (Int32.ofInt x))) cs)  (hw : wX2_holdsFrom_31 l3 S K ) : Z (RX2, cX2_holdsFrom, 4, some .boolean, false) G d Post 31 [(0, .ref (G.1 + v 250)), (3, .int (Int32.ofInt (l3)))] [] cs := by
  unfold wX2_holdsFrom_31 at hw
  obtain ⟨Iv, mu, h0, hs⟩ := hw
  have key : ∀ (n : Nat) (l3 : Int) (S : St) (cs : List va_E), mu l3 S < n → Iv l3 S → Wv G v sh B c0 S cs → Z (RX2, cX2_holdsFrom, 4, some .boolean, false) G d Post 31 [(0, .ref (G.1 + v 250)), (3, .int (Int32.ofInt (l3)))] [] cs := by
    intro n
    induction n with
    | zero => intro l3 S cs hn; exact absurd hn (Nat.not_lt_zero _)
    | succ n ih =>
      intro l3 S cs hn hI hW
      exact ubX2_holdsFrom_31' hd hT hS hU hW hP  (fun l3 S cs hb hW => ih l3 S cs (Nat.lt_of_lt_of_le hb.2 (Nat.le_of_lt_succ hn)) hb.1 hW) (hs l3 S hI)
  exact key _ _ _ _ (Nat.lt_succ_self _) h0 hW
def wX2_holdsFrom  (a1 a2 : Int) (S : St) (K : Int → St → Prop) : Prop := rng a1 → rng a2 → (wJ7_fill_53178 ((-2)) S (fun r2 S1 => (wJ7_fill_53178_b ((-2)) S1 (fun r4 S3 => (wX2_pairs (a1) (a2) S3 (fun r6 S5 => (rng (r6) ∧ ((¬ r6 = 0 → wX2_holdsFrom_31 (0) S5 K) ∧ ((¬ (¬ r6 = 0)) → K (0) S5)))))))))
set_option maxRecDepth 100000 in
set_option maxHeartbeats 4000000 in
theorem lX2_holdsFrom {G : xG} {v : Nat → Nat} {sh : Nat → Option Sh} {B : Nat × Nat} {c0 : List va_E}  {a1 a2 : Int} {S : St} {cs : List va_E} {K : Int → St → Prop} (d : Nat) (hd : 5 ≤ d) (hT : sb shC sh) (hS : ∀ b x, sh b = some x → ¬ isS b) (hU : sb shLi sh) (hW : Wv G v sh B c0 S cs) (g1 : rng a1) (g2 : rng a2) (hw : wX2_holdsFrom a1 a2 S K) : X G yX2_holdsFrom cX2_holdsFrom 4 (some .boolean) d [.ref (G.1 + v 250), .int (Int32.ofInt a1), .int (Int32.ofInt a2)] cs (vI G v sh B c0 K) := by
  refine X.of false (by decide +kernel) (by decide) (Nat.le_of_ble_eq_true rfl) ?_
  show Z (RX2, cX2_holdsFrom, 4, some .boolean, false) G d _ 0 [(0, .ref (G.1 + v 250)), (1, .int (Int32.ofInt a1)), (2, .int (Int32.ofInt a2))] [] cs
  have hP : ∀ (x : Int) (S : St) (cs : List va_E), K x S → Wv G v sh B c0 S cs → vI G v sh B c0 K (some (.int (Int32.ofInt x))) cs := fun x S cs a b => ⟨x, S, rfl, a, b⟩
  unfold wX2_holdsFrom at hw
  have hw := hw g1 g2
  refine z_aload_n dX2_holdsFrom_0 rfl rfl ?_
  refine v_getR hW (hU 250 _ rfl) rfl kX2 fX2_9 dX2_holdsFrom_1 ?_
  refine z_bipush (v := Int32.ofInt (-2)) dX2_holdsFrom_4 (by decide) ?_
  have hX := lJ7_fill_53178 0 (Nat.le_refl _) hT hS hU hW ⟨by decide, by decide⟩ hw
  refine z_callS (As := [_, _]) eJ7_fill_53178 sJ7_fill_53178 lX2_36 dX2_holdsFrom_6 hX (Nat.le_trans (by decide) hd) rfl (Nat.le_of_ble_eq_true rfl) (fun r cs hp => ?_)
  obtain ⟨r2, S1, rfl, hw, hW⟩ := hp
  refine z_st (st' := []) rfl ?_
  refine z_aload_n dX2_holdsFrom_9 rfl rfl ?_
  refine v_getR hW (hU 250 _ rfl) rfl kX2 fX2_15 dX2_holdsFrom_10 ?_
  refine z_bipush (v := Int32.ofInt (-2)) dX2_holdsFrom_13 (by decide) ?_
  have hX := lJ7_fill_53178_b 0 (Nat.le_refl _) hT hS hU hW ⟨by decide, by decide⟩ hw
  refine z_callS (As := [_, _]) eJ7_fill_53178 sJ7_fill_53178 lX2_36 dX2_holdsFrom_15 hX (Nat.le_trans (by decide) hd) rfl (Nat.le_of_ble_eq_true rfl) (fun r cs hp => ?_)
  obtain ⟨r4, S3, rfl, hw, hW⟩ := hp
  refine z_st (st' := []) rfl ?_
  refine z_aload_n dX2_holdsFrom_18 rfl rfl ?_
  refine z_iload_n dX2_holdsFrom_19 rfl rfl ?_
  refine z_iload_n dX2_holdsFrom_20 rfl rfl ?_
  have hX := lX2_pairs 2 (Nat.le_refl _) hT hS hU hW g1 g2 hw
  refine z_callV (As := [_, _]) eX2_pairs sX2_pairs lX2_42 rfl dX2_holdsFrom_21 (hW.at (hU 250 _ rfl)) hX (Nat.le_trans (by decide) hd) rfl (Nat.le_of_ble_eq_true rfl) (fun r cs hp => ?_)
  obtain ⟨r6, S5, rfl, hw, hW⟩ := hp
  refine z_st (st' := [.int (Int32.ofInt (r6))]) rfl ?_
  obtain ⟨q8, hw⟩ := hw
  refine i_if_ne (tgt := 29) dX2_holdsFrom_24 (by decide) q8 (fun h7 => ?_) (fun h7 => ?_)
  · have hw := hw.1 h7
    refine z_iconst (v := Int32.ofInt 0) dX2_holdsFrom_29 rfl ?_
    refine z_istore_n dX2_holdsFrom_30 rfl (by decide) ?_
    refine z_loc (L' := [(0, .ref (G.1 + v 250)), (1, .int (Int32.ofInt (a1))), (2, .int (Int32.ofInt (a2))), (3, .int (Int32.ofInt (0)))]) (List.forall_mem_cons.mpr ⟨rfl, (List.forall_mem_cons.mpr ⟨rfl, (List.forall_mem_cons.mpr ⟨rfl, (List.forall_mem_cons.mpr ⟨rfl, (fun _ h => nomatch h)⟩)⟩)⟩)⟩) ?_
    refine z_loc (L' := [(0, .ref (G.1 + v 250)), (3, .int (Int32.ofInt (0)))]) (List.forall_mem_cons.mpr ⟨rfl, (List.forall_mem_cons.mpr ⟨rfl, (fun _ h => nomatch h)⟩)⟩) ?_
    exact ubX2_holdsFrom_31 hd hT hS hU hW hP  hw
  · have hw := hw.2 h7
    refine z_iconst (v := Int32.ofInt 0) dX2_holdsFrom_27 rfl ?_
    exact z_ireturn dX2_holdsFrom_28 rfl (nar01 (by decide)) (hP _ _ _ hw hW)

