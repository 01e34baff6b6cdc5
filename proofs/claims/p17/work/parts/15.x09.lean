def wX8_nameOf  (a1 a2 a3 : Int) (S : St) (K : Int → St → Prop) : Prop := rng a1 → rng a2 → rng a3 → (wX1_classOf (a2) S (fun r2 S1 => (rng (r2) ∧ (wX4_shape (r2) (a3) S1 (fun r4 S3 => (rng (r4) ∧ ((¬ r4 = 3 → (wX1_classOf (a1) S3 (fun r9 S8 => K (r9) S8))) ∧ ((¬ (¬ r4 = 3)) → (wX4_fieldName (r2) (a3) S3 (fun r11 S10 => K (r11) S10))))))))))
set_option maxRecDepth 100000 in
set_option maxHeartbeats 4000000 in
theorem lX8_nameOf {G : xG} {v : Nat → Nat} {sh : Nat → Option Sh} {B : Nat × Nat} {c0 : List va_E}  {a1 a2 a3 : Int} {S : St} {cs : List va_E} {K : Int → St → Prop} (d : Nat) (hd : 2 ≤ d) (hT : sb shC sh) (hS : ∀ b x, sh b = some x → ¬ isS b) (hU : sb shW sh) (hW : Wv G v sh B c0 S cs) (g1 : rng a1) (g2 : rng a2) (g3 : rng a3) (hw : wX8_nameOf a1 a2 a3 S K) : X G yX8_nameOf cX8_nameOf 5 (some .int) d [.ref (G.1 + v 210), .int (Int32.ofInt a1), .int (Int32.ofInt a2), .int (Int32.ofInt a3)] cs (vI G v sh B c0 K) := by
  refine X.of false (by decide +kernel) (by decide) (Nat.le_of_ble_eq_true rfl) ?_
  show Z (RX8, cX8_nameOf, 5, some .int, false) G d _ 0 [(0, .ref (G.1 + v 210)), (1, .int (Int32.ofInt a1)), (2, .int (Int32.ofInt a2)), (3, .int (Int32.ofInt a3))] [] cs
  have hP : ∀ (x : Int) (S : St) (cs : List va_E), K x S → Wv G v sh B c0 S cs → vI G v sh B c0 K (some (.int (Int32.ofInt x))) cs := fun x S cs a b => ⟨x, S, rfl, a, b⟩
  unfold wX8_nameOf at hw
  have hw := hw g1 g2 g3
  refine z_aload_n dX8_nameOf_0 rfl rfl ?_
  refine v_getR hW (hU 210 _ rfl) rfl kX8 fX8_42 dX8_nameOf_1 ?_
  refine z_iload_n dX8_nameOf_4 rfl rfl ?_
  have hX := lX1_classOf 1 (Nat.le_refl _) hT hS hW g2 hw
  refine z_callV (As := [_]) eX1_classOf sX1_classOf lX8_99 rfl dX8_nameOf_5 (hW.at (hT 42 _ rfl)) hX (Nat.le_trans (by decide) hd) rfl (Nat.le_of_ble_eq_true rfl) (fun r cs hp => ?_)
  obtain ⟨r2, S1, rfl, hw, hW⟩ := hp
  refine z_st (st' := [.int (Int32.ofInt (r2))]) rfl ?_
  refine z_istore dX8_nameOf_8 (by decide) ?_
  refine z_loc (L' := [(0, .ref (G.1 + v 210)), (1, .int (Int32.ofInt (a1))), (2, .int (Int32.ofInt (a2))), (3, .int (Int32.ofInt (a3))), (4, .int (Int32.ofInt (r2)))]) (List.forall_mem_cons.mpr ⟨rfl, (List.forall_mem_cons.mpr ⟨rfl, (List.forall_mem_cons.mpr ⟨rfl, (List.forall_mem_cons.mpr ⟨rfl, (List.forall_mem_cons.mpr ⟨rfl, (fun _ h => nomatch h)⟩)⟩)⟩)⟩)⟩) ?_
  refine z_aload_n dX8_nameOf_10 rfl rfl ?_
  refine v_getR hW (hU 210 _ rfl) rfl kX8 fX8_38 dX8_nameOf_11 ?_
  refine z_iload dX8_nameOf_14 rfl ?_
  refine z_iload_n dX8_nameOf_16 rfl rfl ?_
  obtain ⟨q5, hw⟩ := hw
  have hX := lX4_shape 1 (Nat.le_refl _) hT hS hW q5 g3 hw
  refine z_callV (As := [_, _]) eX4_shape sX4_shape lX8_103 rfl dX8_nameOf_17 (hW.at (hT 24 _ rfl)) hX (Nat.le_trans (by decide) hd) rfl (Nat.le_of_ble_eq_true rfl) (fun r cs hp => ?_)
  obtain ⟨r4, S3, rfl, hw, hW⟩ := hp
  refine z_st (st' := [.int (Int32.ofInt (r4))]) rfl ?_
  refine z_iconst (v := Int32.ofInt 3) dX8_nameOf_20 rfl ?_
  obtain ⟨q7, hw⟩ := hw
  refine i_icmp_ne (tgt := 33) dX8_nameOf_21 (by decide) q7 ⟨by decide, by decide⟩ (fun h6 => ?_) (fun h6 => ?_)
  · have hw := hw.1 h6
    refine z_aload_n dX8_nameOf_33 rfl rfl ?_
    refine v_getR hW (hU 210 _ rfl) rfl kX8 fX8_42 dX8_nameOf_34 ?_
    refine z_iload_n dX8_nameOf_37 rfl rfl ?_
    have hX := lX1_classOf 1 (Nat.le_refl _) hT hS hW g1 hw
    refine z_callV (As := [_]) eX1_classOf sX1_classOf lX8_99 rfl dX8_nameOf_38 (hW.at (hT 42 _ rfl)) hX (Nat.le_trans (by decide) hd) rfl (Nat.le_of_ble_eq_true rfl) (fun r cs hp => ?_)
    obtain ⟨r9, S8, rfl, hw, hW⟩ := hp
    refine z_st (st' := [.int (Int32.ofInt (r9))]) rfl ?_
    exact z_ireturn dX8_nameOf_41 rfl rfl (hP _ _ _ hw hW)
  · have hw := hw.2 h6
    refine z_iload dX8_nameOf_24 rfl ?_
    refine z_iload_n dX8_nameOf_26 rfl rfl ?_
    have hX := lX4_fieldName 0 (Nat.le_refl _) hT hS hW q5 g3 hw
    refine z_callS (As := [_, _]) eX4_fieldName sX4_fieldName lX8_109 dX8_nameOf_27 hX (Nat.le_trans (by decide) hd) rfl (Nat.le_of_ble_eq_true rfl) (fun r cs hp => ?_)
    obtain ⟨r11, S10, rfl, hw, hW⟩ := hp
    refine z_st (st' := [.int (Int32.ofInt (r11))]) rfl ?_
    refine z_goto (tgt := 41) dX8_nameOf_30 (by decide) ?_
    exact z_ireturn dX8_nameOf_41 rfl rfl (hP _ _ _ hw hW)

def wX4_isFieldName  (a1 : Int) (S : St) (K : Int → St → Prop) : Prop := rng a1 → ((a1 < 6 → K (0) S) ∧ ((¬ (a1 < 6)) → K (1) S))
set_option maxRecDepth 100000 in
set_option maxHeartbeats 4000000 in
theorem lX4_isFieldName {G : xG} {v : Nat → Nat} {sh : Nat → Option Sh} {B : Nat × Nat} {c0 : List va_E}  {a1 : Int} {S : St} {cs : List va_E} {K : Int → St → Prop} (d : Nat) (hd : 0 ≤ d) (hT : sb shC sh) (hS : ∀ b x, sh b = some x → ¬ isS b) (hW : Wv G v sh B c0 S cs) (g1 : rng a1) (hw : wX4_isFieldName a1 S K) : X G yX4_isFieldName cX4_isFieldName 1 (some .boolean) d [.int (Int32.ofInt a1)] cs (vI G v sh B c0 K) := by
  refine X.of false (by decide +kernel) (by decide) (Nat.le_of_ble_eq_true rfl) ?_
  show Z (RX4, cX4_isFieldName, 1, some .boolean, false) G d _ 0 [(0, .int (Int32.ofInt a1))] [] cs
  have hP : ∀ (x : Int) (S : St) (cs : List va_E), K x S → Wv G v sh B c0 S cs → vI G v sh B c0 K (some (.int (Int32.ofInt x))) cs := fun x S cs a b => ⟨x, S, rfl, a, b⟩
  unfold wX4_isFieldName at hw
  have hw := hw g1
  refine z_iload_n dX4_isFieldName_0 rfl rfl ?_
  refine z_bipush (v := Int32.ofInt 6) dX4_isFieldName_1 (by decide) ?_
  refine i_icmp_lt (tgt := 10) dX4_isFieldName_3 (by decide) g1 ⟨by decide, by decide⟩ (fun h1 => ?_) (fun h1 => ?_)
  · have hw := hw.1 h1
    refine z_iconst (v := Int32.ofInt 0) dX4_isFieldName_10 rfl ?_
    exact z_ireturn dX4_isFieldName_11 rfl (nar01 (by decide)) (hP _ _ _ hw hW)
  · have hw := hw.2 h1
    refine z_iconst (v := Int32.ofInt 1) dX4_isFieldName_6 rfl ?_
    refine z_goto (tgt := 11) dX4_isFieldName_7 (by decide) ?_
    exact z_ireturn dX4_isFieldName_11 rfl (nar01 (by decide)) (hP _ _ _ hw hW)

def wX8_startTag_189  (l1 l3 l4 : Int) (S : St) (K : Int → St → Prop) (B109 : Int → Int → Int → St → Prop) : Prop := B109 (l1) (l3) ((l4 + 1)) S
set_option maxRecDepth 100000 in
set_option maxHeartbeats 4000000 in
theorem ubX8_startTag_189 {G : xG} {v : Nat → Nat} {sh : Nat → Option Sh} {B : Nat × Nat} {c0 : List va_E} {d : Nat} {Post : xP} {l1 l3 l4 : Int} {S : St} {cs : List va_E} {K : Int → St → Prop} {B109 : Int → Int → Int → St → Prop} (hd : 7 ≤ d) (hT : sb shC sh) (hS : ∀ b x, sh b = some x → ¬ isS b) (hU : sb shW sh) (hW : Wv G v sh B c0 S cs) (hP : ∀ (x : Int) (S : St) (cs : List va_E), K x S → Wv G v sh B c0 S cs → Post (none) cs) (hB109 : ∀ (l1 : Int) (l3 : Int) (l4 : Int) (S : St) (cs : List va_E), B109 l1 l3 l4 S → Wv G v sh B c0 S cs → Z (RX8, cX8_startTag, 5, none, false) G d Post 109 [(0, .ref (G.1 + v 210)), (1, .int (Int32.ofInt (l1))), (3, .int (Int32.ofInt (l3))), (4, .int (Int32.ofInt (l4)))] [] cs) (hw : wX8_startTag_189 l1 l3 l4 S K B109) : Z (RX8, cX8_startTag, 5, none, false) G d Post 189 [(0, .ref (G.1 + v 210)), (1, .int (Int32.ofInt (l1))), (3, .int (Int32.ofInt (l3))), (4, .int (Int32.ofInt (l4)))] [] cs := by
  unfold wX8_startTag_189 at hw
  refine i_iinc (l := l4) dX8_startTag_189 rfl (by decide) ?_
  refine z_loc (L' := [(0, .ref (G.1 + v 210)), (1, .int (Int32.ofInt (l1))), (3, .int (Int32.ofInt (l3))), (4, .int (Int32.ofInt ((l4 + 1))))]) (List.forall_mem_cons.mpr ⟨rfl, (List.forall_mem_cons.mpr ⟨rfl, (List.forall_mem_cons.mpr ⟨rfl, (List.forall_mem_cons.mpr ⟨rfl, (fun _ h => nomatch h)⟩)⟩)⟩)⟩) ?_
  refine z_goto (tgt := 109) dX8_startTag_192 (by decide) ?_
  refine z_loc (L' := [(0, .ref (G.1 + v 210)), (1, .int (Int32.ofInt (l1))), (3, .int (Int32.ofInt (l3))), (4, .int (Int32.ofInt ((l4 + 1))))]) (List.forall_mem_cons.mpr ⟨rfl, (List.forall_mem_cons.mpr ⟨rfl, (List.forall_mem_cons.mpr ⟨rfl, (List.forall_mem_cons.mpr ⟨rfl, (fun _ h => nomatch h)⟩)⟩)⟩)⟩) ?_
  exact hB109 _ _ _ _ _ hw hW
def wX8_startTag_109'  (l1 l3 l4 : Int) (S : St) (K : Int → St → Prop) (B109 : Int → Int → Int → St → Prop) : Prop := (rng (l3) ∧ (wX4_fieldCount (l3) S (fun r2 S1 => (rng (l4) ∧ (rng (r2) ∧ ((r2 ≤ l4 → K 0 S1) ∧ ((¬ (r2 ≤ l4)) → (wX4_isAttribute (l3) (l4) S1 (fun r8 S7 => (rng (r8) ∧ ((r8 = 0 → wX8_startTag_189 (l1) (l3) (l4) S7 K B109) ∧ ((¬ (r8 = 0)) → (wX5_put 22 (32) S7 (fun r12 S11 => (wX4_fieldName (l3) (l4) S11 (fun r14 S13 => (rng (r14) ∧ (wX4_spellTo (r14) S13 (fun r16 S15 => (wX5_spell 22 8 S15 (fun r19 S18 => (rng (l1) ∧ (wX8_single (l1) (l4) (1) S18 (fun r21 S20 => (wX5_put 22 (34) S20 (fun r24 S23 => wX8_startTag_189 (l1) (l3) (l4) S23 K B109))))))))))))))))))))))))))
set_option maxRecDepth 100000 in
set_option maxHeartbeats 4000000 in
theorem ubX8_startTag_109' {G : xG} {v : Nat → Nat} {sh : Nat → Option Sh} {B : Nat × Nat} {c0 : List va_E} {d : Nat} {Post : xP} {l1 l3 l4 : Int} {S : St} {cs : List va_E} {K : Int → St → Prop} {B109 : Int → Int → Int → St → Prop} (hd : 7 ≤ d) (hT : sb shC sh) (hS : ∀ b x, sh b = some x → ¬ isS b) (hU : sb shW sh) (hW : Wv G v sh B c0 S cs) (hP : ∀ (x : Int) (S : St) (cs : List va_E), K x S → Wv G v sh B c0 S cs → Post (none) cs) (hB109 : ∀ (l1 : Int) (l3 : Int) (l4 : Int) (S : St) (cs : List va_E), B109 l1 l3 l4 S → Wv G v sh B c0 S cs → Z (RX8, cX8_startTag, 5, none, false) G d Post 109 [(0, .ref (G.1 + v 210)), (1, .int (Int32.ofInt (l1))), (3, .int (Int32.ofInt (l3))), (4, .int (Int32.ofInt (l4)))] [] cs) (hw : wX8_startTag_109' l1 l3 l4 S K B109) : Z (RX8, cX8_startTag, 5, none, false) G d Post 109 [(0, .ref (G.1 + v 210)), (1, .int (Int32.ofInt (l1))), (3, .int (Int32.ofInt (l3))), (4, .int (Int32.ofInt (l4)))] [] cs := by
  unfold wX8_startTag_109' at hw
  refine z_iload dX8_startTag_109 rfl ?_
  refine z_aload_n dX8_startTag_111 rfl rfl ?_
  refine v_getR hW (hU 210 _ rfl) rfl kX8 fX8_38 dX8_startTag_112 ?_
  refine z_iload_n dX8_startTag_115 rfl rfl ?_
  obtain ⟨q3, hw⟩ := hw
  have hX := lX4_fieldCount 1 (Nat.le_refl _) hT hS hW q3 hw
  refine z_callV (As := [_]) eX4_fieldCount sX4_fieldCount lX8_126 rfl dX8_startTag_116 (hW.at (hT 24 _ rfl)) hX (Nat.le_trans (by decide) hd) rfl (Nat.le_of_ble_eq_true rfl) (fun r cs hp => ?_)
  obtain ⟨r2, S1, rfl, hw, hW⟩ := hp
  refine z_st (st' := [.int (Int32.ofInt (r2)), .int (Int32.ofInt (l4))]) rfl ?_
  obtain ⟨q5, hw⟩ := hw
  obtain ⟨q6, hw⟩ := hw
  refine i_icmp_ge (tgt := 195) dX8_startTag_119 (by decide) q5 q6 (fun h4 => ?_) (fun h4 => ?_)
  · have hw := hw.1 h4
    exact z_return dX8_startTag_195 rfl (hP 0 _ _ hw hW)
  · have hw := hw.2 h4
    refine z_aload_n dX8_startTag_122 rfl rfl ?_
    refine v_getR hW (hU 210 _ rfl) rfl kX8 fX8_38 dX8_startTag_123 ?_
    refine z_iload_n dX8_startTag_126 rfl rfl ?_
    refine z_iload dX8_startTag_127 rfl ?_
    have hX := lX4_isAttribute 1 (Nat.le_refl _) hT hS hW q3 q5 hw
    refine z_callV (As := [_, _]) eX4_isAttribute sX4_isAttribute lX8_129 rfl dX8_startTag_129 (hW.at (hT 24 _ rfl)) hX (Nat.le_trans (by decide) hd) rfl (Nat.le_of_ble_eq_true rfl) (fun r cs hp => ?_)
    obtain ⟨r8, S7, rfl, hw, hW⟩ := hp
    refine z_st (st' := [.int (Int32.ofInt (r8))]) rfl ?_
    obtain ⟨q10, hw⟩ := hw
    refine i_if_eq (tgt := 189) dX8_startTag_132 (by decide) q10 (fun h9 => ?_) (fun h9 => ?_)
    · have hw := hw.1 h9
      refine z_loc (L' := [(0, .ref (G.1 + v 210)), (1, .int (Int32.ofInt (l1))), (3, .int (Int32.ofInt (l3))), (4, .int (Int32.ofInt (l4)))]) (List.forall_mem_cons.mpr ⟨rfl, (List.forall_mem_cons.mpr ⟨rfl, (List.forall_mem_cons.mpr ⟨rfl, (List.forall_mem_cons.mpr ⟨rfl, (fun _ h => nomatch h)⟩)⟩)⟩)⟩) ?_
      exact ubX8_startTag_189 hd hT hS hU hW hP hB109 hw
    · have hw := hw.2 h9
      refine z_aload_n dX8_startTag_135 rfl rfl ?_
      refine v_getR hW (hU 210 _ rfl) rfl kX8 fX8_46 dX8_startTag_136 ?_
      refine z_bipush (v := Int32.ofInt 32) dX8_startTag_139 (by decide) ?_
      have hX := lX5_put 1 (Nat.le_refl _) hW (show isS 22 by unfold isS; decide) (fun b x h e => hS b x h (e ▸ (show isS 22 by unfold isS; decide))) ⟨by decide, by decide⟩ hw
      refine z_callV (As := [_]) eX5_put sX5_put lX8_89 rfl dX8_startTag_141 (hW.sg (show isS 22 by unfold isS; decide) (fun b x h e => hS b x h (e ▸ (show isS 22 by unfold isS; decide)))).choose_spec.choose_spec.choose_spec.choose_spec.1.choose_spec.1 hX (Nat.le_trans (by decide) hd) rfl (Nat.le_of_ble_eq_true rfl) (fun r cs hp => ?_)
      obtain ⟨r12, S11, rfl, hw, hW⟩ := hp
      refine z_st (st' := [.int (Int32.ofInt (r12))]) rfl ?_
      refine z_pop dX8_startTag_144 rfl ?_
      refine z_aload_n dX8_startTag_145 rfl rfl ?_
      refine v_getR hW (hU 210 _ rfl) rfl kX8 fX8_38 dX8_startTag_146 ?_
      refine z_aload_n dX8_startTag_149 rfl rfl ?_
      refine v_getR hW (hU 210 _ rfl) rfl kX8 fX8_46 dX8_startTag_150 ?_
      refine z_iload_n dX8_startTag_153 rfl rfl ?_
      refine z_iload dX8_startTag_154 rfl ?_
      have hX := lX4_fieldName 0 (Nat.le_refl _) hT hS hW q3 q5 hw
      refine z_callS (As := [_, _]) eX4_fieldName sX4_fieldName lX8_109 dX8_startTag_156 hX (Nat.le_trans (by decide) hd) rfl (Nat.le_of_ble_eq_true rfl) (fun r cs hp => ?_)
      obtain ⟨r14, S13, rfl, hw, hW⟩ := hp
      refine z_st (st' := [.int (Int32.ofInt (r14)), .ref (G.1 + v 22), .ref (G.1 + v 24)]) rfl ?_
      obtain ⟨q17, hw⟩ := hw
      have hX := lX4_spellTo 2 (Nat.le_refl _) hT hS hW q17 hw
      refine z_callV (As := [_, _]) eX4_spellTo sX4_spellTo lX8_112 rfl dX8_startTag_159 (hW.at (hT 24 _ rfl)) hX (Nat.le_trans (by decide) hd) rfl (Nat.le_of_ble_eq_true rfl) (fun r cs hp => ?_)
      obtain ⟨r16, S15, rfl, hw, hW⟩ := hp
      refine z_st (st' := []) rfl ?_
      refine z_aload_n dX8_startTag_162 rfl rfl ?_
      refine v_getR hW (hU 210 _ rfl) rfl kX8 fX8_46 dX8_startTag_163 ?_
      refine z_ldcS (i := 8) (tx := "=\"") (by decide +kernel) dX8_startTag_166 ?_
      have hX := lX5_spell 4 (Nat.le_refl _) hW (show isS 22 by unfold isS; decide) (fun b x h e => hS b x h (e ▸ (show isS 22 by unfold isS; decide))) (show 8 < xN by decide)  hw
      refine z_callV (As := [_]) eX5_spell sX5_spell lX8_85 rfl dX8_startTag_168 (hW.sg (show isS 22 by unfold isS; decide) (fun b x h e => hS b x h (e ▸ (show isS 22 by unfold isS; decide)))).choose_spec.choose_spec.choose_spec.choose_spec.1.choose_spec.1 hX (Nat.le_trans (by decide) hd) rfl (Nat.le_of_ble_eq_true rfl) (fun r cs hp => ?_)
      obtain ⟨r19, S18, rfl, hw, hW⟩ := hp
      refine z_st (st' := []) rfl ?_
      refine z_aload_n dX8_startTag_171 rfl rfl ?_
      refine z_iload_n dX8_startTag_172 rfl rfl ?_
      refine z_iload dX8_startTag_173 rfl ?_
      refine z_iconst (v := Int32.ofInt 1) dX8_startTag_175 rfl ?_
      obtain ⟨q22, hw⟩ := hw
      have hX := lX8_single 6 (Nat.le_refl _) hT hS hU hW q22 q5 ⟨by decide, by decide⟩ hw
      refine z_callV (As := [_, _, _]) eX8_single sX8_single lX8_135 rfl dX8_startTag_176 (hW.at (hU 210 _ rfl)) hX (Nat.le_trans (by decide) hd) rfl (Nat.le_of_ble_eq_true rfl) (fun r cs hp => ?_)
      obtain ⟨r21, S20, rfl, hw, hW⟩ := hp
      refine z_st (st' := []) rfl ?_
      refine z_aload_n dX8_startTag_179 rfl rfl ?_
      refine v_getR hW (hU 210 _ rfl) rfl kX8 fX8_46 dX8_startTag_180 ?_
      refine z_bipush (v := Int32.ofInt 34) dX8_startTag_183 (by decide) ?_
      have hX := lX5_put 1 (Nat.le_refl _) hW (show isS 22 by unfold isS; decide) (fun b x h e => hS b x h (e ▸ (show isS 22 by unfold isS; decide))) ⟨by decide, by decide⟩ hw
      refine z_callV (As := [_]) eX5_put sX5_put lX8_89 rfl dX8_startTag_185 (hW.sg (show isS 22 by unfold isS; decide) (fun b x h e => hS b x h (e ▸ (show isS 22 by unfold isS; decide)))).choose_spec.choose_spec.choose_spec.choose_spec.1.choose_spec.1 hX (Nat.le_trans (by decide) hd) rfl (Nat.le_of_ble_eq_true rfl) (fun r cs hp => ?_)
      obtain ⟨r24, S23, rfl, hw, hW⟩ := hp
      refine z_st (st' := [.int (Int32.ofInt (r24))]) rfl ?_
      refine z_pop dX8_startTag_188 rfl ?_
      refine z_loc (L' := [(0, .ref (G.1 + v 210)), (1, .int (Int32.ofInt (l1))), (3, .int (Int32.ofInt (l3))), (4, .int (Int32.ofInt (l4)))]) (List.forall_mem_cons.mpr ⟨rfl, (List.forall_mem_cons.mpr ⟨rfl, (List.forall_mem_cons.mpr ⟨rfl, (List.forall_mem_cons.mpr ⟨rfl, (fun _ h => nomatch h)⟩)⟩)⟩)⟩) ?_
      exact ubX8_startTag_189 hd hT hS hU hW hP hB109 hw
def wX8_startTag_109  (l1 l3 l4 : Int) (S : St) (K : Int → St → Prop) : Prop := ∃ (Iv : Int → Int → Int → St → Prop) (mu : Int → Int → Int → St → Nat), Iv l1 l3 l4 S ∧ ∀ (l1 l3 l4 : Int) (S : St), Iv l1 l3 l4 S → wX8_startTag_109' l1 l3 l4 S K  (fun ml1 ml3 ml4 T => Iv ml1 ml3 ml4 T ∧ mu ml1 ml3 ml4 T < mu l1 l3 l4 S)
set_option maxRecDepth 100000 in
set_option maxHeartbeats 4000000 in
theorem ubX8_startTag_109 {G : xG} {v : Nat → Nat} {sh : Nat → Option Sh} {B : Nat × Nat} {c0 : List va_E} {d : Nat} {Post : xP} {l1 l3 l4 : Int} {S : St} {cs : List va_E} {K : Int → St → Prop} (hd : 7 ≤ d) (hT : sb shC sh) (hS : ∀ b x, sh b = some x → ¬ isS b) (hU : sb shW sh) (hW : Wv G v sh B c0 S cs) (hP : ∀ (x : Int) (S : St) (cs : List va_E), K x S → Wv G v sh B c0 S cs → Post (none) cs)  (hw : wX8_startTag_109 l1 l3 l4 S K ) : Z (RX8, cX8_startTag, 5, none, false) G d Post 109 [(0, .ref (G.1 + v 210)), (1, .int (Int32.ofInt (l1))), (3, .int (Int32.ofInt (l3))), (4, .int (Int32.ofInt (l4)))] [] cs := by
  unfold wX8_startTag_109 at hw
  obtain ⟨Iv, mu, h0, hs⟩ := hw
  have key : ∀ (n : Nat) (l1 l3 l4 : Int) (S : St) (cs : List va_E), mu l1 l3 l4 S < n → Iv l1 l3 l4 S → Wv G v sh B c0 S cs → Z (RX8, cX8_startTag, 5, none, false) G d Post 109 [(0, .ref (G.1 + v 210)), (1, .int (Int32.ofInt (l1))), (3, .int (Int32.ofInt (l3))), (4, .int (Int32.ofInt (l4)))] [] cs := by
    intro n
    induction n with
    | zero => intro l1 l3 l4 S cs hn; exact absurd hn (Nat.not_lt_zero _)
    | succ n ih =>
      intro l1 l3 l4 S cs hn hI hW
      exact ubX8_startTag_109' hd hT hS hU hW hP  (fun l1 l3 l4 S cs hb hW => ih l1 l3 l4 S cs (Nat.lt_of_lt_of_le hb.2 (Nat.le_of_lt_succ hn)) hb.1 hW) (hs l1 l3 l4 S hI)
  exact key _ _ _ _ _ _ (Nat.lt_succ_self _) h0 hW
def wX8_startTag_106  (l1 l3 : Int) (S : St) (K : Int → St → Prop) : Prop := wX8_startTag_109 (l1) (l3) (0) S K
set_option maxRecDepth 100000 in
set_option maxHeartbeats 4000000 in
theorem ubX8_startTag_106 {G : xG} {v : Nat → Nat} {sh : Nat → Option Sh} {B : Nat × Nat} {c0 : List va_E} {d : Nat} {Post : xP} {l1 l3 : Int} {S : St} {cs : List va_E} {K : Int → St → Prop} (hd : 7 ≤ d) (hT : sb shC sh) (hS : ∀ b x, sh b = some x → ¬ isS b) (hU : sb shW sh) (hW : Wv G v sh B c0 S cs) (hP : ∀ (x : Int) (S : St) (cs : List va_E), K x S → Wv G v sh B c0 S cs → Post (none) cs)  (hw : wX8_startTag_106 l1 l3 S K ) : Z (RX8, cX8_startTag, 5, none, false) G d Post 106 [(0, .ref (G.1 + v 210)), (1, .int (Int32.ofInt (l1))), (3, .int (Int32.ofInt (l3)))] [] cs := by
  unfold wX8_startTag_106 at hw
  refine z_iconst (v := Int32.ofInt 0) dX8_startTag_106 rfl ?_
  refine z_istore dX8_startTag_107 (by decide) ?_
  refine z_loc (L' := [(0, .ref (G.1 + v 210)), (1, .int (Int32.ofInt (l1))), (3, .int (Int32.ofInt (l3))), (4, .int (Int32.ofInt (0)))]) (List.forall_mem_cons.mpr ⟨rfl, (List.forall_mem_cons.mpr ⟨rfl, (List.forall_mem_cons.mpr ⟨rfl, (List.forall_mem_cons.mpr ⟨rfl, (fun _ h => nomatch h)⟩)⟩)⟩)⟩) ?_
  refine z_loc (L' := [(0, .ref (G.1 + v 210)), (1, .int (Int32.ofInt (l1))), (3, .int (Int32.ofInt (l3))), (4, .int (Int32.ofInt (0)))]) (List.forall_mem_cons.mpr ⟨rfl, (List.forall_mem_cons.mpr ⟨rfl, (List.forall_mem_cons.mpr ⟨rfl, (List.forall_mem_cons.mpr ⟨rfl, (fun _ h => nomatch h)⟩)⟩)⟩)⟩) ?_
  exact ubX8_startTag_109 hd hT hS hU hW hP  hw
def wX8_startTag_69  (l1 l3 : Int) (S : St) (K : Int → St → Prop) : Prop := (iv (-2147483648) 2147483647 (S.1 210 3) → ((¬ S.1 210 3 = 2 → wX8_startTag_106 (l1) (l3) S K) ∧ ((¬ (¬ S.1 210 3 = 2)) → (wX5_spell 22 7 S (fun r4 S3 => ((0 : Int) ≤ l1 ∧ l1 < (30 : Int) ∧ (iv (-2147483648) 2147483647 (S3.2 211 (l1)) → (wX8_number (S3.2 211 (l1)) S3 (fun r8 S7 => (wX5_put 22 (34) S7 (fun r10 S9 => wX8_startTag_106 (l1) (l3) S9 K)))))))))))
set_option maxRecDepth 100000 in
set_option maxHeartbeats 4000000 in
theorem ubX8_startTag_69 {G : xG} {v : Nat → Nat} {sh : Nat → Option Sh} {B : Nat × Nat} {c0 : List va_E} {d : Nat} {Post : xP} {l1 l3 : Int} {S : St} {cs : List va_E} {K : Int → St → Prop} (hd : 7 ≤ d) (hT : sb shC sh) (hS : ∀ b x, sh b = some x → ¬ isS b) (hU : sb shW sh) (hW : Wv G v sh B c0 S cs) (hP : ∀ (x : Int) (S : St) (cs : List va_E), K x S → Wv G v sh B c0 S cs → Post (none) cs)  (hw : wX8_startTag_69 l1 l3 S K ) : Z (RX8, cX8_startTag, 5, none, false) G d Post 69 [(0, .ref (G.1 + v 210)), (1, .int (Int32.ofInt (l1))), (3, .int (Int32.ofInt (l3)))] [] cs := by
  unfold wX8_startTag_69 at hw
  refine z_aload_n dX8_startTag_69 rfl rfl ?_
  have q1 : iv (-2147483648) 2147483647 (S.1 210 3) := hW.iI 210 3
  have hw := hw q1
  refine v_getI hW (hU 210 _ rfl) rfl kX8 fX8_50 dX8_startTag_70 ?_
  refine z_iconst (v := Int32.ofInt 2) dX8_startTag_73 rfl ?_
  refine i_icmp_ne (tgt := 106) dX8_startTag_74 (by decide) (rngq q1 (by decide) (by decide)) ⟨by decide, by decide⟩ (fun h2 => ?_) (fun h2 => ?_)
  · have hw := hw.1 h2
    refine z_loc (L' := [(0, .ref (G.1 + v 210)), (1, .int (Int32.ofInt (l1))), (3, .int (Int32.ofInt (l3)))]) (List.forall_mem_cons.mpr ⟨rfl, (List.forall_mem_cons.mpr ⟨rfl, (List.forall_mem_cons.mpr ⟨rfl, (fun _ h => nomatch h)⟩)⟩)⟩) ?_
    exact ubX8_startTag_106 hd hT hS hU hW hP  hw
  · have hw := hw.2 h2
    refine z_aload_n dX8_startTag_77 rfl rfl ?_
    refine v_getR hW (hU 210 _ rfl) rfl kX8 fX8_46 dX8_startTag_78 ?_
    refine z_ldcS (i := 7) (tx := " id=\"") (by decide +kernel) dX8_startTag_81 ?_
    have hX := lX5_spell 4 (Nat.le_refl _) hW (show isS 22 by unfold isS; decide) (fun b x h e => hS b x h (e ▸ (show isS 22 by unfold isS; decide))) (show 7 < xN by decide)  hw
    refine z_callV (As := [_]) eX5_spell sX5_spell lX8_85 rfl dX8_startTag_83 (hW.sg (show isS 22 by unfold isS; decide) (fun b x h e => hS b x h (e ▸ (show isS 22 by unfold isS; decide)))).choose_spec.choose_spec.choose_spec.choose_spec.1.choose_spec.1 hX (Nat.le_trans (by decide) hd) rfl (Nat.le_of_ble_eq_true rfl) (fun r cs hp => ?_)
    obtain ⟨r4, S3, rfl, hw, hW⟩ := hp
    refine z_st (st' := []) rfl ?_
    refine z_aload_n dX8_startTag_86 rfl rfl ?_
    refine z_aload_n dX8_startTag_87 rfl rfl ?_
    refine v_getR hW (hU 210 _ rfl) rfl kX8 fX8_9 dX8_startTag_88 ?_
    refine z_iload_n dX8_startTag_91 rfl rfl ?_
    obtain ⟨q5a, q5b, hw⟩ := hw
    have q6 : iv (-2147483648) 2147483647 (S3.2 211 (l1)) := hW.iA 211 _
    have hw := hw q6
    refine v_iald hW (hU 211 _ rfl) q5a q5b (by decide) dX8_startTag_92 ?_
    have hX := lX8_number 2 (Nat.le_refl _) hT hS hU hW (rngq q6 (by decide) (by decide)) hw
    refine z_callV (As := [_]) eX8_number sX8_number lX8_123 rfl dX8_startTag_93 (hW.at (hU 210 _ rfl)) hX (Nat.le_trans (by decide) hd) rfl (Nat.le_of_ble_eq_true rfl) (fun r cs hp => ?_)
    obtain ⟨r8, S7, rfl, hw, hW⟩ := hp
    refine z_st (st' := []) rfl ?_
    refine z_aload_n dX8_startTag_96 rfl rfl ?_
    refine v_getR hW (hU 210 _ rfl) rfl kX8 fX8_46 dX8_startTag_97 ?_
    refine z_bipush (v := Int32.ofInt 34) dX8_startTag_100 (by decide) ?_
    have hX := lX5_put 1 (Nat.le_refl _) hW (show isS 22 by unfold isS; decide) (fun b x h e => hS b x h (e ▸ (show isS 22 by unfold isS; decide))) ⟨by decide, by decide⟩ hw
    refine z_callV (As := [_]) eX5_put sX5_put lX8_89 rfl dX8_startTag_102 (hW.sg (show isS 22 by unfold isS; decide) (fun b x h e => hS b x h (e ▸ (show isS 22 by unfold isS; decide)))).choose_spec.choose_spec.choose_spec.choose_spec.1.choose_spec.1 hX (Nat.le_trans (by decide) hd) rfl (Nat.le_of_ble_eq_true rfl) (fun r cs hp => ?_)
    obtain ⟨r10, S9, rfl, hw, hW⟩ := hp
    refine z_st (st' := [.int (Int32.ofInt (r10))]) rfl ?_
    refine z_pop dX8_startTag_105 rfl ?_
    refine z_loc (L' := [(0, .ref (G.1 + v 210)), (1, .int (Int32.ofInt (l1))), (3, .int (Int32.ofInt (l3)))]) (List.forall_mem_cons.mpr ⟨rfl, (List.forall_mem_cons.mpr ⟨rfl, (List.forall_mem_cons.mpr ⟨rfl, (fun _ h => nomatch h)⟩)⟩)⟩) ?_
    exact ubX8_startTag_106 hd hT hS hU hW hP  hw
def wX8_startTag  (a1 a2 : Int) (S : St) (K : Int → St → Prop) : Prop := rng a1 → rng a2 → (wX1_classOf (a1) S (fun r2 S1 => (wX5_put 22 (60) S1 (fun r4 S3 => (wX4_spellTo (a2) S3 (fun r6 S5 => (wX4_isFieldName (a2) S5 (fun r8 S7 => (rng (r8) ∧ ((r8 = 0 → wX8_startTag_69 (a1) (r2) S7 K) ∧ ((¬ (r8 = 0)) → (wX5_spell 22 6 S7 (fun r12 S11 => (rng (r2) ∧ (wX4_spellTo (r2) S11 (fun r14 S13 => (wX5_put 22 (34) S13 (fun r17 S16 => wX8_startTag_69 (a1) (r2) S16 K))))))))))))))))))
set_option maxRecDepth 100000 in
set_option maxHeartbeats 4000000 in
theorem lX8_startTag {G : xG} {v : Nat → Nat} {sh : Nat → Option Sh} {B : Nat × Nat} {c0 : List va_E}  {a1 a2 : Int} {S : St} {cs : List va_E} {K : Int → St → Prop} (d : Nat) (hd : 7 ≤ d) (hT : sb shC sh) (hS : ∀ b x, sh b = some x → ¬ isS b) (hU : sb shW sh) (hW : Wv G v sh B c0 S cs) (g1 : rng a1) (g2 : rng a2) (hw : wX8_startTag a1 a2 S K) : X G yX8_startTag cX8_startTag 5 none d [.ref (G.1 + v 210), .int (Int32.ofInt a1), .int (Int32.ofInt a2)] cs (vV G v sh B c0 K) := by
  refine X.of false (by decide +kernel) (by decide) (Nat.le_of_ble_eq_true rfl) ?_
  show Z (RX8, cX8_startTag, 5, none, false) G d _ 0 [(0, .ref (G.1 + v 210)), (1, .int (Int32.ofInt a1)), (2, .int (Int32.ofInt a2))] [] cs
  have hP : ∀ (x : Int) (S : St) (cs : List va_E), K x S → Wv G v sh B c0 S cs → vV G v sh B c0 K (none) cs := fun x S cs a b => ⟨x, S, rfl, a, b⟩
  unfold wX8_startTag at hw
  have hw := hw g1 g2
  refine z_aload_n dX8_startTag_0 rfl rfl ?_
  refine v_getR hW (hU 210 _ rfl) rfl kX8 fX8_42 dX8_startTag_1 ?_
  refine z_iload_n dX8_startTag_4 rfl rfl ?_
  have hX := lX1_classOf 1 (Nat.le_refl _) hT hS hW g1 hw
  refine z_callV (As := [_]) eX1_classOf sX1_classOf lX8_99 rfl dX8_startTag_5 (hW.at (hT 42 _ rfl)) hX (Nat.le_trans (by decide) hd) rfl (Nat.le_of_ble_eq_true rfl) (fun r cs hp => ?_)
  obtain ⟨r2, S1, rfl, hw, hW⟩ := hp
  refine z_st (st' := [.int (Int32.ofInt (r2))]) rfl ?_
  refine z_istore_n dX8_startTag_8 rfl (by decide) ?_
  refine z_loc (L' := [(0, .ref (G.1 + v 210)), (1, .int (Int32.ofInt (a1))), (2, .int (Int32.ofInt (a2))), (3, .int (Int32.ofInt (r2)))]) (List.forall_mem_cons.mpr ⟨rfl, (List.forall_mem_cons.mpr ⟨rfl, (List.forall_mem_cons.mpr ⟨rfl, (List.forall_mem_cons.mpr ⟨rfl, (fun _ h => nomatch h)⟩)⟩)⟩)⟩) ?_
  refine z_aload_n dX8_startTag_9 rfl rfl ?_
  refine v_getR hW (hU 210 _ rfl) rfl kX8 fX8_46 dX8_startTag_10 ?_
  refine z_bipush (v := Int32.ofInt 60) dX8_startTag_13 (by decide) ?_
  have hX := lX5_put 1 (Nat.le_refl _) hW (show isS 22 by unfold isS; decide) (fun b x h e => hS b x h (e ▸ (show isS 22 by unfold isS; decide))) ⟨by decide, by decide⟩ hw
  refine z_callV (As := [_]) eX5_put sX5_put lX8_89 rfl dX8_startTag_15 (hW.sg (show isS 22 by unfold isS; decide) (fun b x h e => hS b x h (e ▸ (show isS 22 by unfold isS; decide)))).choose_spec.choose_spec.choose_spec.choose_spec.1.choose_spec.1 hX (Nat.le_trans (by decide) hd) rfl (Nat.le_of_ble_eq_true rfl) (fun r cs hp => ?_)
  obtain ⟨r4, S3, rfl, hw, hW⟩ := hp
  refine z_st (st' := [.int (Int32.ofInt (r4))]) rfl ?_
  refine z_pop dX8_startTag_18 rfl ?_
  refine z_aload_n dX8_startTag_19 rfl rfl ?_
  refine v_getR hW (hU 210 _ rfl) rfl kX8 fX8_38 dX8_startTag_20 ?_
  refine z_aload_n dX8_startTag_23 rfl rfl ?_
  refine v_getR hW (hU 210 _ rfl) rfl kX8 fX8_46 dX8_startTag_24 ?_
  refine z_iload_n dX8_startTag_27 rfl rfl ?_
  have hX := lX4_spellTo 2 (Nat.le_refl _) hT hS hW g2 hw
  refine z_callV (As := [_, _]) eX4_spellTo sX4_spellTo lX8_112 rfl dX8_startTag_28 (hW.at (hT 24 _ rfl)) hX (Nat.le_trans (by decide) hd) rfl (Nat.le_of_ble_eq_true rfl) (fun r cs hp => ?_)
  obtain ⟨r6, S5, rfl, hw, hW⟩ := hp
  refine z_st (st' := []) rfl ?_
  refine z_iload_n dX8_startTag_31 rfl rfl ?_
  have hX := lX4_isFieldName 0 (Nat.le_refl _) hT hS hW g2 hw
  refine z_callS (As := [_]) eX4_isFieldName sX4_isFieldName lX8_116 dX8_startTag_32 hX (Nat.le_trans (by decide) hd) rfl (Nat.le_of_ble_eq_true rfl) (fun r cs hp => ?_)
  obtain ⟨r8, S7, rfl, hw, hW⟩ := hp
  refine z_st (st' := [.int (Int32.ofInt (r8))]) rfl ?_
  obtain ⟨q10, hw⟩ := hw
  refine i_if_eq (tgt := 69) dX8_startTag_35 (by decide) q10 (fun h9 => ?_) (fun h9 => ?_)
  · have hw := hw.1 h9
    refine z_loc (L' := [(0, .ref (G.1 + v 210)), (1, .int (Int32.ofInt (a1))), (3, .int (Int32.ofInt (r2)))]) (List.forall_mem_cons.mpr ⟨rfl, (List.forall_mem_cons.mpr ⟨rfl, (List.forall_mem_cons.mpr ⟨rfl, (fun _ h => nomatch h)⟩)⟩)⟩) ?_
    exact ubX8_startTag_69 hd hT hS hU hW hP  hw
  · have hw := hw.2 h9
    refine z_aload_n dX8_startTag_38 rfl rfl ?_
    refine v_getR hW (hU 210 _ rfl) rfl kX8 fX8_46 dX8_startTag_39 ?_
    refine z_ldcS (i := 6) (tx := " class=\"") (by decide +kernel) dX8_startTag_42 ?_
    have hX := lX5_spell 4 (Nat.le_refl _) hW (show isS 22 by unfold isS; decide) (fun b x h e => hS b x h (e ▸ (show isS 22 by unfold isS; decide))) (show 6 < xN by decide)  hw
    refine z_callV (As := [_]) eX5_spell sX5_spell lX8_85 rfl dX8_startTag_44 (hW.sg (show isS 22 by unfold isS; decide) (fun b x h e => hS b x h (e ▸ (show isS 22 by unfold isS; decide)))).choose_spec.choose_spec.choose_spec.choose_spec.1.choose_spec.1 hX (Nat.le_trans (by decide) hd) rfl (Nat.le_of_ble_eq_true rfl) (fun r cs hp => ?_)
    obtain ⟨r12, S11, rfl, hw, hW⟩ := hp
    refine z_st (st' := []) rfl ?_
    refine z_aload_n dX8_startTag_47 rfl rfl ?_
    refine v_getR hW (hU 210 _ rfl) rfl kX8 fX8_38 dX8_startTag_48 ?_
    refine z_aload_n dX8_startTag_51 rfl rfl ?_
    refine v_getR hW (hU 210 _ rfl) rfl kX8 fX8_46 dX8_startTag_52 ?_
    refine z_iload_n dX8_startTag_55 rfl rfl ?_
    obtain ⟨q15, hw⟩ := hw
    have hX := lX4_spellTo 2 (Nat.le_refl _) hT hS hW q15 hw
    refine z_callV (As := [_, _]) eX4_spellTo sX4_spellTo lX8_112 rfl dX8_startTag_56 (hW.at (hT 24 _ rfl)) hX (Nat.le_trans (by decide) hd) rfl (Nat.le_of_ble_eq_true rfl) (fun r cs hp => ?_)
    obtain ⟨r14, S13, rfl, hw, hW⟩ := hp
    refine z_st (st' := []) rfl ?_
    refine z_aload_n dX8_startTag_59 rfl rfl ?_
    refine v_getR hW (hU 210 _ rfl) rfl kX8 fX8_46 dX8_startTag_60 ?_
    refine z_bipush (v := Int32.ofInt 34) dX8_startTag_63 (by decide) ?_
    have hX := lX5_put 1 (Nat.le_refl _) hW (show isS 22 by unfold isS; decide) (fun b x h e => hS b x h (e ▸ (show isS 22 by unfold isS; decide))) ⟨by decide, by decide⟩ hw
    refine z_callV (As := [_]) eX5_put sX5_put lX8_89 rfl dX8_startTag_65 (hW.sg (show isS 22 by unfold isS; decide) (fun b x h e => hS b x h (e ▸ (show isS 22 by unfold isS; decide)))).choose_spec.choose_spec.choose_spec.choose_spec.1.choose_spec.1 hX (Nat.le_trans (by decide) hd) rfl (Nat.le_of_ble_eq_true rfl) (fun r cs hp => ?_)
    obtain ⟨r17, S16, rfl, hw, hW⟩ := hp
    refine z_st (st' := [.int (Int32.ofInt (r17))]) rfl ?_
    refine z_pop dX8_startTag_68 rfl ?_
    refine z_loc (L' := [(0, .ref (G.1 + v 210)), (1, .int (Int32.ofInt (a1))), (3, .int (Int32.ofInt (r2)))]) (List.forall_mem_cons.mpr ⟨rfl, (List.forall_mem_cons.mpr ⟨rfl, (List.forall_mem_cons.mpr ⟨rfl, (fun _ h => nomatch h)⟩)⟩)⟩) ?_
    exact ubX8_startTag_69 hd hT hS hU hW hP  hw

def wX8_hasElement  (a1 a2 a3 : Int) (S : St) (K : Int → St → Prop) : Prop := rng a1 → rng a2 → rng a3 → (wX4_shape (a2) (a3) S (fun r2 S1 => (rng (r2) ∧ ((¬ r2 = 3 → (wX4_implicit (a2) S1 (fun r6 S5 => (rng (r6) ∧ ((¬ r6 = a3 → K (1) S5) ∧ ((¬ (¬ r6 = a3)) → (wX1_head (a1) (a3) S5 (fun r10 S9 => (rng (r10) ∧ ((r10 ≤ 0 → K (0) S9) ∧ ((¬ (r10 ≤ 0)) → K (1) S9))))))))))) ∧ ((¬ (¬ r2 = 3)) → (wX1_head (a1) (a3) S1 (fun r14 S13 => (rng (r14) ∧ ((r14 = (-2) → K (0) S13) ∧ ((¬ (r14 = (-2))) → K (1) S13))))))))))
set_option maxRecDepth 100000 in
set_option maxHeartbeats 4000000 in
theorem lX8_hasElement {G : xG} {v : Nat → Nat} {sh : Nat → Option Sh} {B : Nat × Nat} {c0 : List va_E}  {a1 a2 a3 : Int} {S : St} {cs : List va_E} {K : Int → St → Prop} (d : Nat) (hd : 2 ≤ d) (hT : sb shC sh) (hS : ∀ b x, sh b = some x → ¬ isS b) (hU : sb shW sh) (hW : Wv G v sh B c0 S cs) (g1 : rng a1) (g2 : rng a2) (g3 : rng a3) (hw : wX8_hasElement a1 a2 a3 S K) : X G yX8_hasElement cX8_hasElement 4 (some .boolean) d [.ref (G.1 + v 210), .int (Int32.ofInt a1), .int (Int32.ofInt a2), .int (Int32.ofInt a3)] cs (vI G v sh B c0 K) := by
  refine X.of false (by decide +kernel) (by decide) (Nat.le_of_ble_eq_true rfl) ?_
  show Z (RX8, cX8_hasElement, 4, some .boolean, false) G d _ 0 [(0, .ref (G.1 + v 210)), (1, .int (Int32.ofInt a1)), (2, .int (Int32.ofInt a2)), (3, .int (Int32.ofInt a3))] [] cs
  have hP : ∀ (x : Int) (S : St) (cs : List va_E), K x S → Wv G v sh B c0 S cs → vI G v sh B c0 K (some (.int (Int32.ofInt x))) cs := fun x S cs a b => ⟨x, S, rfl, a, b⟩
  unfold wX8_hasElement at hw
  have hw := hw g1 g2 g3
  refine z_aload_n dX8_hasElement_0 rfl rfl ?_
  refine v_getR hW (hU 210 _ rfl) rfl kX8 fX8_38 dX8_hasElement_1 ?_
  refine z_iload_n dX8_hasElement_4 rfl rfl ?_
  refine z_iload_n dX8_hasElement_5 rfl rfl ?_
  have hX := lX4_shape 1 (Nat.le_refl _) hT hS hW g2 g3 hw
  refine z_callV (As := [_, _]) eX4_shape sX4_shape lX8_103 rfl dX8_hasElement_6 (hW.at (hT 24 _ rfl)) hX (Nat.le_trans (by decide) hd) rfl (Nat.le_of_ble_eq_true rfl) (fun r cs hp => ?_)
  obtain ⟨r2, S1, rfl, hw, hW⟩ := hp
  refine z_st (st' := [.int (Int32.ofInt (r2))]) rfl ?_
  refine z_iconst (v := Int32.ofInt 3) dX8_hasElement_9 rfl ?_
  obtain ⟨q4, hw⟩ := hw
  refine i_icmp_ne (tgt := 33) dX8_hasElement_10 (by decide) q4 ⟨by decide, by decide⟩ (fun h3 => ?_) (fun h3 => ?_)
  · have hw := hw.1 h3
    refine z_aload_n dX8_hasElement_33 rfl rfl ?_
    refine v_getR hW (hU 210 _ rfl) rfl kX8 fX8_38 dX8_hasElement_34 ?_
    refine z_iload_n dX8_hasElement_37 rfl rfl ?_
    have hX := lX4_implicit 1 (Nat.le_refl _) hT hS hW g2 hw
    refine z_callV (As := [_]) eX4_implicit sX4_implicit lX8_148 rfl dX8_hasElement_38 (hW.at (hT 24 _ rfl)) hX (Nat.le_trans (by decide) hd) rfl (Nat.le_of_ble_eq_true rfl) (fun r cs hp => ?_)
    obtain ⟨r6, S5, rfl, hw, hW⟩ := hp
    refine z_st (st' := [.int (Int32.ofInt (r6))]) rfl ?_
    refine z_iload_n dX8_hasElement_41 rfl rfl ?_
    obtain ⟨q8, hw⟩ := hw
    refine i_icmp_ne (tgt := 57) dX8_hasElement_42 (by decide) q8 g3 (fun h7 => ?_) (fun h7 => ?_)
    · have hw := hw.1 h7
      refine z_iconst (v := Int32.ofInt 1) dX8_hasElement_57 rfl ?_
      refine z_goto (tgt := 62) dX8_hasElement_58 (by decide) ?_
      exact z_ireturn dX8_hasElement_62 rfl (nar01 (by decide)) (hP _ _ _ hw hW)
    · have hw := hw.2 h7
      refine z_aload_n dX8_hasElement_45 rfl rfl ?_
      refine v_getR hW (hU 210 _ rfl) rfl kX8 fX8_42 dX8_hasElement_46 ?_
      refine z_iload_n dX8_hasElement_49 rfl rfl ?_
      refine z_iload_n dX8_hasElement_50 rfl rfl ?_
      have hX := lX1_head 1 (Nat.le_refl _) hT hS hW g1 g3 hw
      refine z_callV (As := [_, _]) eX1_head sX1_head lX8_145 rfl dX8_hasElement_51 (hW.at (hT 42 _ rfl)) hX (Nat.le_trans (by decide) hd) rfl (Nat.le_of_ble_eq_true rfl) (fun r cs hp => ?_)
      obtain ⟨r10, S9, rfl, hw, hW⟩ := hp
      refine z_st (st' := [.int (Int32.ofInt (r10))]) rfl ?_
      obtain ⟨q12, hw⟩ := hw
      refine i_if_le (tgt := 61) dX8_hasElement_54 (by decide) q12 (fun h11 => ?_) (fun h11 => ?_)
      · have hw := hw.1 h11
        refine z_iconst (v := Int32.ofInt 0) dX8_hasElement_61 rfl ?_
        exact z_ireturn dX8_hasElement_62 rfl (nar01 (by decide)) (hP _ _ _ hw hW)
      · have hw := hw.2 h11
        refine z_iconst (v := Int32.ofInt 1) dX8_hasElement_57 rfl ?_
        refine z_goto (tgt := 62) dX8_hasElement_58 (by decide) ?_
        exact z_ireturn dX8_hasElement_62 rfl (nar01 (by decide)) (hP _ _ _ hw hW)
  · have hw := hw.2 h3
    refine z_aload_n dX8_hasElement_13 rfl rfl ?_
    refine v_getR hW (hU 210 _ rfl) rfl kX8 fX8_42 dX8_hasElement_14 ?_
    refine z_iload_n dX8_hasElement_17 rfl rfl ?_
    refine z_iload_n dX8_hasElement_18 rfl rfl ?_
    have hX := lX1_head 1 (Nat.le_refl _) hT hS hW g1 g3 hw
    refine z_callV (As := [_, _]) eX1_head sX1_head lX8_145 rfl dX8_hasElement_19 (hW.at (hT 42 _ rfl)) hX (Nat.le_trans (by decide) hd) rfl (Nat.le_of_ble_eq_true rfl) (fun r cs hp => ?_)
    obtain ⟨r14, S13, rfl, hw, hW⟩ := hp
    refine z_st (st' := [.int (Int32.ofInt (r14))]) rfl ?_
    refine z_bipush (v := Int32.ofInt (-2)) dX8_hasElement_22 (by decide) ?_
    obtain ⟨q16, hw⟩ := hw
    refine i_icmp_eq (tgt := 31) dX8_hasElement_24 (by decide) q16 ⟨by decide, by decide⟩ (fun h15 => ?_) (fun h15 => ?_)
    · have hw := hw.1 h15
      refine z_iconst (v := Int32.ofInt 0) dX8_hasElement_31 rfl ?_
      exact z_ireturn dX8_hasElement_32 rfl (nar01 (by decide)) (hP _ _ _ hw hW)
    · have hw := hw.2 h15
      refine z_iconst (v := Int32.ofInt 1) dX8_hasElement_27 rfl ?_
      refine z_goto (tgt := 32) dX8_hasElement_28 (by decide) ?_
      exact z_ireturn dX8_hasElement_32 rfl (nar01 (by decide)) (hP _ _ _ hw hW)

def wX8_hasContent_47  (l1 l2 l3 : Int) (S : St) (K : Int → St → Prop) (B11 : Int → Int → Int → St → Prop) : Prop := B11 (l1) (l2) ((l3 + 1)) S
set_option maxRecDepth 100000 in
set_option maxHeartbeats 4000000 in
theorem ubX8_hasContent_47 {G : xG} {v : Nat → Nat} {sh : Nat → Option Sh} {B : Nat × Nat} {c0 : List va_E} {d : Nat} {Post : xP} {l1 l2 l3 : Int} {S : St} {cs : List va_E} {K : Int → St → Prop} {B11 : Int → Int → Int → St → Prop} (hd : 3 ≤ d) (hT : sb shC sh) (hS : ∀ b x, sh b = some x → ¬ isS b) (hU : sb shW sh) (hW : Wv G v sh B c0 S cs) (hP : ∀ (x : Int) (S : St) (cs : List va_E), K x S → Wv G v sh B c0 S cs → Post (some (.int (Int32.ofInt x))) cs) (hB11 : ∀ (l1 : Int) (l2 : Int) (l3 : Int) (S : St) (cs : List va_E), B11 l1 l2 l3 S → Wv G v sh B c0 S cs → Z (RX8, cX8_hasContent, 4, some .boolean, false) G d Post 11 [(0, .ref (G.1 + v 210)), (1, .int (Int32.ofInt (l1))), (2, .int (Int32.ofInt (l2))), (3, .int (Int32.ofInt (l3)))] [] cs) (hw : wX8_hasContent_47 l1 l2 l3 S K B11) : Z (RX8, cX8_hasContent, 4, some .boolean, false) G d Post 47 [(0, .ref (G.1 + v 210)), (1, .int (Int32.ofInt (l1))), (2, .int (Int32.ofInt (l2))), (3, .int (Int32.ofInt (l3)))] [] cs := by
  unfold wX8_hasContent_47 at hw
  refine i_iinc (l := l3) dX8_hasContent_47 rfl (by decide) ?_
  refine z_loc (L' := [(0, .ref (G.1 + v 210)), (1, .int (Int32.ofInt (l1))), (2, .int (Int32.ofInt (l2))), (3, .int (Int32.ofInt ((l3 + 1))))]) (List.forall_mem_cons.mpr ⟨rfl, (List.forall_mem_cons.mpr ⟨rfl, (List.forall_mem_cons.mpr ⟨rfl, (List.forall_mem_cons.mpr ⟨rfl, (fun _ h => nomatch h)⟩)⟩)⟩)⟩) ?_
  refine z_goto (tgt := 11) dX8_hasContent_50 (by decide) ?_
  refine z_loc (L' := [(0, .ref (G.1 + v 210)), (1, .int (Int32.ofInt (l1))), (2, .int (Int32.ofInt (l2))), (3, .int (Int32.ofInt ((l3 + 1))))]) (List.forall_mem_cons.mpr ⟨rfl, (List.forall_mem_cons.mpr ⟨rfl, (List.forall_mem_cons.mpr ⟨rfl, (List.forall_mem_cons.mpr ⟨rfl, (fun _ h => nomatch h)⟩)⟩)⟩)⟩) ?_
  exact hB11 _ _ _ _ _ hw hW
def wX8_hasContent_11'  (l1 l2 l3 : Int) (S : St) (K : Int → St → Prop) (B11 : Int → Int → Int → St → Prop) : Prop := (rng (l2) ∧ (wX4_fieldCount (l2) S (fun r2 S1 => (rng (l3) ∧ (rng (r2) ∧ ((r2 ≤ l3 → K (0) S1) ∧ ((¬ (r2 ≤ l3)) → (wX4_isAttribute (l2) (l3) S1 (fun r8 S7 => (rng (r8) ∧ ((¬ r8 = 0 → wX8_hasContent_47 (l1) (l2) (l3) S7 K B11) ∧ ((¬ (¬ r8 = 0)) → (rng (l1) ∧ (wX8_hasElement (l1) (l2) (l3) S7 (fun r12 S11 => (rng (r12) ∧ ((r12 = 0 → wX8_hasContent_47 (l1) (l2) (l3) S11 K B11) ∧ ((¬ (r12 = 0)) → K (1) S11))))))))))))))))))
set_option maxRecDepth 100000 in
set_option maxHeartbeats 4000000 in
theorem ubX8_hasContent_11' {G : xG} {v : Nat → Nat} {sh : Nat → Option Sh} {B : Nat × Nat} {c0 : List va_E} {d : Nat} {Post : xP} {l1 l2 l3 : Int} {S : St} {cs : List va_E} {K : Int → St → Prop} {B11 : Int → Int → Int → St → Prop} (hd : 3 ≤ d) (hT : sb shC sh) (hS : ∀ b x, sh b = some x → ¬ isS b) (hU : sb shW sh) (hW : Wv G v sh B c0 S cs) (hP : ∀ (x : Int) (S : St) (cs : List va_E), K x S → Wv G v sh B c0 S cs → Post (some (.int (Int32.ofInt x))) cs) (hB11 : ∀ (l1 : Int) (l2 : Int) (l3 : Int) (S : St) (cs : List va_E), B11 l1 l2 l3 S → Wv G v sh B c0 S cs → Z (RX8, cX8_hasContent, 4, some .boolean, false) G d Post 11 [(0, .ref (G.1 + v 210)), (1, .int (Int32.ofInt (l1))), (2, .int (Int32.ofInt (l2))), (3, .int (Int32.ofInt (l3)))] [] cs) (hw : wX8_hasContent_11' l1 l2 l3 S K B11) : Z (RX8, cX8_hasContent, 4, some .boolean, false) G d Post 11 [(0, .ref (G.1 + v 210)), (1, .int (Int32.ofInt (l1))), (2, .int (Int32.ofInt (l2))), (3, .int (Int32.ofInt (l3)))] [] cs := by
  unfold wX8_hasContent_11' at hw
  refine z_iload_n dX8_hasContent_11 rfl rfl ?_
  refine z_aload_n dX8_hasContent_12 rfl rfl ?_
  refine v_getR hW (hU 210 _ rfl) rfl kX8 fX8_38 dX8_hasContent_13 ?_
  refine z_iload_n dX8_hasContent_16 rfl rfl ?_
  obtain ⟨q3, hw⟩ := hw
  have hX := lX4_fieldCount 1 (Nat.le_refl _) hT hS hW q3 hw
  refine z_callV (As := [_]) eX4_fieldCount sX4_fieldCount lX8_126 rfl dX8_hasContent_17 (hW.at (hT 24 _ rfl)) hX (Nat.le_trans (by decide) hd) rfl (Nat.le_of_ble_eq_true rfl) (fun r cs hp => ?_)
  obtain ⟨r2, S1, rfl, hw, hW⟩ := hp
  refine z_st (st' := [.int (Int32.ofInt (r2)), .int (Int32.ofInt (l3))]) rfl ?_
  obtain ⟨q5, hw⟩ := hw
  obtain ⟨q6, hw⟩ := hw
  refine i_icmp_ge (tgt := 53) dX8_hasContent_20 (by decide) q5 q6 (fun h4 => ?_) (fun h4 => ?_)
  · have hw := hw.1 h4
    refine z_iconst (v := Int32.ofInt 0) dX8_hasContent_53 rfl ?_
    exact z_ireturn dX8_hasContent_54 rfl (nar01 (by decide)) (hP _ _ _ hw hW)
  · have hw := hw.2 h4
    refine z_aload_n dX8_hasContent_23 rfl rfl ?_
    refine v_getR hW (hU 210 _ rfl) rfl kX8 fX8_38 dX8_hasContent_24 ?_
    refine z_iload_n dX8_hasContent_27 rfl rfl ?_
    refine z_iload_n dX8_hasContent_28 rfl rfl ?_
    have hX := lX4_isAttribute 1 (Nat.le_refl _) hT hS hW q3 q5 hw
    refine z_callV (As := [_, _]) eX4_isAttribute sX4_isAttribute lX8_129 rfl dX8_hasContent_29 (hW.at (hT 24 _ rfl)) hX (Nat.le_trans (by decide) hd) rfl (Nat.le_of_ble_eq_true rfl) (fun r cs hp => ?_)
    obtain ⟨r8, S7, rfl, hw, hW⟩ := hp
    refine z_st (st' := [.int (Int32.ofInt (r8))]) rfl ?_
    obtain ⟨q10, hw⟩ := hw
    refine i_if_ne (tgt := 47) dX8_hasContent_32 (by decide) q10 (fun h9 => ?_) (fun h9 => ?_)
    · have hw := hw.1 h9
      refine z_loc (L' := [(0, .ref (G.1 + v 210)), (1, .int (Int32.ofInt (l1))), (2, .int (Int32.ofInt (l2))), (3, .int (Int32.ofInt (l3)))]) (List.forall_mem_cons.mpr ⟨rfl, (List.forall_mem_cons.mpr ⟨rfl, (List.forall_mem_cons.mpr ⟨rfl, (List.forall_mem_cons.mpr ⟨rfl, (fun _ h => nomatch h)⟩)⟩)⟩)⟩) ?_
      exact ubX8_hasContent_47 hd hT hS hU hW hP hB11 hw
    · have hw := hw.2 h9
      refine z_aload_n dX8_hasContent_35 rfl rfl ?_
      refine z_iload_n dX8_hasContent_36 rfl rfl ?_
      refine z_iload_n dX8_hasContent_37 rfl rfl ?_
      refine z_iload_n dX8_hasContent_38 rfl rfl ?_
      obtain ⟨q13, hw⟩ := hw
      have hX := lX8_hasElement 2 (Nat.le_refl _) hT hS hU hW q13 q3 q5 hw
      refine z_callV (As := [_, _, _]) eX8_hasElement sX8_hasElement lX8_141 rfl dX8_hasContent_39 (hW.at (hU 210 _ rfl)) hX (Nat.le_trans (by decide) hd) rfl (Nat.le_of_ble_eq_true rfl) (fun r cs hp => ?_)
      obtain ⟨r12, S11, rfl, hw, hW⟩ := hp
      refine z_st (st' := [.int (Int32.ofInt (r12))]) rfl ?_
      obtain ⟨q15, hw⟩ := hw
      refine i_if_eq (tgt := 47) dX8_hasContent_42 (by decide) q15 (fun h14 => ?_) (fun h14 => ?_)
      · have hw := hw.1 h14
        refine z_loc (L' := [(0, .ref (G.1 + v 210)), (1, .int (Int32.ofInt (l1))), (2, .int (Int32.ofInt (l2))), (3, .int (Int32.ofInt (l3)))]) (List.forall_mem_cons.mpr ⟨rfl, (List.forall_mem_cons.mpr ⟨rfl, (List.forall_mem_cons.mpr ⟨rfl, (List.forall_mem_cons.mpr ⟨rfl, (fun _ h => nomatch h)⟩)⟩)⟩)⟩) ?_
        exact ubX8_hasContent_47 hd hT hS hU hW hP hB11 hw
      · have hw := hw.2 h14
        refine z_iconst (v := Int32.ofInt 1) dX8_hasContent_45 rfl ?_
        exact z_ireturn dX8_hasContent_46 rfl (nar01 (by decide)) (hP _ _ _ hw hW)
def wX8_hasContent_11  (l1 l2 l3 : Int) (S : St) (K : Int → St → Prop) : Prop := ∃ (Iv : Int → Int → Int → St → Prop) (mu : Int → Int → Int → St → Nat), Iv l1 l2 l3 S ∧ ∀ (l1 l2 l3 : Int) (S : St), Iv l1 l2 l3 S → wX8_hasContent_11' l1 l2 l3 S K  (fun ml1 ml2 ml3 T => Iv ml1 ml2 ml3 T ∧ mu ml1 ml2 ml3 T < mu l1 l2 l3 S)
set_option maxRecDepth 100000 in
set_option maxHeartbeats 4000000 in
theorem ubX8_hasContent_11 {G : xG} {v : Nat → Nat} {sh : Nat → Option Sh} {B : Nat × Nat} {c0 : List va_E} {d : Nat} {Post : xP} {l1 l2 l3 : Int} {S : St} {cs : List va_E} {K : Int → St → Prop} (hd : 3 ≤ d) (hT : sb shC sh) (hS : ∀ b x, sh b = some x → ¬ isS b) (hU : sb shW sh) (hW : Wv G v sh B c0 S cs) (hP : ∀ (x : Int) (S : St) (cs : List va_E), K x S → Wv G v sh B c0 S cs → Post (some (.int (Int32.ofInt x))) cs)  (hw : wX8_hasContent_11 l1 l2 l3 S K ) : Z (RX8, cX8_hasContent, 4, some .boolean, false) G d Post 11 [(0, .ref (G.1 + v 210)), (1, .int (Int32.ofInt (l1))), (2, .int (Int32.ofInt (l2))), (3, .int (Int32.ofInt (l3)))] [] cs := by
  unfold wX8_hasContent_11 at hw
  obtain ⟨Iv, mu, h0, hs⟩ := hw
  have key : ∀ (n : Nat) (l1 l2 l3 : Int) (S : St) (cs : List va_E), mu l1 l2 l3 S < n → Iv l1 l2 l3 S → Wv G v sh B c0 S cs → Z (RX8, cX8_hasContent, 4, some .boolean, false) G d Post 11 [(0, .ref (G.1 + v 210)), (1, .int (Int32.ofInt (l1))), (2, .int (Int32.ofInt (l2))), (3, .int (Int32.ofInt (l3)))] [] cs := by
    intro n
    induction n with
    | zero => intro l1 l2 l3 S cs hn; exact absurd hn (Nat.not_lt_zero _)
    | succ n ih =>
      intro l1 l2 l3 S cs hn hI hW
      exact ubX8_hasContent_11' hd hT hS hU hW hP  (fun l1 l2 l3 S cs hb hW => ih l1 l2 l3 S cs (Nat.lt_of_lt_of_le hb.2 (Nat.le_of_lt_succ hn)) hb.1 hW) (hs l1 l2 l3 S hI)
  exact key _ _ _ _ _ _ (Nat.lt_succ_self _) h0 hW
def wX8_hasContent  (a1 : Int) (S : St) (K : Int → St → Prop) : Prop := rng a1 → (wX1_classOf (a1) S (fun r2 S1 => wX8_hasContent_11 (a1) (r2) (0) S1 K))
set_option maxRecDepth 100000 in
set_option maxHeartbeats 4000000 in
theorem lX8_hasContent {G : xG} {v : Nat → Nat} {sh : Nat → Option Sh} {B : Nat × Nat} {c0 : List va_E}  {a1 : Int} {S : St} {cs : List va_E} {K : Int → St → Prop} (d : Nat) (hd : 3 ≤ d) (hT : sb shC sh) (hS : ∀ b x, sh b = some x → ¬ isS b) (hU : sb shW sh) (hW : Wv G v sh B c0 S cs) (g1 : rng a1) (hw : wX8_hasContent a1 S K) : X G yX8_hasContent cX8_hasContent 4 (some .boolean) d [.ref (G.1 + v 210), .int (Int32.ofInt a1)] cs (vI G v sh B c0 K) := by
  refine X.of false (by decide +kernel) (by decide) (Nat.le_of_ble_eq_true rfl) ?_
  show Z (RX8, cX8_hasContent, 4, some .boolean, false) G d _ 0 [(0, .ref (G.1 + v 210)), (1, .int (Int32.ofInt a1))] [] cs
  have hP : ∀ (x : Int) (S : St) (cs : List va_E), K x S → Wv G v sh B c0 S cs → vI G v sh B c0 K (some (.int (Int32.ofInt x))) cs := fun x S cs a b => ⟨x, S, rfl, a, b⟩
  unfold wX8_hasContent at hw
  have hw := hw g1
  refine z_aload_n dX8_hasContent_0 rfl rfl ?_
  refine v_getR hW (hU 210 _ rfl) rfl kX8 fX8_42 dX8_hasContent_1 ?_
  refine z_iload_n dX8_hasContent_4 rfl rfl ?_
  have hX := lX1_classOf 1 (Nat.le_refl _) hT hS hW g1 hw
  refine z_callV (As := [_]) eX1_classOf sX1_classOf lX8_99 rfl dX8_hasContent_5 (hW.at (hT 42 _ rfl)) hX (Nat.le_trans (by decide) hd) rfl (Nat.le_of_ble_eq_true rfl) (fun r cs hp => ?_)
  obtain ⟨r2, S1, rfl, hw, hW⟩ := hp
  refine z_st (st' := [.int (Int32.ofInt (r2))]) rfl ?_
  refine z_istore_n dX8_hasContent_8 rfl (by decide) ?_
  refine z_loc (L' := [(0, .ref (G.1 + v 210)), (1, .int (Int32.ofInt (a1))), (2, .int (Int32.ofInt (r2)))]) (List.forall_mem_cons.mpr ⟨rfl, (List.forall_mem_cons.mpr ⟨rfl, (List.forall_mem_cons.mpr ⟨rfl, (fun _ h => nomatch h)⟩)⟩)⟩) ?_
  refine z_iconst (v := Int32.ofInt 0) dX8_hasContent_9 rfl ?_
  refine z_istore_n dX8_hasContent_10 rfl (by decide) ?_
  refine z_loc (L' := [(0, .ref (G.1 + v 210)), (1, .int (Int32.ofInt (a1))), (2, .int (Int32.ofInt (r2))), (3, .int (Int32.ofInt (0)))]) (List.forall_mem_cons.mpr ⟨rfl, (List.forall_mem_cons.mpr ⟨rfl, (List.forall_mem_cons.mpr ⟨rfl, (List.forall_mem_cons.mpr ⟨rfl, (fun _ h => nomatch h)⟩)⟩)⟩)⟩) ?_
  refine z_loc (L' := [(0, .ref (G.1 + v 210)), (1, .int (Int32.ofInt (a1))), (2, .int (Int32.ofInt (r2))), (3, .int (Int32.ofInt (0)))]) (List.forall_mem_cons.mpr ⟨rfl, (List.forall_mem_cons.mpr ⟨rfl, (List.forall_mem_cons.mpr ⟨rfl, (List.forall_mem_cons.mpr ⟨rfl, (fun _ h => nomatch h)⟩)⟩)⟩)⟩) ?_
  exact ubX8_hasContent_11 hd hT hS hU hW hP  hw

