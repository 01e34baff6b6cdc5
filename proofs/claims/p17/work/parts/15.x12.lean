def wX8_reference_84  (S : St) (K : Int → St → Prop) : Prop := (wX5_spell 22 5 S (fun r2 S1 => K 0 S1))
set_option maxRecDepth 100000 in
set_option maxHeartbeats 4000000 in
theorem ubX8_reference_84 {G : xG} {v : Nat → Nat} {sh : Nat → Option Sh} {B : Nat × Nat} {c0 : List va_E} {d : Nat} {Post : xP} {S : St} {cs : List va_E} {K : Int → St → Prop} (hd : 6 ≤ d) (hT : sb shC sh) (hS : ∀ b x, sh b = some x → ¬ isS b) (hU : sb shW sh) (hW : Wv G v sh B c0 S cs) (hP : ∀ (x : Int) (S : St) (cs : List va_E), K x S → Wv G v sh B c0 S cs → Post (none) cs)  (hw : wX8_reference_84  S K ) : Z (RX8, cX8_reference, 5, none, false) G d Post 84 [(0, .ref (G.1 + v 210))] [] cs := by
  unfold wX8_reference_84 at hw
  refine z_aload_n dX8_reference_84 rfl rfl ?_
  refine v_getR hW (hU 210 _ rfl) rfl kX8 fX8_46 dX8_reference_85 ?_
  refine z_ldcS (i := 5) (tx := "\"/>") (by decide +kernel) dX8_reference_88 ?_
  have hX := lX5_spell 4 (Nat.le_refl _) hW (show isS 22 by unfold isS; decide) (fun b x h e => hS b x h (e ▸ (show isS 22 by unfold isS; decide))) (show 5 < xN by decide)  hw
  refine z_callV (As := [_]) eX5_spell sX5_spell lX8_85 rfl dX8_reference_90 (hW.sg (show isS 22 by unfold isS; decide) (fun b x h e => hS b x h (e ▸ (show isS 22 by unfold isS; decide)))).choose_spec.choose_spec.choose_spec.choose_spec.1.choose_spec.1 hX (Nat.le_trans (by decide) hd) rfl (Nat.le_of_ble_eq_true rfl) (fun r cs hp => ?_)
  obtain ⟨r2, S1, rfl, hw, hW⟩ := hp
  refine z_st (st' := []) rfl ?_
  exact z_return dX8_reference_93 rfl (hP 0 _ _ hw hW)
def wX8_reference  (a1 a2 a3 : Int) (S : St) (K : Int → St → Prop) : Prop := rng a1 → rng a2 → rng a3 → (wX8_nameOf (a1) (a2) (a3) S (fun r2 S1 => (wX5_put 22 (60) S1 (fun r4 S3 => (rng (r2) ∧ (wX4_spellTo (r2) S3 (fun r6 S5 => (wX5_spell 22 2 S5 (fun r9 S8 => (iv (-2147483648) 2147483647 (S8.1 210 3) → ((¬ S8.1 210 3 = 2 → ((¬ S8.1 210 3 = 0 → (wX8_path (a1) S8 (fun r14 S13 => wX8_reference_84 S13 K))) ∧ ((¬ (¬ S8.1 210 3 = 0)) → (wX8_way (a1) (a2) (a3) S8 (fun r16 S15 => wX8_reference_84 S15 K))))) ∧ ((¬ (¬ S8.1 210 3 = 2)) → ((0 : Int) ≤ a1 ∧ a1 < (30 : Int) ∧ (iv (-2147483648) 2147483647 (S8.2 211 (a1)) → (wX8_number (S8.2 211 (a1)) S8 (fun r20 S19 => wX8_reference_84 S19 K))))))))))))))))
set_option maxRecDepth 100000 in
set_option maxHeartbeats 4000000 in
theorem lX8_reference {G : xG} {v : Nat → Nat} {sh : Nat → Option Sh} {B : Nat × Nat} {c0 : List va_E}  {a1 a2 a3 : Int} {S : St} {cs : List va_E} {K : Int → St → Prop} (d : Nat) (hd : 6 ≤ d) (hT : sb shC sh) (hS : ∀ b x, sh b = some x → ¬ isS b) (hU : sb shW sh) (hW : Wv G v sh B c0 S cs) (g1 : rng a1) (g2 : rng a2) (g3 : rng a3) (hw : wX8_reference a1 a2 a3 S K) : X G yX8_reference cX8_reference 5 none d [.ref (G.1 + v 210), .int (Int32.ofInt a1), .int (Int32.ofInt a2), .int (Int32.ofInt a3)] cs (vV G v sh B c0 K) := by
  refine X.of false (by decide +kernel) (by decide) (Nat.le_of_ble_eq_true rfl) ?_
  show Z (RX8, cX8_reference, 5, none, false) G d _ 0 [(0, .ref (G.1 + v 210)), (1, .int (Int32.ofInt a1)), (2, .int (Int32.ofInt a2)), (3, .int (Int32.ofInt a3))] [] cs
  have hP : ∀ (x : Int) (S : St) (cs : List va_E), K x S → Wv G v sh B c0 S cs → vV G v sh B c0 K (none) cs := fun x S cs a b => ⟨x, S, rfl, a, b⟩
  unfold wX8_reference at hw
  have hw := hw g1 g2 g3
  refine z_aload_n dX8_reference_0 rfl rfl ?_
  refine z_iload_n dX8_reference_1 rfl rfl ?_
  refine z_iload_n dX8_reference_2 rfl rfl ?_
  refine z_iload_n dX8_reference_3 rfl rfl ?_
  have hX := lX8_nameOf 2 (Nat.le_refl _) hT hS hU hW g1 g2 g3 hw
  refine z_callV (As := [_, _, _]) eX8_nameOf sX8_nameOf lX8_72 rfl dX8_reference_4 (hW.at (hU 210 _ rfl)) hX (Nat.le_trans (by decide) hd) rfl (Nat.le_of_ble_eq_true rfl) (fun r cs hp => ?_)
  obtain ⟨r2, S1, rfl, hw, hW⟩ := hp
  refine z_st (st' := [.int (Int32.ofInt (r2))]) rfl ?_
  refine z_istore dX8_reference_7 (by decide) ?_
  refine z_loc (L' := [(0, .ref (G.1 + v 210)), (1, .int (Int32.ofInt (a1))), (2, .int (Int32.ofInt (a2))), (3, .int (Int32.ofInt (a3))), (4, .int (Int32.ofInt (r2)))]) (List.forall_mem_cons.mpr ⟨rfl, (List.forall_mem_cons.mpr ⟨rfl, (List.forall_mem_cons.mpr ⟨rfl, (List.forall_mem_cons.mpr ⟨rfl, (List.forall_mem_cons.mpr ⟨rfl, (fun _ h => nomatch h)⟩)⟩)⟩)⟩)⟩) ?_
  refine z_aload_n dX8_reference_9 rfl rfl ?_
  refine v_getR hW (hU 210 _ rfl) rfl kX8 fX8_46 dX8_reference_10 ?_
  refine z_bipush (v := Int32.ofInt 60) dX8_reference_13 (by decide) ?_
  have hX := lX5_put 1 (Nat.le_refl _) hW (show isS 22 by unfold isS; decide) (fun b x h e => hS b x h (e ▸ (show isS 22 by unfold isS; decide))) ⟨by decide, by decide⟩ hw
  refine z_callV (As := [_]) eX5_put sX5_put lX8_89 rfl dX8_reference_15 (hW.sg (show isS 22 by unfold isS; decide) (fun b x h e => hS b x h (e ▸ (show isS 22 by unfold isS; decide)))).choose_spec.choose_spec.choose_spec.choose_spec.1.choose_spec.1 hX (Nat.le_trans (by decide) hd) rfl (Nat.le_of_ble_eq_true rfl) (fun r cs hp => ?_)
  obtain ⟨r4, S3, rfl, hw, hW⟩ := hp
  refine z_st (st' := [.int (Int32.ofInt (r4))]) rfl ?_
  refine z_pop dX8_reference_18 rfl ?_
  refine z_aload_n dX8_reference_19 rfl rfl ?_
  refine v_getR hW (hU 210 _ rfl) rfl kX8 fX8_38 dX8_reference_20 ?_
  refine z_aload_n dX8_reference_23 rfl rfl ?_
  refine v_getR hW (hU 210 _ rfl) rfl kX8 fX8_46 dX8_reference_24 ?_
  refine z_iload dX8_reference_27 rfl ?_
  obtain ⟨q7, hw⟩ := hw
  have hX := lX4_spellTo 2 (Nat.le_refl _) hT hS hW q7 hw
  refine z_callV (As := [_, _]) eX4_spellTo sX4_spellTo lX8_112 rfl dX8_reference_29 (hW.at (hT 24 _ rfl)) hX (Nat.le_trans (by decide) hd) rfl (Nat.le_of_ble_eq_true rfl) (fun r cs hp => ?_)
  obtain ⟨r6, S5, rfl, hw, hW⟩ := hp
  refine z_st (st' := []) rfl ?_
  refine z_aload_n dX8_reference_32 rfl rfl ?_
  refine v_getR hW (hU 210 _ rfl) rfl kX8 fX8_46 dX8_reference_33 ?_
  refine z_ldcS (i := 2) (tx := " reference=\"") (by decide +kernel) dX8_reference_36 ?_
  have hX := lX5_spell 4 (Nat.le_refl _) hW (show isS 22 by unfold isS; decide) (fun b x h e => hS b x h (e ▸ (show isS 22 by unfold isS; decide))) (show 2 < xN by decide)  hw
  refine z_callV (As := [_]) eX5_spell sX5_spell lX8_85 rfl dX8_reference_38 (hW.sg (show isS 22 by unfold isS; decide) (fun b x h e => hS b x h (e ▸ (show isS 22 by unfold isS; decide)))).choose_spec.choose_spec.choose_spec.choose_spec.1.choose_spec.1 hX (Nat.le_trans (by decide) hd) rfl (Nat.le_of_ble_eq_true rfl) (fun r cs hp => ?_)
  obtain ⟨r9, S8, rfl, hw, hW⟩ := hp
  refine z_st (st' := []) rfl ?_
  refine z_aload_n dX8_reference_41 rfl rfl ?_
  have q10 : iv (-2147483648) 2147483647 (S8.1 210 3) := hW.iI 210 3
  have hw := hw q10
  refine v_getI hW (hU 210 _ rfl) rfl kX8 fX8_50 dX8_reference_42 ?_
  refine z_iconst (v := Int32.ofInt 2) dX8_reference_45 rfl ?_
  refine i_icmp_ne (tgt := 62) dX8_reference_46 (by decide) (rngq q10 (by decide) (by decide)) ⟨by decide, by decide⟩ (fun h11 => ?_) (fun h11 => ?_)
  · have hw := hw.1 h11
    refine z_aload_n dX8_reference_62 rfl rfl ?_
    refine v_getI hW (hU 210 _ rfl) rfl kX8 fX8_50 dX8_reference_63 ?_
    refine i_if_ne (tgt := 79) dX8_reference_66 (by decide) (rngq q10 (by decide) (by decide)) (fun h12 => ?_) (fun h12 => ?_)
    · have hw := hw.1 h12
      refine z_aload_n dX8_reference_79 rfl rfl ?_
      refine z_iload_n dX8_reference_80 rfl rfl ?_
      have hX := lX8_path 4 (Nat.le_refl _) hT hS hU hW g1 hw
      refine z_callV (As := [_]) eX8_path sX8_path lX8_186 rfl dX8_reference_81 (hW.at (hU 210 _ rfl)) hX (Nat.le_trans (by decide) hd) rfl (Nat.le_of_ble_eq_true rfl) (fun r cs hp => ?_)
      obtain ⟨r14, S13, rfl, hw, hW⟩ := hp
      refine z_st (st' := []) rfl ?_
      refine z_loc (L' := [(0, .ref (G.1 + v 210))]) (List.forall_mem_cons.mpr ⟨rfl, (fun _ h => nomatch h)⟩) ?_
      exact ubX8_reference_84 hd hT hS hU hW hP  hw
    · have hw := hw.2 h12
      refine z_aload_n dX8_reference_69 rfl rfl ?_
      refine z_iload_n dX8_reference_70 rfl rfl ?_
      refine z_iload_n dX8_reference_71 rfl rfl ?_
      refine z_iload_n dX8_reference_72 rfl rfl ?_
      have hX := lX8_way 5 (Nat.le_refl _) hT hS hU hW g1 g2 g3 hw
      refine z_callV (As := [_, _, _]) eX8_way sX8_way lX8_183 rfl dX8_reference_73 (hW.at (hU 210 _ rfl)) hX (Nat.le_trans (by decide) hd) rfl (Nat.le_of_ble_eq_true rfl) (fun r cs hp => ?_)
      obtain ⟨r16, S15, rfl, hw, hW⟩ := hp
      refine z_st (st' := []) rfl ?_
      refine z_goto (tgt := 84) dX8_reference_76 (by decide) ?_
      refine z_loc (L' := [(0, .ref (G.1 + v 210))]) (List.forall_mem_cons.mpr ⟨rfl, (fun _ h => nomatch h)⟩) ?_
      exact ubX8_reference_84 hd hT hS hU hW hP  hw
  · have hw := hw.2 h11
    refine z_aload_n dX8_reference_49 rfl rfl ?_
    refine z_aload_n dX8_reference_50 rfl rfl ?_
    refine v_getR hW (hU 210 _ rfl) rfl kX8 fX8_9 dX8_reference_51 ?_
    refine z_iload_n dX8_reference_54 rfl rfl ?_
    obtain ⟨q17a, q17b, hw⟩ := hw
    have q18 : iv (-2147483648) 2147483647 (S8.2 211 (a1)) := hW.iA 211 _
    have hw := hw q18
    refine v_iald hW (hU 211 _ rfl) q17a q17b (by decide) dX8_reference_55 ?_
    have hX := lX8_number 2 (Nat.le_refl _) hT hS hU hW (rngq q18 (by decide) (by decide)) hw
    refine z_callV (As := [_]) eX8_number sX8_number lX8_123 rfl dX8_reference_56 (hW.at (hU 210 _ rfl)) hX (Nat.le_trans (by decide) hd) rfl (Nat.le_of_ble_eq_true rfl) (fun r cs hp => ?_)
    obtain ⟨r20, S19, rfl, hw, hW⟩ := hp
    refine z_st (st' := []) rfl ?_
    refine z_goto (tgt := 84) dX8_reference_59 (by decide) ?_
    refine z_loc (L' := [(0, .ref (G.1 + v 210))]) (List.forall_mem_cons.mpr ⟨rfl, (fun _ h => nomatch h)⟩) ?_
    exact ubX8_reference_84 hd hT hS hU hW hP  hw

def wX8_element_158' (E : Int → Int → Int → Int → Int → St → (Int → St → Prop) → Prop)  (l1 l5 l6 l7 : Int) (S : St) (K : Int → St → Prop) (B158 : Int → Int → Int → Int → St → Prop) : Prop := (rng (l7) ∧ ((4 ≤ l7 → (rng (l6) ∧ (wX8_endTag (l6) S (fun r4 S3 => K 0 S3)))) ∧ ((¬ (4 ≤ l7)) → (rng (l1) ∧ (rng (l5) ∧ (wX8_content E (l1) (l7) (l5) S (fun r7 S6 => B158 (l1) (l5) (l6) ((l7 + 1)) S6)))))))
set_option maxRecDepth 100000 in
set_option maxHeartbeats 4000000 in
theorem ubX8_element_158' {G : xG} {v : Nat → Nat} {sh : Nat → Option Sh} {B : Nat × Nat} {c0 : List va_E} {E : Int → Int → Int → Int → Int → St → (Int → St → Prop) → Prop} {dE : Nat} {d : Nat} {Post : xP} {l1 l5 l6 l7 : Int} {S : St} {cs : List va_E} {K : Int → St → Prop} {B158 : Int → Int → Int → Int → St → Prop} (hE : ∀ (a1 a2 a3 a4 a5 : Int) (S : St) (cs : List va_E) (K : Int → St → Prop), rng a1 → rng a2 → rng a3 → rng a4 → rng a5 → Wv G v sh B c0 S cs → E a1 a2 a3 a4 a5 S K → X G yX8_element cX8_element 8 none dE [.ref (G.1 + v 210), .int (Int32.ofInt a1), .int (Int32.ofInt a2), .int (Int32.ofInt a3), .int (Int32.ofInt a4), .int (Int32.ofInt a5)] cs (vV G v sh B c0 K)) (hdE : 12 ≤ dE) (hd : dE + 3 ≤ d) (hT : sb shC sh) (hS : ∀ b x, sh b = some x → ¬ isS b) (hU : sb shW sh) (hW : Wv G v sh B c0 S cs) (hP : ∀ (x : Int) (S : St) (cs : List va_E), K x S → Wv G v sh B c0 S cs → Post (none) cs) (hB158 : ∀ (l1 : Int) (l5 : Int) (l6 : Int) (l7 : Int) (S : St) (cs : List va_E), B158 l1 l5 l6 l7 S → Wv G v sh B c0 S cs → Z (RX8, cX8_element, 8, none, false) G d Post 158 [(0, .ref (G.1 + v 210)), (1, .int (Int32.ofInt (l1))), (5, .int (Int32.ofInt (l5))), (6, .int (Int32.ofInt (l6))), (7, .int (Int32.ofInt (l7)))] [] cs) (hw : wX8_element_158' E l1 l5 l6 l7 S K B158) : Z (RX8, cX8_element, 8, none, false) G d Post 158 [(0, .ref (G.1 + v 210)), (1, .int (Int32.ofInt (l1))), (5, .int (Int32.ofInt (l5))), (6, .int (Int32.ofInt (l6))), (7, .int (Int32.ofInt (l7)))] [] cs := by
  unfold wX8_element_158' at hw
  refine z_iload dX8_element_158 rfl ?_
  refine z_iconst (v := Int32.ofInt 4) dX8_element_160 rfl ?_
  obtain ⟨q2, hw⟩ := hw
  refine i_icmp_ge (tgt := 179) dX8_element_161 (by decide) q2 ⟨by decide, by decide⟩ (fun h1 => ?_) (fun h1 => ?_)
  · have hw := hw.1 h1
    refine z_aload_n dX8_element_179 rfl rfl ?_
    refine z_iload dX8_element_180 rfl ?_
    obtain ⟨q5, hw⟩ := hw
    have hX := lX8_endTag 5 (Nat.le_refl _) hT hS hU hW q5 hw
    refine z_callV (As := [_]) eX8_endTag sX8_endTag lX8_95 rfl dX8_element_182 (hW.at (hU 210 _ rfl)) hX (Nat.le_trans (Nat.le_trans (by decide) (Nat.add_le_add_right hdE _)) hd) rfl (Nat.le_of_ble_eq_true rfl) (fun r cs hp => ?_)
    obtain ⟨r4, S3, rfl, hw, hW⟩ := hp
    refine z_st (st' := []) rfl ?_
    exact z_return dX8_element_185 rfl (hP 0 _ _ hw hW)
  · have hw := hw.2 h1
    refine z_aload_n dX8_element_164 rfl rfl ?_
    refine z_iload_n dX8_element_165 rfl rfl ?_
    refine z_iload dX8_element_166 rfl ?_
    refine z_iload dX8_element_168 rfl ?_
    obtain ⟨q8, hw⟩ := hw
    obtain ⟨q9, hw⟩ := hw
    have hX := lX8_content hE hdE (dE + 2) (Nat.le_refl _) hT hS hU hW q8 q2 q9 hw
    refine z_callV (As := [_, _, _]) eX8_content sX8_content lX8_92 rfl dX8_element_170 (hW.at (hU 210 _ rfl)) hX (Nat.le_trans (Nat.add_le_add_left (show 3 ≤ 3 by decide) dE) hd) rfl (Nat.le_of_ble_eq_true rfl) (fun r cs hp => ?_)
    obtain ⟨r7, S6, rfl, hw, hW⟩ := hp
    refine z_st (st' := []) rfl ?_
    refine i_iinc (l := l7) dX8_element_173 rfl (by decide) ?_
    refine z_loc (L' := [(0, .ref (G.1 + v 210)), (1, .int (Int32.ofInt (l1))), (5, .int (Int32.ofInt (l5))), (6, .int (Int32.ofInt (l6))), (7, .int (Int32.ofInt ((l7 + 1))))]) (List.forall_mem_cons.mpr ⟨rfl, (List.forall_mem_cons.mpr ⟨rfl, (List.forall_mem_cons.mpr ⟨rfl, (List.forall_mem_cons.mpr ⟨rfl, (List.forall_mem_cons.mpr ⟨rfl, (fun _ h => nomatch h)⟩)⟩)⟩)⟩)⟩) ?_
    refine z_goto (tgt := 158) dX8_element_176 (by decide) ?_
    refine z_loc (L' := [(0, .ref (G.1 + v 210)), (1, .int (Int32.ofInt (l1))), (5, .int (Int32.ofInt (l5))), (6, .int (Int32.ofInt (l6))), (7, .int (Int32.ofInt ((l7 + 1))))]) (List.forall_mem_cons.mpr ⟨rfl, (List.forall_mem_cons.mpr ⟨rfl, (List.forall_mem_cons.mpr ⟨rfl, (List.forall_mem_cons.mpr ⟨rfl, (List.forall_mem_cons.mpr ⟨rfl, (fun _ h => nomatch h)⟩)⟩)⟩)⟩)⟩) ?_
    exact hB158 _ _ _ _ _ _ hw hW
def wX8_element_158 (E : Int → Int → Int → Int → Int → St → (Int → St → Prop) → Prop)  (l1 l5 l6 l7 : Int) (S : St) (K : Int → St → Prop) : Prop := ∃ (Iv : Int → Int → Int → Int → St → Prop) (mu : Int → Int → Int → Int → St → Nat), Iv l1 l5 l6 l7 S ∧ ∀ (l1 l5 l6 l7 : Int) (S : St), Iv l1 l5 l6 l7 S → wX8_element_158' E l1 l5 l6 l7 S K  (fun ml1 ml5 ml6 ml7 T => Iv ml1 ml5 ml6 ml7 T ∧ mu ml1 ml5 ml6 ml7 T < mu l1 l5 l6 l7 S)
set_option maxRecDepth 100000 in
set_option maxHeartbeats 4000000 in
theorem ubX8_element_158 {G : xG} {v : Nat → Nat} {sh : Nat → Option Sh} {B : Nat × Nat} {c0 : List va_E} {E : Int → Int → Int → Int → Int → St → (Int → St → Prop) → Prop} {dE : Nat} {d : Nat} {Post : xP} {l1 l5 l6 l7 : Int} {S : St} {cs : List va_E} {K : Int → St → Prop} (hE : ∀ (a1 a2 a3 a4 a5 : Int) (S : St) (cs : List va_E) (K : Int → St → Prop), rng a1 → rng a2 → rng a3 → rng a4 → rng a5 → Wv G v sh B c0 S cs → E a1 a2 a3 a4 a5 S K → X G yX8_element cX8_element 8 none dE [.ref (G.1 + v 210), .int (Int32.ofInt a1), .int (Int32.ofInt a2), .int (Int32.ofInt a3), .int (Int32.ofInt a4), .int (Int32.ofInt a5)] cs (vV G v sh B c0 K)) (hdE : 12 ≤ dE) (hd : dE + 3 ≤ d) (hT : sb shC sh) (hS : ∀ b x, sh b = some x → ¬ isS b) (hU : sb shW sh) (hW : Wv G v sh B c0 S cs) (hP : ∀ (x : Int) (S : St) (cs : List va_E), K x S → Wv G v sh B c0 S cs → Post (none) cs)  (hw : wX8_element_158 E l1 l5 l6 l7 S K ) : Z (RX8, cX8_element, 8, none, false) G d Post 158 [(0, .ref (G.1 + v 210)), (1, .int (Int32.ofInt (l1))), (5, .int (Int32.ofInt (l5))), (6, .int (Int32.ofInt (l6))), (7, .int (Int32.ofInt (l7)))] [] cs := by
  unfold wX8_element_158 at hw
  obtain ⟨Iv, mu, h0, hs⟩ := hw
  have key : ∀ (n : Nat) (l1 l5 l6 l7 : Int) (S : St) (cs : List va_E), mu l1 l5 l6 l7 S < n → Iv l1 l5 l6 l7 S → Wv G v sh B c0 S cs → Z (RX8, cX8_element, 8, none, false) G d Post 158 [(0, .ref (G.1 + v 210)), (1, .int (Int32.ofInt (l1))), (5, .int (Int32.ofInt (l5))), (6, .int (Int32.ofInt (l6))), (7, .int (Int32.ofInt (l7)))] [] cs := by
    intro n
    induction n with
    | zero => intro l1 l5 l6 l7 S cs hn; exact absurd hn (Nat.not_lt_zero _)
    | succ n ih =>
      intro l1 l5 l6 l7 S cs hn hI hW
      exact ubX8_element_158' hE hdE hd hT hS hU hW hP  (fun l1 l5 l6 l7 S cs hb hW => ih l1 l5 l6 l7 S cs (Nat.lt_of_lt_of_le hb.2 (Nat.le_of_lt_succ hn)) hb.1 hW) (hs l1 l5 l6 l7 S hI)
  exact key _ _ _ _ _ _ _ (Nat.lt_succ_self _) h0 hW
def wX8_element_54 (E : Int → Int → Int → Int → Int → St → (Int → St → Prop) → Prop)  (l1 l2 l3 l4 l5 : Int) (S : St) (K : Int → St → Prop) : Prop := (iv 1 20 (S.1 210 4) → (rng (l5) ∧ ((l5 < S.1 210 4 → (iv (-2147483648) 2147483647 (S.1 210 11) → (iv (-2147483648) 2147483647 ((S.1 210 11 + 1)) ∧ (∀ S5, S5 = pI S 210 11 ((S.1 210 11 + 1)) → (iv (-2147483648) 2147483647 (S5.1 210 11) → ((0 : Int) ≤ l1 ∧ l1 < (30 : Int) ∧ (∀ S9, S9 = pA S5 211 (l1) (S5.1 210 11) → ((0 : Int) ≤ l1 ∧ l1 < (30 : Int) ∧ (iv (-2147483648) 2147483647 (l2) ∧ (∀ S11, S11 = pA S9 212 (l1) (l2) → ((0 : Int) ≤ l1 ∧ l1 < (30 : Int) ∧ (iv (-2147483648) 2147483647 (l3) ∧ (∀ S14, S14 = pA S11 213 (l1) (l3) → ((0 : Int) ≤ l1 ∧ l1 < (30 : Int) ∧ (iv 0 7 (l4) ∧ (∀ S17, S17 = pA S14 214 (l1) (l4) → (rng (l1) ∧ (wX8_nameOf (l1) (l2) (l3) S17 (fun r20 S19 => (rng (r20) ∧ (wX8_startTag (l1) (r20) S19 (fun r23 S22 => (wX8_hasContent (l1) S22 (fun r26 S25 => (rng (r26) ∧ ((¬ r26 = 0 → (wX5_put 22 (62) S25 (fun r30 S29 => wX8_element_158 E (l1) (l5) (r20) (0) S29 K))) ∧ ((¬ (¬ r26 = 0)) → (wX5_spell 22 13 S25 (fun r32 S31 => K 0 S31))))))))))))))))))))))))))))) ∧ ((¬ (l5 < S.1 210 4)) → (∀ S33, S33 = pI S 210 12 (1) → K 0 S33)))))
set_option maxRecDepth 100000 in
set_option maxHeartbeats 4000000 in
theorem ubX8_element_54 {G : xG} {v : Nat → Nat} {sh : Nat → Option Sh} {B : Nat × Nat} {c0 : List va_E} {E : Int → Int → Int → Int → Int → St → (Int → St → Prop) → Prop} {dE : Nat} {d : Nat} {Post : xP} {l1 l2 l3 l4 l5 : Int} {S : St} {cs : List va_E} {K : Int → St → Prop} (hE : ∀ (a1 a2 a3 a4 a5 : Int) (S : St) (cs : List va_E) (K : Int → St → Prop), rng a1 → rng a2 → rng a3 → rng a4 → rng a5 → Wv G v sh B c0 S cs → E a1 a2 a3 a4 a5 S K → X G yX8_element cX8_element 8 none dE [.ref (G.1 + v 210), .int (Int32.ofInt a1), .int (Int32.ofInt a2), .int (Int32.ofInt a3), .int (Int32.ofInt a4), .int (Int32.ofInt a5)] cs (vV G v sh B c0 K)) (hdE : 12 ≤ dE) (hd : dE + 3 ≤ d) (hT : sb shC sh) (hS : ∀ b x, sh b = some x → ¬ isS b) (hU : sb shW sh) (hW : Wv G v sh B c0 S cs) (hP : ∀ (x : Int) (S : St) (cs : List va_E), K x S → Wv G v sh B c0 S cs → Post (none) cs)  (hw : wX8_element_54 E l1 l2 l3 l4 l5 S K ) : Z (RX8, cX8_element, 8, none, false) G d Post 54 [(0, .ref (G.1 + v 210)), (1, .int (Int32.ofInt (l1))), (2, .int (Int32.ofInt (l2))), (3, .int (Int32.ofInt (l3))), (4, .int (Int32.ofInt (l4))), (5, .int (Int32.ofInt (l5)))] [] cs := by
  unfold wX8_element_54 at hw
  refine z_iload dX8_element_54 rfl ?_
  refine z_aload_n dX8_element_56 rfl rfl ?_
  have q1 : iv 1 20 (S.1 210 4) := hW.iI 210 4
  have hw := hw q1
  refine v_getI hW (hU 210 _ rfl) rfl kX8 fX8_53 dX8_element_57 ?_
  obtain ⟨q3, hw⟩ := hw
  refine i_icmp_lt (tgt := 69) dX8_element_60 (by decide) q3 (rngq q1 (by decide) (by decide)) (fun h2 => ?_) (fun h2 => ?_)
  · have hw := hw.1 h2
    refine z_aload_n dX8_element_69 rfl rfl ?_
    refine z_dup dX8_element_70 rfl ?_
    have q4 : iv (-2147483648) 2147483647 (S.1 210 11) := hW.iI 210 11
    have hw := hw q4
    refine v_getI hW (hU 210 _ rfl) rfl kX8 fX8_30 dX8_element_71 ?_
    refine z_iconst (v := Int32.ofInt 1) dX8_element_74 rfl ?_
    refine i_iadd dX8_element_75 ?_
    obtain ⟨q6, hw⟩ := hw
    refine v_putI hW (hU 210 _ rfl) (by decide) (by unfold isS; decide) rfl kX8 fX8_30 dX8_element_76 rfl rfl rfl q6 (fun cs hW => ?_)
    obtain ⟨S5, hS5⟩ : ∃ x, x = pI S 210 11 ((S.1 210 11 + 1)) := ⟨_, rfl⟩
    rw [← hS5] at hW
    have hw := hw S5 hS5
    refine z_aload_n dX8_element_79 rfl rfl ?_
    refine v_getR hW (hU 210 _ rfl) rfl kX8 fX8_9 dX8_element_80 ?_
    refine z_iload_n dX8_element_83 rfl rfl ?_
    refine z_aload_n dX8_element_84 rfl rfl ?_
    have q7 : iv (-2147483648) 2147483647 (S5.1 210 11) := hW.iI 210 11
    have hw := hw q7
    refine v_getI hW (hU 210 _ rfl) rfl kX8 fX8_30 dX8_element_85 ?_
    obtain ⟨q8a, q8b, hw⟩ := hw
    refine v_iast hW (hU 211 _ rfl) (by decide) (by unfold isS; decide) q8a q8b (by decide) q7 dX8_element_88 (fun cs hW => ?_)
    obtain ⟨S9, hS9⟩ : ∃ x, x = pA S5 211 (l1) (S5.1 210 11) := ⟨_, rfl⟩
    rw [← hS9] at hW
    have hw := hw S9 hS9
    refine z_aload_n dX8_element_89 rfl rfl ?_
    refine v_getR hW (hU 210 _ rfl) rfl kX8 fX8_15 dX8_element_90 ?_
    refine z_iload_n dX8_element_93 rfl rfl ?_
    refine z_iload_n dX8_element_94 rfl rfl ?_
    obtain ⟨q10a, q10b, hw⟩ := hw
    obtain ⟨q12, hw⟩ := hw
    refine v_iast hW (hU 212 _ rfl) (by decide) (by unfold isS; decide) q10a q10b (by decide) q12 dX8_element_95 (fun cs hW => ?_)
    obtain ⟨S11, hS11⟩ : ∃ x, x = pA S9 212 (l1) (l2) := ⟨_, rfl⟩
    rw [← hS11] at hW
    have hw := hw S11 hS11
    refine z_aload_n dX8_element_96 rfl rfl ?_
    refine v_getR hW (hU 210 _ rfl) rfl kX8 fX8_18 dX8_element_97 ?_
    refine z_iload_n dX8_element_100 rfl rfl ?_
    refine z_iload_n dX8_element_101 rfl rfl ?_
    obtain ⟨q13a, q13b, hw⟩ := hw
    obtain ⟨q15, hw⟩ := hw
    refine v_iast hW (hU 213 _ rfl) (by decide) (by unfold isS; decide) q13a q13b (by decide) q15 dX8_element_102 (fun cs hW => ?_)
    obtain ⟨S14, hS14⟩ : ∃ x, x = pA S11 213 (l1) (l3) := ⟨_, rfl⟩
    rw [← hS14] at hW
    have hw := hw S14 hS14
    refine z_aload_n dX8_element_103 rfl rfl ?_
    refine v_getR hW (hU 210 _ rfl) rfl kX8 fX8_21 dX8_element_104 ?_
    refine z_iload_n dX8_element_107 rfl rfl ?_
    refine z_iload dX8_element_108 rfl ?_
    obtain ⟨q16a, q16b, hw⟩ := hw
    obtain ⟨q18, hw⟩ := hw
    refine v_iast hW (hU 214 _ rfl) (by decide) (by unfold isS; decide) q16a q16b (by decide) q18 dX8_element_110 (fun cs hW => ?_)
    obtain ⟨S17, hS17⟩ : ∃ x, x = pA S14 214 (l1) (l4) := ⟨_, rfl⟩
    rw [← hS17] at hW
    have hw := hw S17 hS17
    refine z_aload_n dX8_element_111 rfl rfl ?_
    refine z_iload_n dX8_element_112 rfl rfl ?_
    refine z_iload_n dX8_element_113 rfl rfl ?_
    refine z_iload_n dX8_element_114 rfl rfl ?_
    obtain ⟨q21, hw⟩ := hw
    have hX := lX8_nameOf 2 (Nat.le_refl _) hT hS hU hW q21 (rngq q12 (by decide) (by decide)) (rngq q15 (by decide) (by decide)) hw
    refine z_callV (As := [_, _, _]) eX8_nameOf sX8_nameOf lX8_72 rfl dX8_element_115 (hW.at (hU 210 _ rfl)) hX (Nat.le_trans (Nat.le_trans (by decide) (Nat.add_le_add_right hdE _)) hd) rfl (Nat.le_of_ble_eq_true rfl) (fun r cs hp => ?_)
    obtain ⟨r20, S19, rfl, hw, hW⟩ := hp
    refine z_st (st' := [.int (Int32.ofInt (r20))]) rfl ?_
    refine z_istore dX8_element_118 (by decide) ?_
    refine z_loc (L' := [(0, .ref (G.1 + v 210)), (1, .int (Int32.ofInt (l1))), (2, .int (Int32.ofInt (l2))), (3, .int (Int32.ofInt (l3))), (4, .int (Int32.ofInt (l4))), (5, .int (Int32.ofInt (l5))), (6, .int (Int32.ofInt (r20)))]) (List.forall_mem_cons.mpr ⟨rfl, (List.forall_mem_cons.mpr ⟨rfl, (List.forall_mem_cons.mpr ⟨rfl, (List.forall_mem_cons.mpr ⟨rfl, (List.forall_mem_cons.mpr ⟨rfl, (List.forall_mem_cons.mpr ⟨rfl, (List.forall_mem_cons.mpr ⟨rfl, (fun _ h => nomatch h)⟩)⟩)⟩)⟩)⟩)⟩)⟩) ?_
    refine z_aload_n dX8_element_120 rfl rfl ?_
    refine z_iload_n dX8_element_121 rfl rfl ?_
    refine z_iload dX8_element_122 rfl ?_
    obtain ⟨q24, hw⟩ := hw
    have hX := lX8_startTag 7 (Nat.le_refl _) hT hS hU hW q21 q24 hw
    refine z_callV (As := [_, _]) eX8_startTag sX8_startTag lX8_76 rfl dX8_element_124 (hW.at (hU 210 _ rfl)) hX (Nat.le_trans (Nat.le_trans (by decide) (Nat.add_le_add_right hdE _)) hd) rfl (Nat.le_of_ble_eq_true rfl) (fun r cs hp => ?_)
    obtain ⟨r23, S22, rfl, hw, hW⟩ := hp
    refine z_st (st' := []) rfl ?_
    refine z_aload_n dX8_element_127 rfl rfl ?_
    refine z_iload_n dX8_element_128 rfl rfl ?_
    have hX := lX8_hasContent 3 (Nat.le_refl _) hT hS hU hW q21 hw
    refine z_callV (As := [_]) eX8_hasContent sX8_hasContent lX8_80 rfl dX8_element_129 (hW.at (hU 210 _ rfl)) hX (Nat.le_trans (Nat.le_trans (by decide) (Nat.add_le_add_right hdE _)) hd) rfl (Nat.le_of_ble_eq_true rfl) (fun r cs hp => ?_)
    obtain ⟨r26, S25, rfl, hw, hW⟩ := hp
    refine z_st (st' := [.int (Int32.ofInt (r26))]) rfl ?_
    obtain ⟨q28, hw⟩ := hw
    refine i_if_ne (tgt := 145) dX8_element_132 (by decide) q28 (fun h27 => ?_) (fun h27 => ?_)
    · have hw := hw.1 h27
      refine z_aload_n dX8_element_145 rfl rfl ?_
      refine v_getR hW (hU 210 _ rfl) rfl kX8 fX8_46 dX8_element_146 ?_
      refine z_bipush (v := Int32.ofInt 62) dX8_element_149 (by decide) ?_
      have hX := lX5_put 1 (Nat.le_refl _) hW (show isS 22 by unfold isS; decide) (fun b x h e => hS b x h (e ▸ (show isS 22 by unfold isS; decide))) ⟨by decide, by decide⟩ hw
      refine z_callV (As := [_]) eX5_put sX5_put lX8_89 rfl dX8_element_151 (hW.sg (show isS 22 by unfold isS; decide) (fun b x h e => hS b x h (e ▸ (show isS 22 by unfold isS; decide)))).choose_spec.choose_spec.choose_spec.choose_spec.1.choose_spec.1 hX (Nat.le_trans (Nat.le_trans (by decide) (Nat.add_le_add_right hdE _)) hd) rfl (Nat.le_of_ble_eq_true rfl) (fun r cs hp => ?_)
      obtain ⟨r30, S29, rfl, hw, hW⟩ := hp
      refine z_st (st' := [.int (Int32.ofInt (r30))]) rfl ?_
      refine z_pop dX8_element_154 rfl ?_
      refine z_iconst (v := Int32.ofInt 0) dX8_element_155 rfl ?_
      refine z_istore dX8_element_156 (by decide) ?_
      refine z_loc (L' := [(0, .ref (G.1 + v 210)), (1, .int (Int32.ofInt (l1))), (2, .int (Int32.ofInt (l2))), (3, .int (Int32.ofInt (l3))), (4, .int (Int32.ofInt (l4))), (5, .int (Int32.ofInt (l5))), (6, .int (Int32.ofInt (r20))), (7, .int (Int32.ofInt (0)))]) (List.forall_mem_cons.mpr ⟨rfl, (List.forall_mem_cons.mpr ⟨rfl, (List.forall_mem_cons.mpr ⟨rfl, (List.forall_mem_cons.mpr ⟨rfl, (List.forall_mem_cons.mpr ⟨rfl, (List.forall_mem_cons.mpr ⟨rfl, (List.forall_mem_cons.mpr ⟨rfl, (List.forall_mem_cons.mpr ⟨rfl, (fun _ h => nomatch h)⟩)⟩)⟩)⟩)⟩)⟩)⟩)⟩) ?_
      refine z_loc (L' := [(0, .ref (G.1 + v 210)), (1, .int (Int32.ofInt (l1))), (5, .int (Int32.ofInt (l5))), (6, .int (Int32.ofInt (r20))), (7, .int (Int32.ofInt (0)))]) (List.forall_mem_cons.mpr ⟨rfl, (List.forall_mem_cons.mpr ⟨rfl, (List.forall_mem_cons.mpr ⟨rfl, (List.forall_mem_cons.mpr ⟨rfl, (List.forall_mem_cons.mpr ⟨rfl, (fun _ h => nomatch h)⟩)⟩)⟩)⟩)⟩) ?_
      exact ubX8_element_158 hE hdE hd hT hS hU hW hP  hw
    · have hw := hw.2 h27
      refine z_aload_n dX8_element_135 rfl rfl ?_
      refine v_getR hW (hU 210 _ rfl) rfl kX8 fX8_46 dX8_element_136 ?_
      refine z_ldcS (i := 13) (tx := "/>") (by decide +kernel) dX8_element_139 ?_
      have hX := lX5_spell 4 (Nat.le_refl _) hW (show isS 22 by unfold isS; decide) (fun b x h e => hS b x h (e ▸ (show isS 22 by unfold isS; decide))) (show 13 < xN by decide)  hw
      refine z_callV (As := [_]) eX5_spell sX5_spell lX8_85 rfl dX8_element_141 (hW.sg (show isS 22 by unfold isS; decide) (fun b x h e => hS b x h (e ▸ (show isS 22 by unfold isS; decide)))).choose_spec.choose_spec.choose_spec.choose_spec.1.choose_spec.1 hX (Nat.le_trans (Nat.le_trans (by decide) (Nat.add_le_add_right hdE _)) hd) rfl (Nat.le_of_ble_eq_true rfl) (fun r cs hp => ?_)
      obtain ⟨r32, S31, rfl, hw, hW⟩ := hp
      refine z_st (st' := []) rfl ?_
      exact z_return dX8_element_144 rfl (hP 0 _ _ hw hW)
  · have hw := hw.2 h2
    refine z_aload_n dX8_element_63 rfl rfl ?_
    refine z_iconst (v := Int32.ofInt 1) dX8_element_64 rfl ?_
    refine v_putI hW (hU 210 _ rfl) (by decide) (by unfold isS; decide) rfl kX8 fX8_34 dX8_element_65 rfl (nar01 (by decide)) (fit01 (by decide)) ⟨by decide, by decide⟩ (fun cs hW => ?_)
    obtain ⟨S33, hS33⟩ : ∃ x, x = pI S 210 12 (1) := ⟨_, rfl⟩
    rw [← hS33] at hW
    have hw := hw S33 hS33
    exact z_return dX8_element_68 rfl (hP 0 _ _ hw hW)
def wX8_element (E : Int → Int → Int → Int → Int → St → (Int → St → Prop) → Prop)  (a1 a2 a3 a4 a5 : Int) (S : St) (K : Int → St → Prop) : Prop := rng a1 → rng a2 → rng a3 → rng a4 → rng a5 → (iv 0 1 (S.1 210 12) → ((¬ S.1 210 12 = 0 → K 0 S) ∧ ((¬ (¬ S.1 210 12 = 0)) → (wX5_hasOverflowed 22 S (fun r4 S3 => (rng (r4) ∧ ((¬ r4 = 0 → K 0 S3) ∧ ((¬ (¬ r4 = 0)) → (wX1_has (a1) S3 (fun r8 S7 => (rng (r8) ∧ ((¬ r8 = 0 → (iv (-2147483648) 2147483647 (S7.1 210 3) → ((S7.1 210 3 = 3 → wX8_element_54 E (a1) (a2) (a3) (a4) (a5) S7 K) ∧ ((¬ (S7.1 210 3 = 3)) → ((0 : Int) ≤ a1 ∧ a1 < (30 : Int) ∧ (iv (-2147483648) 2147483647 (S7.2 211 (a1)) → ((S7.2 211 (a1) ≤ 0 → wX8_element_54 E (a1) (a2) (a3) (a4) (a5) S7 K) ∧ ((¬ (S7.2 211 (a1) ≤ 0)) → (wX8_reference (a1) (a2) (a3) S7 (fun r17 S16 => K 0 S16)))))))))) ∧ ((¬ (¬ r8 = 0)) → K 0 S7)))))))))))))
set_option maxRecDepth 100000 in
set_option maxHeartbeats 4000000 in
theorem lX8_element {G : xG} {v : Nat → Nat} {sh : Nat → Option Sh} {B : Nat × Nat} {c0 : List va_E} {E : Int → Int → Int → Int → Int → St → (Int → St → Prop) → Prop} {dE : Nat}  {a1 a2 a3 a4 a5 : Int} {S : St} {cs : List va_E} {K : Int → St → Prop} (hE : ∀ (a1 a2 a3 a4 a5 : Int) (S : St) (cs : List va_E) (K : Int → St → Prop), rng a1 → rng a2 → rng a3 → rng a4 → rng a5 → Wv G v sh B c0 S cs → E a1 a2 a3 a4 a5 S K → X G yX8_element cX8_element 8 none dE [.ref (G.1 + v 210), .int (Int32.ofInt a1), .int (Int32.ofInt a2), .int (Int32.ofInt a3), .int (Int32.ofInt a4), .int (Int32.ofInt a5)] cs (vV G v sh B c0 K)) (hdE : 12 ≤ dE) (d : Nat) (hd : dE + 3 ≤ d) (hT : sb shC sh) (hS : ∀ b x, sh b = some x → ¬ isS b) (hU : sb shW sh) (hW : Wv G v sh B c0 S cs) (g1 : rng a1) (g2 : rng a2) (g3 : rng a3) (g4 : rng a4) (g5 : rng a5) (hw : wX8_element E a1 a2 a3 a4 a5 S K) : X G yX8_element cX8_element 8 none d [.ref (G.1 + v 210), .int (Int32.ofInt a1), .int (Int32.ofInt a2), .int (Int32.ofInt a3), .int (Int32.ofInt a4), .int (Int32.ofInt a5)] cs (vV G v sh B c0 K) := by
  refine X.of false (by decide +kernel) (by decide) (Nat.le_of_ble_eq_true rfl) ?_
  show Z (RX8, cX8_element, 8, none, false) G d _ 0 [(0, .ref (G.1 + v 210)), (1, .int (Int32.ofInt a1)), (2, .int (Int32.ofInt a2)), (3, .int (Int32.ofInt a3)), (4, .int (Int32.ofInt a4)), (5, .int (Int32.ofInt a5))] [] cs
  have hP : ∀ (x : Int) (S : St) (cs : List va_E), K x S → Wv G v sh B c0 S cs → vV G v sh B c0 K (none) cs := fun x S cs a b => ⟨x, S, rfl, a, b⟩
  unfold wX8_element at hw
  have hw := hw g1 g2 g3 g4 g5
  refine z_aload_n dX8_element_0 rfl rfl ?_
  have q1 : iv 0 1 (S.1 210 12) := hW.iI 210 12
  have hw := hw q1
  refine v_getI hW (hU 210 _ rfl) rfl kX8 fX8_34 dX8_element_1 ?_
  refine i_if_ne (tgt := 28) dX8_element_4 (by decide) (rngq q1 (by decide) (by decide)) (fun h2 => ?_) (fun h2 => ?_)
  · have hw := hw.1 h2
    exact z_return dX8_element_28 rfl (hP 0 _ _ hw hW)
  · have hw := hw.2 h2
    refine z_aload_n dX8_element_7 rfl rfl ?_
    refine v_getR hW (hU 210 _ rfl) rfl kX8 fX8_46 dX8_element_8 ?_
    have hX := lX5_hasOverflowed 0 (Nat.le_refl _) hW (show isS 22 by unfold isS; decide) (fun b x h e => hS b x h (e ▸ (show isS 22 by unfold isS; decide)))  hw
    refine z_callV (As := []) eX5_hasOverflowed sX5_hasOverflowed lX8_56 rfl dX8_element_11 (hW.sg (show isS 22 by unfold isS; decide) (fun b x h e => hS b x h (e ▸ (show isS 22 by unfold isS; decide)))).choose_spec.choose_spec.choose_spec.choose_spec.1.choose_spec.1 hX (Nat.le_trans (Nat.le_trans (by decide) (Nat.add_le_add_right hdE _)) hd) rfl (Nat.le_of_ble_eq_true rfl) (fun r cs hp => ?_)
    obtain ⟨r4, S3, rfl, hw, hW⟩ := hp
    refine z_st (st' := [.int (Int32.ofInt (r4))]) rfl ?_
    obtain ⟨q6, hw⟩ := hw
    refine i_if_ne (tgt := 28) dX8_element_14 (by decide) q6 (fun h5 => ?_) (fun h5 => ?_)
    · have hw := hw.1 h5
      exact z_return dX8_element_28 rfl (hP 0 _ _ hw hW)
    · have hw := hw.2 h5
      refine z_aload_n dX8_element_17 rfl rfl ?_
      refine v_getR hW (hU 210 _ rfl) rfl kX8 fX8_42 dX8_element_18 ?_
      refine z_iload_n dX8_element_21 rfl rfl ?_
      have hX := lX1_has 0 (Nat.le_refl _) hT hS hW g1 hw
      refine z_callV (As := [_]) eX1_has sX1_has lX8_62 rfl dX8_element_22 (hW.at (hT 42 _ rfl)) hX (Nat.le_trans (Nat.le_trans (by decide) (Nat.add_le_add_right hdE _)) hd) rfl (Nat.le_of_ble_eq_true rfl) (fun r cs hp => ?_)
      obtain ⟨r8, S7, rfl, hw, hW⟩ := hp
      refine z_st (st' := [.int (Int32.ofInt (r8))]) rfl ?_
      obtain ⟨q10, hw⟩ := hw
      refine i_if_ne (tgt := 29) dX8_element_25 (by decide) q10 (fun h9 => ?_) (fun h9 => ?_)
      · have hw := hw.1 h9
        refine z_aload_n dX8_element_29 rfl rfl ?_
        have q11 : iv (-2147483648) 2147483647 (S7.1 210 3) := hW.iI 210 3
        have hw := hw q11
        refine v_getI hW (hU 210 _ rfl) rfl kX8 fX8_50 dX8_element_30 ?_
        refine z_iconst (v := Int32.ofInt 3) dX8_element_33 rfl ?_
        refine i_icmp_eq (tgt := 54) dX8_element_34 (by decide) (rngq q11 (by decide) (by decide)) ⟨by decide, by decide⟩ (fun h12 => ?_) (fun h12 => ?_)
        · have hw := hw.1 h12
          refine z_loc (L' := [(0, .ref (G.1 + v 210)), (1, .int (Int32.ofInt (a1))), (2, .int (Int32.ofInt (a2))), (3, .int (Int32.ofInt (a3))), (4, .int (Int32.ofInt (a4))), (5, .int (Int32.ofInt (a5)))]) (List.forall_mem_cons.mpr ⟨rfl, (List.forall_mem_cons.mpr ⟨rfl, (List.forall_mem_cons.mpr ⟨rfl, (List.forall_mem_cons.mpr ⟨rfl, (List.forall_mem_cons.mpr ⟨rfl, (List.forall_mem_cons.mpr ⟨rfl, (fun _ h => nomatch h)⟩)⟩)⟩)⟩)⟩)⟩) ?_
          exact ubX8_element_54 hE hdE hd hT hS hU hW hP  hw
        · have hw := hw.2 h12
          refine z_aload_n dX8_element_37 rfl rfl ?_
          refine v_getR hW (hU 210 _ rfl) rfl kX8 fX8_9 dX8_element_38 ?_
          refine z_iload_n dX8_element_41 rfl rfl ?_
          obtain ⟨q13a, q13b, hw⟩ := hw
          have q14 : iv (-2147483648) 2147483647 (S7.2 211 (a1)) := hW.iA 211 _
          have hw := hw q14
          refine v_iald hW (hU 211 _ rfl) q13a q13b (by decide) dX8_element_42 ?_
          refine i_if_le (tgt := 54) dX8_element_43 (by decide) (rngq q14 (by decide) (by decide)) (fun h15 => ?_) (fun h15 => ?_)
          · have hw := hw.1 h15
            refine z_loc (L' := [(0, .ref (G.1 + v 210)), (1, .int (Int32.ofInt (a1))), (2, .int (Int32.ofInt (a2))), (3, .int (Int32.ofInt (a3))), (4, .int (Int32.ofInt (a4))), (5, .int (Int32.ofInt (a5)))]) (List.forall_mem_cons.mpr ⟨rfl, (List.forall_mem_cons.mpr ⟨rfl, (List.forall_mem_cons.mpr ⟨rfl, (List.forall_mem_cons.mpr ⟨rfl, (List.forall_mem_cons.mpr ⟨rfl, (List.forall_mem_cons.mpr ⟨rfl, (fun _ h => nomatch h)⟩)⟩)⟩)⟩)⟩)⟩) ?_
            exact ubX8_element_54 hE hdE hd hT hS hU hW hP  hw
          · have hw := hw.2 h15
            refine z_aload_n dX8_element_46 rfl rfl ?_
            refine z_iload_n dX8_element_47 rfl rfl ?_
            refine z_iload_n dX8_element_48 rfl rfl ?_
            refine z_iload_n dX8_element_49 rfl rfl ?_
            have hX := lX8_reference 6 (Nat.le_refl _) hT hS hU hW g1 g2 g3 hw
            refine z_callV (As := [_, _, _]) eX8_reference sX8_reference lX8_68 rfl dX8_element_50 (hW.at (hU 210 _ rfl)) hX (Nat.le_trans (Nat.le_trans (by decide) (Nat.add_le_add_right hdE _)) hd) rfl (Nat.le_of_ble_eq_true rfl) (fun r cs hp => ?_)
            obtain ⟨r17, S16, rfl, hw, hW⟩ := hp
            refine z_st (st' := []) rfl ?_
            exact z_return dX8_element_53 rfl (hP 0 _ _ hw hW)
      · have hw := hw.2 h9
        exact z_return dX8_element_28 rfl (hP 0 _ _ hw hW)

def wX10_isSign_12  (l0 : Int) (S : St) (K : Int → St → Prop) : Prop := (rng (l0) ∧ ((l0 = 9 → K (1) S) ∧ ((¬ (l0 = 9)) → ((l0 = 10 → K (1) S) ∧ ((¬ (l0 = 10)) → ((¬ l0 = 13 → K (0) S) ∧ ((¬ (¬ l0 = 13)) → K (1) S)))))))
set_option maxRecDepth 100000 in
set_option maxHeartbeats 4000000 in
theorem ubX10_isSign_12 {G : xG} {v : Nat → Nat} {sh : Nat → Option Sh} {B : Nat × Nat} {c0 : List va_E} {d : Nat} {Post : xP} {l0 : Int} {S : St} {cs : List va_E} {K : Int → St → Prop} (hd : 0 ≤ d) (hT : sb shC sh) (hS : ∀ b x, sh b = some x → ¬ isS b) (hW : Wv G v sh B c0 S cs) (hP : ∀ (x : Int) (S : St) (cs : List va_E), K x S → Wv G v sh B c0 S cs → Post (some (.int (Int32.ofInt x))) cs)  (hw : wX10_isSign_12 l0 S K ) : Z (RX10, cX10_isSign, 1, some .boolean, false) G d Post 12 [(0, .int (Int32.ofInt (l0)))] [] cs := by
  unfold wX10_isSign_12 at hw
  refine z_iload_n dX10_isSign_12 rfl rfl ?_
  refine z_bipush (v := Int32.ofInt 9) dX10_isSign_13 (by decide) ?_
  obtain ⟨q2, hw⟩ := hw
  refine i_icmp_eq (tgt := 30) dX10_isSign_15 (by decide) q2 ⟨by decide, by decide⟩ (fun h1 => ?_) (fun h1 => ?_)
  · have hw := hw.1 h1
    refine z_iconst (v := Int32.ofInt 1) dX10_isSign_30 rfl ?_
    refine z_goto (tgt := 35) dX10_isSign_31 (by decide) ?_
    exact z_ireturn dX10_isSign_35 rfl (nar01 (by decide)) (hP _ _ _ hw hW)
  · have hw := hw.2 h1
    refine z_iload_n dX10_isSign_18 rfl rfl ?_
    refine z_bipush (v := Int32.ofInt 10) dX10_isSign_19 (by decide) ?_
    refine i_icmp_eq (tgt := 30) dX10_isSign_21 (by decide) q2 ⟨by decide, by decide⟩ (fun h3 => ?_) (fun h3 => ?_)
    · have hw := hw.1 h3
      refine z_iconst (v := Int32.ofInt 1) dX10_isSign_30 rfl ?_
      refine z_goto (tgt := 35) dX10_isSign_31 (by decide) ?_
      exact z_ireturn dX10_isSign_35 rfl (nar01 (by decide)) (hP _ _ _ hw hW)
    · have hw := hw.2 h3
      refine z_iload_n dX10_isSign_24 rfl rfl ?_
      refine z_bipush (v := Int32.ofInt 13) dX10_isSign_25 (by decide) ?_
      refine i_icmp_ne (tgt := 34) dX10_isSign_27 (by decide) q2 ⟨by decide, by decide⟩ (fun h4 => ?_) (fun h4 => ?_)
      · have hw := hw.1 h4
        refine z_iconst (v := Int32.ofInt 0) dX10_isSign_34 rfl ?_
        exact z_ireturn dX10_isSign_35 rfl (nar01 (by decide)) (hP _ _ _ hw hW)
      · have hw := hw.2 h4
        refine z_iconst (v := Int32.ofInt 1) dX10_isSign_30 rfl ?_
        refine z_goto (tgt := 35) dX10_isSign_31 (by decide) ?_
        exact z_ireturn dX10_isSign_35 rfl (nar01 (by decide)) (hP _ _ _ hw hW)
def wX10_isSign  (a1 : Int) (S : St) (K : Int → St → Prop) : Prop := rng a1 → ((a1 < 32 → wX10_isSign_12 (a1) S K) ∧ ((¬ (a1 < 32)) → ((a1 ≤ 126 → K (1) S) ∧ ((¬ (a1 ≤ 126)) → wX10_isSign_12 (a1) S K))))
set_option maxRecDepth 100000 in
set_option maxHeartbeats 4000000 in
theorem lX10_isSign {G : xG} {v : Nat → Nat} {sh : Nat → Option Sh} {B : Nat × Nat} {c0 : List va_E}  {a1 : Int} {S : St} {cs : List va_E} {K : Int → St → Prop} (d : Nat) (hd : 0 ≤ d) (hT : sb shC sh) (hS : ∀ b x, sh b = some x → ¬ isS b) (hW : Wv G v sh B c0 S cs) (g1 : rng a1) (hw : wX10_isSign a1 S K) : X G yX10_isSign cX10_isSign 1 (some .boolean) d [.int (Int32.ofInt a1)] cs (vI G v sh B c0 K) := by
  refine X.of false (by decide +kernel) (by decide) (Nat.le_of_ble_eq_true rfl) ?_
  show Z (RX10, cX10_isSign, 1, some .boolean, false) G d _ 0 [(0, .int (Int32.ofInt a1))] [] cs
  have hP : ∀ (x : Int) (S : St) (cs : List va_E), K x S → Wv G v sh B c0 S cs → vI G v sh B c0 K (some (.int (Int32.ofInt x))) cs := fun x S cs a b => ⟨x, S, rfl, a, b⟩
  unfold wX10_isSign at hw
  have hw := hw g1
  refine z_iload_n dX10_isSign_0 rfl rfl ?_
  refine z_bipush (v := Int32.ofInt 32) dX10_isSign_1 (by decide) ?_
  refine i_icmp_lt (tgt := 12) dX10_isSign_3 (by decide) g1 ⟨by decide, by decide⟩ (fun h1 => ?_) (fun h1 => ?_)
  · have hw := hw.1 h1
    refine z_loc (L' := [(0, .int (Int32.ofInt (a1)))]) (List.forall_mem_cons.mpr ⟨rfl, (fun _ h => nomatch h)⟩) ?_
    exact ubX10_isSign_12 hd hT hS hW hP  hw
  · have hw := hw.2 h1
    refine z_iload_n dX10_isSign_6 rfl rfl ?_
    refine z_bipush (v := Int32.ofInt 126) dX10_isSign_7 (by decide) ?_
    refine i_icmp_le (tgt := 30) dX10_isSign_9 (by decide) g1 ⟨by decide, by decide⟩ (fun h2 => ?_) (fun h2 => ?_)
    · have hw := hw.1 h2
      refine z_iconst (v := Int32.ofInt 1) dX10_isSign_30 rfl ?_
      refine z_goto (tgt := 35) dX10_isSign_31 (by decide) ?_
      exact z_ireturn dX10_isSign_35 rfl (nar01 (by decide)) (hP _ _ _ hw hW)
    · have hw := hw.2 h2
      refine z_loc (L' := [(0, .int (Int32.ofInt (a1)))]) (List.forall_mem_cons.mpr ⟨rfl, (fun _ h => nomatch h)⟩) ?_
      exact ubX10_isSign_12 hd hT hS hW hP  hw

