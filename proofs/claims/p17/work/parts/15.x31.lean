def wX3_isSound (m : Nat)  (a1 : Int) (S : St) (K : Int → St → Prop) : Prop := rng a1 → ((0 : Int) ≤ a1 ∧ a1 < (m : Int) ∧ (iv (-2147483648) 2147483647 (S.2 231 (a1)) → ((¬ (1 ≤ S.2 231 (a1) ∧ S.2 231 (a1) ≤ 3) → K (1) S) ∧ ((S.2 231 (a1) = 1 → (wX6_isSolid (a1) S (fun r5 S4 => (rng (r5) ∧ ((¬ r5 = 0 → K (0) S4) ∧ ((¬ (¬ r5 = 0)) → (wX3_areAttributesSound m (a1) S4 (fun r9 S8 => (rng (r9) ∧ ((r9 = 0 → K (0) S8) ∧ ((¬ (r9 = 0)) → K (1) S8))))))))))) ∧ ((S.2 231 (a1) = 2 → (wX6_isSolid (a1) S (fun r13 S12 => (rng (r13) ∧ ((¬ r13 = 0 → K (0) S12) ∧ ((¬ (¬ r13 = 0)) → (wX6_attributeCount (a1) S12 (fun r17 S16 => (rng (r17) ∧ ((¬ r17 = 0 → K (0) S16) ∧ ((¬ (¬ r17 = 0)) → K (1) S16))))))))))) ∧ (S.2 231 (a1) = 3 → (wX6_attributeCount (a1) S (fun r21 S20 => (rng (r21) ∧ ((¬ r21 = 0 → K (0) S20) ∧ ((¬ (¬ r21 = 0)) → (wX6_kidCount (a1) S20 (fun r25 S24 => (rng (r25) ∧ ((¬ r25 = 0 → K (0) S24) ∧ ((¬ (¬ r25 = 0)) → ((0 : Int) ≤ a1 ∧ a1 < (m : Int) ∧ (iv 0 29 (S24.2 232 (a1)) → ((0 : Int) ≤ a1 ∧ a1 < (m : Int) ∧ (iv (-2147483648) 2147483647 (S24.2 233 (a1)) → (wX6_textFrom (a1) S24 (fun r33 S32 => (wX6_textTo (a1) S32 (fun r35 S34 => (rng (r33) ∧ (rng (r35) ∧ (wX3_fills m (S24.2 232 (a1)) (S24.2 233 (a1)) (r33) (r35) S34 (fun r37 S36 => (rng (r37) ∧ ((r37 = 0 → K (0) S36) ∧ ((¬ (r37 = 0)) → K (1) S36)))))))))))))))))))))))))))))))
set_option maxRecDepth 100000 in
set_option maxHeartbeats 4000000 in
theorem lX3_isSound {G : xG} {v : Nat → Nat} {sh : Nat → Option Sh} {B : Nat × Nat} {c0 : List va_E} {m : Nat}  {a1 : Int} {S : St} {cs : List va_E} {K : Int → St → Prop} (d : Nat) (hd : 6 ≤ d) (hm : m ≤ 200) (hT : sb shC sh) (hS : ∀ b x, sh b = some x → ¬ isS b) (hU : sb (shMe m) sh) (hW : Wv G v sh B c0 S cs) (g1 : rng a1) (hw : wX3_isSound m a1 S K) : X G yX3_isSound cX3_isSound 2 (some .boolean) d [.ref (G.1 + v 230), .int (Int32.ofInt a1)] cs (vI G v sh B c0 K) := by
  refine X.of false (by decide +kernel) (by decide) (Nat.le_of_ble_eq_true rfl) ?_
  show Z (RX3, cX3_isSound, 2, some .boolean, false) G d _ 0 [(0, .ref (G.1 + v 230)), (1, .int (Int32.ofInt a1))] [] cs
  have hP : ∀ (x : Int) (S : St) (cs : List va_E), K x S → Wv G v sh B c0 S cs → vI G v sh B c0 K (some (.int (Int32.ofInt x))) cs := fun x S cs a b => ⟨x, S, rfl, a, b⟩
  unfold wX3_isSound at hw
  have hw := hw g1
  refine z_aload_n dX3_isSound_0 rfl rfl ?_
  refine v_getR hW (hU 230 _ rfl) rfl kX3 fX3_54 dX3_isSound_1 ?_
  refine z_iload_n dX3_isSound_4 rfl rfl ?_
  obtain ⟨q1a, q1b, hw⟩ := hw
  have q2 : iv (-2147483648) 2147483647 (S.2 231 (a1)) := hW.iA 231 _
  have hw := hw q2
  refine v_iald hW (hU 231 _ rfl) q1a q1b (m_lt hm) dX3_isSound_5 ?_
  rcases (show (¬ (1 ≤ S.2 231 (a1) ∧ S.2 231 (a1) ≤ 3)) ∨ S.2 231 (a1) = 1 ∨ S.2 231 (a1) = 2 ∨ S.2 231 (a1) = 3 by omega) with h3 | h3 | h3 | h3
  · have hw := hw.1 h3
    refine i_tableOut (tgt := 148) dX3_isSound_6 (rngq q2 (by decide) (by decide)) h3 (by decide) ?_
    refine z_iconst (v := Int32.ofInt 1) dX3_isSound_148 rfl ?_
    exact z_ireturn dX3_isSound_149 rfl (nar01 (by decide)) (hP _ _ _ hw hW)
  · have hw := hw.2.1 h3
    refine i_tableIn (c := 1) (off := 26) (tgt := 32) dX3_isSound_6 h3 ⟨by decide, by decide⟩ (by decide) (by decide) rfl (by decide) ?_
    refine z_aload_n dX3_isSound_32 rfl rfl ?_
    refine v_getR hW (hU 230 _ rfl) rfl kX3 fX3_19 dX3_isSound_33 ?_
    refine z_iload_n dX3_isSound_36 rfl rfl ?_
    have hX := lX6_isSolid 1 (Nat.le_refl _) hT hS (sbt sbX6_X3 hU) hW g1 hw
    refine z_callV (As := [_]) eX6_isSolid sX6_isSolid lX3_163 rfl dX3_isSound_37 (hW.at (hU 3 _ rfl)) hX (Nat.le_trans (by decide) hd) rfl (Nat.le_of_ble_eq_true rfl) (fun r cs hp => ?_)
    obtain ⟨r5, S4, rfl, hw, hW⟩ := hp
    refine z_st (st' := [.int (Int32.ofInt (r5))]) rfl ?_
    obtain ⟨q7, hw⟩ := hw
    refine i_if_ne (tgt := 55) dX3_isSound_40 (by decide) q7 (fun h6 => ?_) (fun h6 => ?_)
    · have hw := hw.1 h6
      refine z_iconst (v := Int32.ofInt 0) dX3_isSound_55 rfl ?_
      exact z_ireturn dX3_isSound_56 rfl (nar01 (by decide)) (hP _ _ _ hw hW)
    · have hw := hw.2 h6
      refine z_aload_n dX3_isSound_43 rfl rfl ?_
      refine z_iload_n dX3_isSound_44 rfl rfl ?_
      have hX := lX3_areAttributesSound 5 (Nat.le_refl _) hm hT hS hU hW g1 hw
      refine z_callV (As := [_]) eX3_areAttributesSound sX3_areAttributesSound lX3_166 rfl dX3_isSound_45 (hW.at (hU 230 _ rfl)) hX (Nat.le_trans (by decide) hd) rfl (Nat.le_of_ble_eq_true rfl) (fun r cs hp => ?_)
      obtain ⟨r9, S8, rfl, hw, hW⟩ := hp
      refine z_st (st' := [.int (Int32.ofInt (r9))]) rfl ?_
      obtain ⟨q11, hw⟩ := hw
      refine i_if_eq (tgt := 55) dX3_isSound_48 (by decide) q11 (fun h10 => ?_) (fun h10 => ?_)
      · have hw := hw.1 h10
        refine z_iconst (v := Int32.ofInt 0) dX3_isSound_55 rfl ?_
        exact z_ireturn dX3_isSound_56 rfl (nar01 (by decide)) (hP _ _ _ hw hW)
      · have hw := hw.2 h10
        refine z_iconst (v := Int32.ofInt 1) dX3_isSound_51 rfl ?_
        refine z_goto (tgt := 56) dX3_isSound_52 (by decide) ?_
        exact z_ireturn dX3_isSound_56 rfl (nar01 (by decide)) (hP _ _ _ hw hW)
  · have hw := hw.2.2.1 h3
    refine i_tableIn (c := 2) (off := 51) (tgt := 57) dX3_isSound_6 h3 ⟨by decide, by decide⟩ (by decide) (by decide) rfl (by decide) ?_
    refine z_aload_n dX3_isSound_57 rfl rfl ?_
    refine v_getR hW (hU 230 _ rfl) rfl kX3 fX3_19 dX3_isSound_58 ?_
    refine z_iload_n dX3_isSound_61 rfl rfl ?_
    have hX := lX6_isSolid 1 (Nat.le_refl _) hT hS (sbt sbX6_X3 hU) hW g1 hw
    refine z_callV (As := [_]) eX6_isSolid sX6_isSolid lX3_163 rfl dX3_isSound_62 (hW.at (hU 3 _ rfl)) hX (Nat.le_trans (by decide) hd) rfl (Nat.le_of_ble_eq_true rfl) (fun r cs hp => ?_)
    obtain ⟨r13, S12, rfl, hw, hW⟩ := hp
    refine z_st (st' := [.int (Int32.ofInt (r13))]) rfl ?_
    obtain ⟨q15, hw⟩ := hw
    refine i_if_ne (tgt := 83) dX3_isSound_65 (by decide) q15 (fun h14 => ?_) (fun h14 => ?_)
    · have hw := hw.1 h14
      refine z_iconst (v := Int32.ofInt 0) dX3_isSound_83 rfl ?_
      exact z_ireturn dX3_isSound_84 rfl (nar01 (by decide)) (hP _ _ _ hw hW)
    · have hw := hw.2 h14
      refine z_aload_n dX3_isSound_68 rfl rfl ?_
      refine v_getR hW (hU 230 _ rfl) rfl kX3 fX3_19 dX3_isSound_69 ?_
      refine z_iload_n dX3_isSound_72 rfl rfl ?_
      have hX := lX6_attributeCount 1 (Nat.le_refl _) hT hS (sbt sbX6_X3 hU) hW g1 hw
      refine z_callV (As := [_]) eX6_attributeCount sX6_attributeCount lX3_169 rfl dX3_isSound_73 (hW.at (hU 3 _ rfl)) hX (Nat.le_trans (by decide) hd) rfl (Nat.le_of_ble_eq_true rfl) (fun r cs hp => ?_)
      obtain ⟨r17, S16, rfl, hw, hW⟩ := hp
      refine z_st (st' := [.int (Int32.ofInt (r17))]) rfl ?_
      obtain ⟨q19, hw⟩ := hw
      refine i_if_ne (tgt := 83) dX3_isSound_76 (by decide) q19 (fun h18 => ?_) (fun h18 => ?_)
      · have hw := hw.1 h18
        refine z_iconst (v := Int32.ofInt 0) dX3_isSound_83 rfl ?_
        exact z_ireturn dX3_isSound_84 rfl (nar01 (by decide)) (hP _ _ _ hw hW)
      · have hw := hw.2 h18
        refine z_iconst (v := Int32.ofInt 1) dX3_isSound_79 rfl ?_
        refine z_goto (tgt := 84) dX3_isSound_80 (by decide) ?_
        exact z_ireturn dX3_isSound_84 rfl (nar01 (by decide)) (hP _ _ _ hw hW)
  · have hw := hw.2.2.2 h3
    refine i_tableIn (c := 3) (off := 79) (tgt := 85) dX3_isSound_6 h3 ⟨by decide, by decide⟩ (by decide) (by decide) rfl (by decide) ?_
    refine z_aload_n dX3_isSound_85 rfl rfl ?_
    refine v_getR hW (hU 230 _ rfl) rfl kX3 fX3_19 dX3_isSound_86 ?_
    refine z_iload_n dX3_isSound_89 rfl rfl ?_
    have hX := lX6_attributeCount 1 (Nat.le_refl _) hT hS (sbt sbX6_X3 hU) hW g1 hw
    refine z_callV (As := [_]) eX6_attributeCount sX6_attributeCount lX3_169 rfl dX3_isSound_90 (hW.at (hU 3 _ rfl)) hX (Nat.le_trans (by decide) hd) rfl (Nat.le_of_ble_eq_true rfl) (fun r cs hp => ?_)
    obtain ⟨r21, S20, rfl, hw, hW⟩ := hp
    refine z_st (st' := [.int (Int32.ofInt (r21))]) rfl ?_
    obtain ⟨q23, hw⟩ := hw
    refine i_if_ne (tgt := 146) dX3_isSound_93 (by decide) q23 (fun h22 => ?_) (fun h22 => ?_)
    · have hw := hw.1 h22
      refine z_iconst (v := Int32.ofInt 0) dX3_isSound_146 rfl ?_
      exact z_ireturn dX3_isSound_147 rfl (nar01 (by decide)) (hP _ _ _ hw hW)
    · have hw := hw.2 h22
      refine z_aload_n dX3_isSound_96 rfl rfl ?_
      refine v_getR hW (hU 230 _ rfl) rfl kX3 fX3_19 dX3_isSound_97 ?_
      refine z_iload_n dX3_isSound_100 rfl rfl ?_
      have hX := lX6_kidCount 1 (Nat.le_refl _) hT hS (sbt sbX6_X3 hU) hW g1 hw
      refine z_callV (As := [_]) eX6_kidCount sX6_kidCount lX3_172 rfl dX3_isSound_101 (hW.at (hU 3 _ rfl)) hX (Nat.le_trans (by decide) hd) rfl (Nat.le_of_ble_eq_true rfl) (fun r cs hp => ?_)
      obtain ⟨r25, S24, rfl, hw, hW⟩ := hp
      refine z_st (st' := [.int (Int32.ofInt (r25))]) rfl ?_
      obtain ⟨q27, hw⟩ := hw
      refine i_if_ne (tgt := 146) dX3_isSound_104 (by decide) q27 (fun h26 => ?_) (fun h26 => ?_)
      · have hw := hw.1 h26
        refine z_iconst (v := Int32.ofInt 0) dX3_isSound_146 rfl ?_
        exact z_ireturn dX3_isSound_147 rfl (nar01 (by decide)) (hP _ _ _ hw hW)
      · have hw := hw.2 h26
        refine z_aload_n dX3_isSound_107 rfl rfl ?_
        refine z_aload_n dX3_isSound_108 rfl rfl ?_
        refine v_getR hW (hU 230 _ rfl) rfl kX3 fX3_57 dX3_isSound_109 ?_
        refine z_iload_n dX3_isSound_112 rfl rfl ?_
        obtain ⟨q28a, q28b, hw⟩ := hw
        have q29 : iv 0 29 (S24.2 232 (a1)) := hW.iA 232 _
        have hw := hw q29
        refine v_iald hW (hU 232 _ rfl) q28a q28b (m_lt hm) dX3_isSound_113 ?_
        refine z_aload_n dX3_isSound_114 rfl rfl ?_
        refine v_getR hW (hU 230 _ rfl) rfl kX3 fX3_60 dX3_isSound_115 ?_
        refine z_iload_n dX3_isSound_118 rfl rfl ?_
        obtain ⟨q30a, q30b, hw⟩ := hw
        have q31 : iv (-2147483648) 2147483647 (S24.2 233 (a1)) := hW.iA 233 _
        have hw := hw q31
        refine v_iald hW (hU 233 _ rfl) q30a q30b (m_lt hm) dX3_isSound_119 ?_
        refine z_aload_n dX3_isSound_120 rfl rfl ?_
        refine v_getR hW (hU 230 _ rfl) rfl kX3 fX3_19 dX3_isSound_121 ?_
        refine z_iload_n dX3_isSound_124 rfl rfl ?_
        have hX := lX6_textFrom 1 (Nat.le_refl _) hT hS (sbt sbX6_X3 hU) hW g1 hw
        refine z_callV (As := [_]) eX6_textFrom sX6_textFrom lX3_175 rfl dX3_isSound_125 (hW.at (hU 3 _ rfl)) hX (Nat.le_trans (by decide) hd) rfl (Nat.le_of_ble_eq_true rfl) (fun r cs hp => ?_)
        obtain ⟨r33, S32, rfl, hw, hW⟩ := hp
        refine z_st (st' := [.int (Int32.ofInt (r33)), .int (Int32.ofInt (S24.2 233 (a1))), .int (Int32.ofInt (S24.2 232 (a1))), .ref (G.1 + v 230)]) rfl ?_
        refine z_aload_n dX3_isSound_128 rfl rfl ?_
        refine v_getR hW (hU 230 _ rfl) rfl kX3 fX3_19 dX3_isSound_129 ?_
        refine z_iload_n dX3_isSound_132 rfl rfl ?_
        have hX := lX6_textTo 1 (Nat.le_refl _) hT hS (sbt sbX6_X3 hU) hW g1 hw
        refine z_callV (As := [_]) eX6_textTo sX6_textTo lX3_178 rfl dX3_isSound_133 (hW.at (hU 3 _ rfl)) hX (Nat.le_trans (by decide) hd) rfl (Nat.le_of_ble_eq_true rfl) (fun r cs hp => ?_)
        obtain ⟨r35, S34, rfl, hw, hW⟩ := hp
        refine z_st (st' := [.int (Int32.ofInt (r35)), .int (Int32.ofInt (r33)), .int (Int32.ofInt (S24.2 233 (a1))), .int (Int32.ofInt (S24.2 232 (a1))), .ref (G.1 + v 230)]) rfl ?_
        obtain ⟨q38, hw⟩ := hw
        obtain ⟨q39, hw⟩ := hw
        have hX := lX3_fills 3 (Nat.le_refl _) hm hT hS hU hW (rngq q29 (by decide) (by decide)) (rngq q31 (by decide) (by decide)) q38 q39 hw
        refine z_callV (As := [_, _, _, _]) eX3_fills sX3_fills lX3_181 rfl dX3_isSound_136 (hW.at (hU 230 _ rfl)) hX (Nat.le_trans (by decide) hd) rfl (Nat.le_of_ble_eq_true rfl) (fun r cs hp => ?_)
        obtain ⟨r37, S36, rfl, hw, hW⟩ := hp
        refine z_st (st' := [.int (Int32.ofInt (r37))]) rfl ?_
        obtain ⟨q41, hw⟩ := hw
        refine i_if_eq (tgt := 146) dX3_isSound_139 (by decide) q41 (fun h40 => ?_) (fun h40 => ?_)
        · have hw := hw.1 h40
          refine z_iconst (v := Int32.ofInt 0) dX3_isSound_146 rfl ?_
          exact z_ireturn dX3_isSound_147 rfl (nar01 (by decide)) (hP _ _ _ hw hW)
        · have hw := hw.2 h40
          refine z_iconst (v := Int32.ofInt 1) dX3_isSound_142 rfl ?_
          refine z_goto (tgt := 147) dX3_isSound_143 (by decide) ?_
          exact z_ireturn dX3_isSound_147 rfl (nar01 (by decide)) (hP _ _ _ hw hW)

def wX1_clear_b  (S : St) (K : Int → St → Prop) : Prop := (∀ S1, S1 = pI S 50 3 (0) → K 0 S1)
set_option maxRecDepth 100000 in
set_option maxHeartbeats 4000000 in
theorem lX1_clear_b {G : xG} {v : Nat → Nat} {sh : Nat → Option Sh} {B : Nat × Nat} {c0 : List va_E}  {S : St} {cs : List va_E} {K : Int → St → Prop} (d : Nat) (hd : 0 ≤ d) (hT : sb shC sh) (hS : ∀ b x, sh b = some x → ¬ isS b) (hW : Wv G v sh B c0 S cs)  (hw : wX1_clear_b  S K) : X G yX1_clear cX1_clear 1 none d [.ref (G.1 + v 50)] cs (vV G v sh B c0 K) := by
  refine X.of false (by decide +kernel) (by decide) (Nat.le_of_ble_eq_true rfl) ?_
  show Z (RX1, cX1_clear, 1, none, false) G d _ 0 [(0, .ref (G.1 + v 50))] [] cs
  have hP : ∀ (x : Int) (S : St) (cs : List va_E), K x S → Wv G v sh B c0 S cs → vV G v sh B c0 K (none) cs := fun x S cs a b => ⟨x, S, rfl, a, b⟩
  unfold wX1_clear_b at hw
  refine z_aload_n dX1_clear_0 rfl rfl ?_
  refine z_iconst (v := Int32.ofInt 0) dX1_clear_1 rfl ?_
  refine v_putI hW (hT 50 _ rfl) (by decide) (by unfold isS; decide) rfl kX1 fX1_21 dX1_clear_2 rfl rfl rfl ⟨by decide, by decide⟩ (fun cs hW => ?_)
  obtain ⟨S1, hS1⟩ : ∃ x, x = pI S 50 3 (0) := ⟨_, rfl⟩
  rw [← hS1] at hW
  have hw := hw S1 hS1
  exact z_return dX1_clear_5 rfl (hP 0 _ _ hw hW)

def wX3_firstWrong_73 (m : Nat)  (l1 : Int) (S : St) (K : Int → St → Prop) (B44 : Int → St → Prop) : Prop := B44 ((l1 + 1)) S
set_option maxRecDepth 100000 in
set_option maxHeartbeats 4000000 in
theorem ubX3_firstWrong_73 {G : xG} {v : Nat → Nat} {sh : Nat → Option Sh} {B : Nat × Nat} {c0 : List va_E} {m : Nat} {d : Nat} {Post : xP} {l1 : Int} {S : St} {cs : List va_E} {K : Int → St → Prop} {B44 : Int → St → Prop} (hd : 9 ≤ d) (hm : m ≤ 200) (hT : sb shC sh) (hS : ∀ b x, sh b = some x → ¬ isS b) (hU : sb (shMe m) sh) (hW : Wv G v sh B c0 S cs) (hP : ∀ (x : Int) (S : St) (cs : List va_E), K x S → Wv G v sh B c0 S cs → Post (some (.int (Int32.ofInt x))) cs) (hB44 : ∀ (l1 : Int) (S : St) (cs : List va_E), B44 l1 S → Wv G v sh B c0 S cs → Z (RX3, cX3_firstWrong, 2, some .int, false) G d Post 44 [(0, .ref (G.1 + v 230)), (1, .int (Int32.ofInt (l1)))] [] cs) (hw : wX3_firstWrong_73 m l1 S K B44) : Z (RX3, cX3_firstWrong, 2, some .int, false) G d Post 73 [(0, .ref (G.1 + v 230)), (1, .int (Int32.ofInt (l1)))] [] cs := by
  unfold wX3_firstWrong_73 at hw
  refine i_iinc (l := l1) dX3_firstWrong_73 rfl (by decide) ?_
  refine z_loc (L' := [(0, .ref (G.1 + v 230)), (1, .int (Int32.ofInt ((l1 + 1))))]) (List.forall_mem_cons.mpr ⟨rfl, (List.forall_mem_cons.mpr ⟨rfl, (fun _ h => nomatch h)⟩)⟩) ?_
  refine z_goto (tgt := 44) dX3_firstWrong_76 (by decide) ?_
  refine z_loc (L' := [(0, .ref (G.1 + v 230)), (1, .int (Int32.ofInt ((l1 + 1))))]) (List.forall_mem_cons.mpr ⟨rfl, (List.forall_mem_cons.mpr ⟨rfl, (fun _ h => nomatch h)⟩)⟩) ?_
  exact hB44 _ _ _ hw hW
def wX3_firstWrong_44' (m : Nat)  (l1 : Int) (S : St) (K : Int → St → Prop) (B44 : Int → St → Prop) : Prop := (rng (l1) ∧ (((m : Int) ≤ l1 → K ((-1)) S) ∧ ((¬ ((m : Int) ≤ l1)) → ((0 : Int) ≤ l1 ∧ l1 < (m : Int) ∧ (iv (-2147483648) 2147483647 (S.2 231 (l1)) → ((¬ S.2 231 (l1) = 4 → wX3_firstWrong_73 m (l1) S K B44) ∧ ((¬ (¬ S.2 231 (l1) = 4)) → (wX3_leads m (l1) S (fun r7 S6 => (rng (r7) ∧ ((¬ r7 = 0 → wX3_firstWrong_73 m (l1) S6 K B44) ∧ ((¬ (¬ r7 = 0)) → K (l1) S6))))))))))))
set_option maxRecDepth 100000 in
set_option maxHeartbeats 4000000 in
theorem ubX3_firstWrong_44' {G : xG} {v : Nat → Nat} {sh : Nat → Option Sh} {B : Nat × Nat} {c0 : List va_E} {m : Nat} {d : Nat} {Post : xP} {l1 : Int} {S : St} {cs : List va_E} {K : Int → St → Prop} {B44 : Int → St → Prop} (hd : 9 ≤ d) (hm : m ≤ 200) (hT : sb shC sh) (hS : ∀ b x, sh b = some x → ¬ isS b) (hU : sb (shMe m) sh) (hW : Wv G v sh B c0 S cs) (hP : ∀ (x : Int) (S : St) (cs : List va_E), K x S → Wv G v sh B c0 S cs → Post (some (.int (Int32.ofInt x))) cs) (hB44 : ∀ (l1 : Int) (S : St) (cs : List va_E), B44 l1 S → Wv G v sh B c0 S cs → Z (RX3, cX3_firstWrong, 2, some .int, false) G d Post 44 [(0, .ref (G.1 + v 230)), (1, .int (Int32.ofInt (l1)))] [] cs) (hw : wX3_firstWrong_44' m l1 S K B44) : Z (RX3, cX3_firstWrong, 2, some .int, false) G d Post 44 [(0, .ref (G.1 + v 230)), (1, .int (Int32.ofInt (l1)))] [] cs := by
  unfold wX3_firstWrong_44' at hw
  refine z_iload_n dX3_firstWrong_44 rfl rfl ?_
  refine z_aload_n dX3_firstWrong_45 rfl rfl ?_
  refine v_getR hW (hU 230 _ rfl) rfl kX3 fX3_54 dX3_firstWrong_46 ?_
  refine v_alen (t0 := 0) hW (hU 231 _ rfl) rfl dX3_firstWrong_49 ?_
  obtain ⟨q2, hw⟩ := hw
  refine i_icmp_ge (tgt := 79) dX3_firstWrong_50 (by decide) q2 (m_rng hm) (fun h1 => ?_) (fun h1 => ?_)
  · have hw := hw.1 h1
    refine z_iconst (v := Int32.ofInt (-1)) dX3_firstWrong_79 rfl ?_
    exact z_ireturn dX3_firstWrong_80 rfl rfl (hP _ _ _ hw hW)
  · have hw := hw.2 h1
    refine z_aload_n dX3_firstWrong_53 rfl rfl ?_
    refine v_getR hW (hU 230 _ rfl) rfl kX3 fX3_54 dX3_firstWrong_54 ?_
    refine z_iload_n dX3_firstWrong_57 rfl rfl ?_
    obtain ⟨q3a, q3b, hw⟩ := hw
    have q4 : iv (-2147483648) 2147483647 (S.2 231 (l1)) := hW.iA 231 _
    have hw := hw q4
    refine v_iald hW (hU 231 _ rfl) q3a q3b (m_lt hm) dX3_firstWrong_58 ?_
    refine z_iconst (v := Int32.ofInt 4) dX3_firstWrong_59 rfl ?_
    refine i_icmp_ne (tgt := 73) dX3_firstWrong_60 (by decide) (rngq q4 (by decide) (by decide)) ⟨by decide, by decide⟩ (fun h5 => ?_) (fun h5 => ?_)
    · have hw := hw.1 h5
      refine z_loc (L' := [(0, .ref (G.1 + v 230)), (1, .int (Int32.ofInt (l1)))]) (List.forall_mem_cons.mpr ⟨rfl, (List.forall_mem_cons.mpr ⟨rfl, (fun _ h => nomatch h)⟩)⟩) ?_
      exact ubX3_firstWrong_73 hd hm hT hS hU hW hP hB44 hw
    · have hw := hw.2 h5
      refine z_aload_n dX3_firstWrong_63 rfl rfl ?_
      refine z_iload_n dX3_firstWrong_64 rfl rfl ?_
      have hX := lX3_leads 5 (Nat.le_refl _) hm hT hS hU hW q2 hw
      refine z_callV (As := [_]) eX3_leads sX3_leads lX3_81 rfl dX3_firstWrong_65 (hW.at (hU 230 _ rfl)) hX (Nat.le_trans (by decide) hd) rfl (Nat.le_of_ble_eq_true rfl) (fun r cs hp => ?_)
      obtain ⟨r7, S6, rfl, hw, hW⟩ := hp
      refine z_st (st' := [.int (Int32.ofInt (r7))]) rfl ?_
      obtain ⟨q9, hw⟩ := hw
      refine i_if_ne (tgt := 73) dX3_firstWrong_68 (by decide) q9 (fun h8 => ?_) (fun h8 => ?_)
      · have hw := hw.1 h8
        refine z_loc (L' := [(0, .ref (G.1 + v 230)), (1, .int (Int32.ofInt (l1)))]) (List.forall_mem_cons.mpr ⟨rfl, (List.forall_mem_cons.mpr ⟨rfl, (fun _ h => nomatch h)⟩)⟩) ?_
        exact ubX3_firstWrong_73 hd hm hT hS hU hW hP hB44 hw
      · have hw := hw.2 h8
        refine z_iload_n dX3_firstWrong_71 rfl rfl ?_
        exact z_ireturn dX3_firstWrong_72 rfl rfl (hP _ _ _ hw hW)
def wX3_firstWrong_44 (m : Nat)  (l1 : Int) (S : St) (K : Int → St → Prop) : Prop := ∃ (Iv : Int → St → Prop) (mu : Int → St → Nat), Iv l1 S ∧ ∀ (l1 : Int) (S : St), Iv l1 S → wX3_firstWrong_44' m l1 S K  (fun ml1 T => Iv ml1 T ∧ mu ml1 T < mu l1 S)
set_option maxRecDepth 100000 in
set_option maxHeartbeats 4000000 in
theorem ubX3_firstWrong_44 {G : xG} {v : Nat → Nat} {sh : Nat → Option Sh} {B : Nat × Nat} {c0 : List va_E} {m : Nat} {d : Nat} {Post : xP} {l1 : Int} {S : St} {cs : List va_E} {K : Int → St → Prop} (hd : 9 ≤ d) (hm : m ≤ 200) (hT : sb shC sh) (hS : ∀ b x, sh b = some x → ¬ isS b) (hU : sb (shMe m) sh) (hW : Wv G v sh B c0 S cs) (hP : ∀ (x : Int) (S : St) (cs : List va_E), K x S → Wv G v sh B c0 S cs → Post (some (.int (Int32.ofInt x))) cs)  (hw : wX3_firstWrong_44 m l1 S K ) : Z (RX3, cX3_firstWrong, 2, some .int, false) G d Post 44 [(0, .ref (G.1 + v 230)), (1, .int (Int32.ofInt (l1)))] [] cs := by
  unfold wX3_firstWrong_44 at hw
  obtain ⟨Iv, mu, h0, hs⟩ := hw
  have key : ∀ (n : Nat) (l1 : Int) (S : St) (cs : List va_E), mu l1 S < n → Iv l1 S → Wv G v sh B c0 S cs → Z (RX3, cX3_firstWrong, 2, some .int, false) G d Post 44 [(0, .ref (G.1 + v 230)), (1, .int (Int32.ofInt (l1)))] [] cs := by
    intro n
    induction n with
    | zero => intro l1 S cs hn; exact absurd hn (Nat.not_lt_zero _)
    | succ n ih =>
      intro l1 S cs hn hI hW
      exact ubX3_firstWrong_44' hd hm hT hS hU hW hP  (fun l1 S cs hb hW => ih l1 S cs (Nat.lt_of_lt_of_le hb.2 (Nat.le_of_lt_succ hn)) hb.1 hW) (hs l1 S hI)
  exact key _ _ _ _ (Nat.lt_succ_self _) h0 hW
def wX3_firstWrong_9' (m : Nat)  (l1 : Int) (S : St) (K : Int → St → Prop) (B9 : Int → St → Prop) : Prop := (rng (l1) ∧ (((m : Int) ≤ l1 → wX3_firstWrong_44 m (0) S K) ∧ ((¬ ((m : Int) ≤ l1)) → (wX3_isPlaced m (l1) S (fun r4 S3 => (rng (r4) ∧ ((r4 = 0 → K (l1) S3) ∧ ((¬ (r4 = 0)) → (wX3_isSound m (l1) S3 (fun r8 S7 => (rng (r8) ∧ ((¬ r8 = 0 → B9 ((l1 + 1)) S7) ∧ ((¬ (¬ r8 = 0)) → K (l1) S7)))))))))))))
set_option maxRecDepth 100000 in
set_option maxHeartbeats 4000000 in
theorem ubX3_firstWrong_9' {G : xG} {v : Nat → Nat} {sh : Nat → Option Sh} {B : Nat × Nat} {c0 : List va_E} {m : Nat} {d : Nat} {Post : xP} {l1 : Int} {S : St} {cs : List va_E} {K : Int → St → Prop} {B9 : Int → St → Prop} (hd : 9 ≤ d) (hm : m ≤ 200) (hT : sb shC sh) (hS : ∀ b x, sh b = some x → ¬ isS b) (hU : sb (shMe m) sh) (hW : Wv G v sh B c0 S cs) (hP : ∀ (x : Int) (S : St) (cs : List va_E), K x S → Wv G v sh B c0 S cs → Post (some (.int (Int32.ofInt x))) cs) (hB9 : ∀ (l1 : Int) (S : St) (cs : List va_E), B9 l1 S → Wv G v sh B c0 S cs → Z (RX3, cX3_firstWrong, 2, some .int, false) G d Post 9 [(0, .ref (G.1 + v 230)), (1, .int (Int32.ofInt (l1)))] [] cs) (hw : wX3_firstWrong_9' m l1 S K B9) : Z (RX3, cX3_firstWrong, 2, some .int, false) G d Post 9 [(0, .ref (G.1 + v 230)), (1, .int (Int32.ofInt (l1)))] [] cs := by
  unfold wX3_firstWrong_9' at hw
  refine z_iload_n dX3_firstWrong_9 rfl rfl ?_
  refine z_aload_n dX3_firstWrong_10 rfl rfl ?_
  refine v_getR hW (hU 230 _ rfl) rfl kX3 fX3_54 dX3_firstWrong_11 ?_
  refine v_alen (t0 := 0) hW (hU 231 _ rfl) rfl dX3_firstWrong_14 ?_
  obtain ⟨q2, hw⟩ := hw
  refine i_icmp_ge (tgt := 42) dX3_firstWrong_15 (by decide) q2 (m_rng hm) (fun h1 => ?_) (fun h1 => ?_)
  · have hw := hw.1 h1
    refine z_iconst (v := Int32.ofInt 0) dX3_firstWrong_42 rfl ?_
    refine z_istore_n dX3_firstWrong_43 rfl (by decide) ?_
    refine z_loc (L' := [(0, .ref (G.1 + v 230)), (1, .int (Int32.ofInt (0)))]) (List.forall_mem_cons.mpr ⟨rfl, (List.forall_mem_cons.mpr ⟨rfl, (fun _ h => nomatch h)⟩)⟩) ?_
    refine z_loc (L' := [(0, .ref (G.1 + v 230)), (1, .int (Int32.ofInt (0)))]) (List.forall_mem_cons.mpr ⟨rfl, (List.forall_mem_cons.mpr ⟨rfl, (fun _ h => nomatch h)⟩)⟩) ?_
    exact ubX3_firstWrong_44 hd hm hT hS hU hW hP  hw
  · have hw := hw.2 h1
    refine z_aload_n dX3_firstWrong_18 rfl rfl ?_
    refine z_iload_n dX3_firstWrong_19 rfl rfl ?_
    have hX := lX3_isPlaced 8 (Nat.le_refl _) hm hT hS hU hW q2 hw
    refine z_callV (As := [_]) eX3_isPlaced sX3_isPlaced lX3_74 rfl dX3_firstWrong_20 (hW.at (hU 230 _ rfl)) hX (Nat.le_trans (by decide) hd) rfl (Nat.le_of_ble_eq_true rfl) (fun r cs hp => ?_)
    obtain ⟨r4, S3, rfl, hw, hW⟩ := hp
    refine z_st (st' := [.int (Int32.ofInt (r4))]) rfl ?_
    obtain ⟨q6, hw⟩ := hw
    refine i_if_eq (tgt := 34) dX3_firstWrong_23 (by decide) q6 (fun h5 => ?_) (fun h5 => ?_)
    · have hw := hw.1 h5
      refine z_iload_n dX3_firstWrong_34 rfl rfl ?_
      exact z_ireturn dX3_firstWrong_35 rfl rfl (hP _ _ _ hw hW)
    · have hw := hw.2 h5
      refine z_aload_n dX3_firstWrong_26 rfl rfl ?_
      refine z_iload_n dX3_firstWrong_27 rfl rfl ?_
      have hX := lX3_isSound 6 (Nat.le_refl _) hm hT hS hU hW q2 hw
      refine z_callV (As := [_]) eX3_isSound sX3_isSound lX3_78 rfl dX3_firstWrong_28 (hW.at (hU 230 _ rfl)) hX (Nat.le_trans (by decide) hd) rfl (Nat.le_of_ble_eq_true rfl) (fun r cs hp => ?_)
      obtain ⟨r8, S7, rfl, hw, hW⟩ := hp
      refine z_st (st' := [.int (Int32.ofInt (r8))]) rfl ?_
      obtain ⟨q10, hw⟩ := hw
      refine i_if_ne (tgt := 36) dX3_firstWrong_31 (by decide) q10 (fun h9 => ?_) (fun h9 => ?_)
      · have hw := hw.1 h9
        refine i_iinc (l := l1) dX3_firstWrong_36 rfl (by decide) ?_
        refine z_loc (L' := [(0, .ref (G.1 + v 230)), (1, .int (Int32.ofInt ((l1 + 1))))]) (List.forall_mem_cons.mpr ⟨rfl, (List.forall_mem_cons.mpr ⟨rfl, (fun _ h => nomatch h)⟩)⟩) ?_
        refine z_goto (tgt := 9) dX3_firstWrong_39 (by decide) ?_
        refine z_loc (L' := [(0, .ref (G.1 + v 230)), (1, .int (Int32.ofInt ((l1 + 1))))]) (List.forall_mem_cons.mpr ⟨rfl, (List.forall_mem_cons.mpr ⟨rfl, (fun _ h => nomatch h)⟩)⟩) ?_
        exact hB9 _ _ _ hw hW
      · have hw := hw.2 h9
        refine z_iload_n dX3_firstWrong_34 rfl rfl ?_
        exact z_ireturn dX3_firstWrong_35 rfl rfl (hP _ _ _ hw hW)
def wX3_firstWrong_9 (m : Nat)  (l1 : Int) (S : St) (K : Int → St → Prop) : Prop := ∃ (Iv : Int → St → Prop) (mu : Int → St → Nat), Iv l1 S ∧ ∀ (l1 : Int) (S : St), Iv l1 S → wX3_firstWrong_9' m l1 S K  (fun ml1 T => Iv ml1 T ∧ mu ml1 T < mu l1 S)
set_option maxRecDepth 100000 in
set_option maxHeartbeats 4000000 in
theorem ubX3_firstWrong_9 {G : xG} {v : Nat → Nat} {sh : Nat → Option Sh} {B : Nat × Nat} {c0 : List va_E} {m : Nat} {d : Nat} {Post : xP} {l1 : Int} {S : St} {cs : List va_E} {K : Int → St → Prop} (hd : 9 ≤ d) (hm : m ≤ 200) (hT : sb shC sh) (hS : ∀ b x, sh b = some x → ¬ isS b) (hU : sb (shMe m) sh) (hW : Wv G v sh B c0 S cs) (hP : ∀ (x : Int) (S : St) (cs : List va_E), K x S → Wv G v sh B c0 S cs → Post (some (.int (Int32.ofInt x))) cs)  (hw : wX3_firstWrong_9 m l1 S K ) : Z (RX3, cX3_firstWrong, 2, some .int, false) G d Post 9 [(0, .ref (G.1 + v 230)), (1, .int (Int32.ofInt (l1)))] [] cs := by
  unfold wX3_firstWrong_9 at hw
  obtain ⟨Iv, mu, h0, hs⟩ := hw
  have key : ∀ (n : Nat) (l1 : Int) (S : St) (cs : List va_E), mu l1 S < n → Iv l1 S → Wv G v sh B c0 S cs → Z (RX3, cX3_firstWrong, 2, some .int, false) G d Post 9 [(0, .ref (G.1 + v 230)), (1, .int (Int32.ofInt (l1)))] [] cs := by
    intro n
    induction n with
    | zero => intro l1 S cs hn; exact absurd hn (Nat.not_lt_zero _)
    | succ n ih =>
      intro l1 S cs hn hI hW
      exact ubX3_firstWrong_9' hd hm hT hS hU hW hP  (fun l1 S cs hb hW => ih l1 S cs (Nat.lt_of_lt_of_le hb.2 (Nat.le_of_lt_succ hn)) hb.1 hW) (hs l1 S hI)
  exact key _ _ _ _ (Nat.lt_succ_self _) h0 hW
def wX3_firstWrong (m : Nat)  (S : St) (K : Int → St → Prop) : Prop := (wX1_clear_b S (fun r2 S1 => wX3_firstWrong_9 m (0) S1 K))
set_option maxRecDepth 100000 in
set_option maxHeartbeats 4000000 in
theorem lX3_firstWrong {G : xG} {v : Nat → Nat} {sh : Nat → Option Sh} {B : Nat × Nat} {c0 : List va_E} {m : Nat}  {S : St} {cs : List va_E} {K : Int → St → Prop} (d : Nat) (hd : 9 ≤ d) (hm : m ≤ 200) (hT : sb shC sh) (hS : ∀ b x, sh b = some x → ¬ isS b) (hU : sb (shMe m) sh) (hW : Wv G v sh B c0 S cs)  (hw : wX3_firstWrong m  S K) : X G yX3_firstWrong cX3_firstWrong 2 (some .int) d [.ref (G.1 + v 230)] cs (vI G v sh B c0 K) := by
  refine X.of false (by decide +kernel) (by decide) (Nat.le_of_ble_eq_true rfl) ?_
  show Z (RX3, cX3_firstWrong, 2, some .int, false) G d _ 0 [(0, .ref (G.1 + v 230))] [] cs
  have hP : ∀ (x : Int) (S : St) (cs : List va_E), K x S → Wv G v sh B c0 S cs → vI G v sh B c0 K (some (.int (Int32.ofInt x))) cs := fun x S cs a b => ⟨x, S, rfl, a, b⟩
  unfold wX3_firstWrong at hw
  refine z_aload_n dX3_firstWrong_0 rfl rfl ?_
  refine v_getR hW (hU 230 _ rfl) rfl kX3 fX3_37 dX3_firstWrong_1 ?_
  have hX := lX1_clear_b 0 (Nat.le_refl _) hT hS hW  hw
  refine z_callV (As := []) eX1_clear sX1_clear lX3_69 rfl dX3_firstWrong_4 (hW.at (hT 50 _ rfl)) hX (Nat.le_trans (by decide) hd) rfl (Nat.le_of_ble_eq_true rfl) (fun r cs hp => ?_)
  obtain ⟨r2, S1, rfl, hw, hW⟩ := hp
  refine z_st (st' := []) rfl ?_
  refine z_iconst (v := Int32.ofInt 0) dX3_firstWrong_7 rfl ?_
  refine z_istore_n dX3_firstWrong_8 rfl (by decide) ?_
  refine z_loc (L' := [(0, .ref (G.1 + v 230)), (1, .int (Int32.ofInt (0)))]) (List.forall_mem_cons.mpr ⟨rfl, (List.forall_mem_cons.mpr ⟨rfl, (fun _ h => nomatch h)⟩)⟩) ?_
  refine z_loc (L' := [(0, .ref (G.1 + v 230)), (1, .int (Int32.ofInt (0)))]) (List.forall_mem_cons.mpr ⟨rfl, (List.forall_mem_cons.mpr ⟨rfl, (fun _ h => nomatch h)⟩)⟩) ?_
  exact ubX3_firstWrong_9 hd hm hT hS hU hW hP  hw

def wX1_hasCell_c  (a1 a2 a3 : Int) (S : St) (K : Int → St → Prop) : Prop := rng a1 → rng a2 → rng a3 → ((a1 < 0 → K (0) S) ∧ ((¬ (a1 < 0)) → (iv 0 30 (S.1 46 3) → ((S.1 46 3 ≤ a1 → K (0) S) ∧ ((¬ (S.1 46 3 ≤ a1)) → ((a2 < 0 → K (0) S) ∧ ((¬ (a2 < 0)) → ((4 ≤ a2 → K (0) S) ∧ ((¬ (4 ≤ a2)) → ((a3 < 0 → K (0) S) ∧ ((¬ (a3 < 0)) → ((20 ≤ a3 → K (0) S) ∧ ((¬ (20 ≤ a3)) → ((0 : Int) ≤ ((a1 * 4) + a2) ∧ ((a1 * 4) + a2) < (120 : Int) ∧ (iv (-2147483648) 2147483647 (S.2 48 (((a1 * 4) + a2))) → ((S.2 48 (((a1 * 4) + a2)) ≤ a3 → K (0) S) ∧ ((¬ (S.2 48 (((a1 * 4) + a2)) ≤ a3)) → K (1) S)))))))))))))))))
set_option maxRecDepth 100000 in
set_option maxHeartbeats 4000000 in
theorem lX1_hasCell_c {G : xG} {v : Nat → Nat} {sh : Nat → Option Sh} {B : Nat × Nat} {c0 : List va_E}  {a1 a2 a3 : Int} {S : St} {cs : List va_E} {K : Int → St → Prop} (d : Nat) (hd : 0 ≤ d) (hT : sb shC sh) (hS : ∀ b x, sh b = some x → ¬ isS b) (hW : Wv G v sh B c0 S cs) (g1 : rng a1) (g2 : rng a2) (g3 : rng a3) (hw : wX1_hasCell_c a1 a2 a3 S K) : X G yX1_hasCell cX1_hasCell 4 (some .boolean) d [.ref (G.1 + v 46), .int (Int32.ofInt a1), .int (Int32.ofInt a2), .int (Int32.ofInt a3)] cs (vI G v sh B c0 K) := by
  refine X.of false (by decide +kernel) (by decide) (Nat.le_of_ble_eq_true rfl) ?_
  show Z (RX1, cX1_hasCell, 4, some .boolean, false) G d _ 0 [(0, .ref (G.1 + v 46)), (1, .int (Int32.ofInt a1)), (2, .int (Int32.ofInt a2)), (3, .int (Int32.ofInt a3))] [] cs
  have hP : ∀ (x : Int) (S : St) (cs : List va_E), K x S → Wv G v sh B c0 S cs → vI G v sh B c0 K (some (.int (Int32.ofInt x))) cs := fun x S cs a b => ⟨x, S, rfl, a, b⟩
  unfold wX1_hasCell_c at hw
  have hw := hw g1 g2 g3
  refine z_iload_n dX1_hasCell_0 rfl rfl ?_
  refine i_if_lt (tgt := 49) dX1_hasCell_1 (by decide) g1 (fun h1 => ?_) (fun h1 => ?_)
  · have hw := hw.1 h1
    refine z_iconst (v := Int32.ofInt 0) dX1_hasCell_49 rfl ?_
    exact z_ireturn dX1_hasCell_50 rfl (nar01 (by decide)) (hP _ _ _ hw hW)
  · have hw := hw.2 h1
    refine z_iload_n dX1_hasCell_4 rfl rfl ?_
    refine z_aload_n dX1_hasCell_5 rfl rfl ?_
    have q2 : iv 0 30 (S.1 46 3) := hW.iI 46 3
    have hw := hw q2
    refine v_getI hW (hT 46 _ rfl) rfl kX1 fX1_21 dX1_hasCell_6 ?_
    refine i_icmp_ge (tgt := 49) dX1_hasCell_9 (by decide) g1 (rngq q2 (by decide) (by decide)) (fun h3 => ?_) (fun h3 => ?_)
    · have hw := hw.1 h3
      refine z_iconst (v := Int32.ofInt 0) dX1_hasCell_49 rfl ?_
      exact z_ireturn dX1_hasCell_50 rfl (nar01 (by decide)) (hP _ _ _ hw hW)
    · have hw := hw.2 h3
      refine z_iload_n dX1_hasCell_12 rfl rfl ?_
      refine i_if_lt (tgt := 49) dX1_hasCell_13 (by decide) g2 (fun h4 => ?_) (fun h4 => ?_)
      · have hw := hw.1 h4
        refine z_iconst (v := Int32.ofInt 0) dX1_hasCell_49 rfl ?_
        exact z_ireturn dX1_hasCell_50 rfl (nar01 (by decide)) (hP _ _ _ hw hW)
      · have hw := hw.2 h4
        refine z_iload_n dX1_hasCell_16 rfl rfl ?_
        refine z_iconst (v := Int32.ofInt 4) dX1_hasCell_17 rfl ?_
        refine i_icmp_ge (tgt := 49) dX1_hasCell_18 (by decide) g2 ⟨by decide, by decide⟩ (fun h5 => ?_) (fun h5 => ?_)
        · have hw := hw.1 h5
          refine z_iconst (v := Int32.ofInt 0) dX1_hasCell_49 rfl ?_
          exact z_ireturn dX1_hasCell_50 rfl (nar01 (by decide)) (hP _ _ _ hw hW)
        · have hw := hw.2 h5
          refine z_iload_n dX1_hasCell_21 rfl rfl ?_
          refine i_if_lt (tgt := 49) dX1_hasCell_22 (by decide) g3 (fun h6 => ?_) (fun h6 => ?_)
          · have hw := hw.1 h6
            refine z_iconst (v := Int32.ofInt 0) dX1_hasCell_49 rfl ?_
            exact z_ireturn dX1_hasCell_50 rfl (nar01 (by decide)) (hP _ _ _ hw hW)
          · have hw := hw.2 h6
            refine z_iload_n dX1_hasCell_25 rfl rfl ?_
            refine z_bipush (v := Int32.ofInt 20) dX1_hasCell_26 (by decide) ?_
            refine i_icmp_ge (tgt := 49) dX1_hasCell_28 (by decide) g3 ⟨by decide, by decide⟩ (fun h7 => ?_) (fun h7 => ?_)
            · have hw := hw.1 h7
              refine z_iconst (v := Int32.ofInt 0) dX1_hasCell_49 rfl ?_
              exact z_ireturn dX1_hasCell_50 rfl (nar01 (by decide)) (hP _ _ _ hw hW)
            · have hw := hw.2 h7
              refine z_iload_n dX1_hasCell_31 rfl rfl ?_
              refine z_aload_n dX1_hasCell_32 rfl rfl ?_
              refine v_getR hW (hT 46 _ rfl) rfl kX1 fX1_15 dX1_hasCell_33 ?_
              refine z_iload_n dX1_hasCell_36 rfl rfl ?_
              refine z_iconst (v := Int32.ofInt 4) dX1_hasCell_37 rfl ?_
              refine i_imul dX1_hasCell_38 ?_
              refine z_iload_n dX1_hasCell_39 rfl rfl ?_
              refine i_iadd dX1_hasCell_40 ?_
              obtain ⟨q8a, q8b, hw⟩ := hw
              have q9 : iv (-2147483648) 2147483647 (S.2 48 (((a1 * 4) + a2))) := hW.iA 48 _
              have hw := hw q9
              refine v_iald hW (hT 48 _ rfl) q8a q8b (by decide) dX1_hasCell_41 ?_
              refine i_icmp_ge (tgt := 49) dX1_hasCell_42 (by decide) g3 (rngq q9 (by decide) (by decide)) (fun h10 => ?_) (fun h10 => ?_)
              · have hw := hw.1 h10
                refine z_iconst (v := Int32.ofInt 0) dX1_hasCell_49 rfl ?_
                exact z_ireturn dX1_hasCell_50 rfl (nar01 (by decide)) (hP _ _ _ hw hW)
              · have hw := hw.2 h10
                refine z_iconst (v := Int32.ofInt 1) dX1_hasCell_45 rfl ?_
                refine z_goto (tgt := 50) dX1_hasCell_46 (by decide) ?_
                exact z_ireturn dX1_hasCell_50 rfl (nar01 (by decide)) (hP _ _ _ hw hW)

def wX1_cell_b  (a1 a2 a3 : Int) (S : St) (K : Int → St → Prop) : Prop := rng a1 → rng a2 → rng a3 → (wX1_hasCell_c (a1) (a2) (a3) S (fun r2 S1 => (rng (r2) ∧ ((r2 = 0 → K ((-2)) S1) ∧ ((¬ (r2 = 0)) → ((0 : Int) ≤ ((((a1 * 4) + a2) * 20) + a3) ∧ ((((a1 * 4) + a2) * 20) + a3) < (2400 : Int) ∧ (iv (-2147483648) 2147483647 (S1.2 49 (((((a1 * 4) + a2) * 20) + a3))) → K (S1.2 49 (((((a1 * 4) + a2) * 20) + a3))) S1)))))))
set_option maxRecDepth 100000 in
set_option maxHeartbeats 4000000 in
theorem lX1_cell_b {G : xG} {v : Nat → Nat} {sh : Nat → Option Sh} {B : Nat × Nat} {c0 : List va_E}  {a1 a2 a3 : Int} {S : St} {cs : List va_E} {K : Int → St → Prop} (d : Nat) (hd : 1 ≤ d) (hT : sb shC sh) (hS : ∀ b x, sh b = some x → ¬ isS b) (hW : Wv G v sh B c0 S cs) (g1 : rng a1) (g2 : rng a2) (g3 : rng a3) (hw : wX1_cell_b a1 a2 a3 S K) : X G yX1_cell cX1_cell 4 (some .int) d [.ref (G.1 + v 46), .int (Int32.ofInt a1), .int (Int32.ofInt a2), .int (Int32.ofInt a3)] cs (vI G v sh B c0 K) := by
  refine X.of false (by decide +kernel) (by decide) (Nat.le_of_ble_eq_true rfl) ?_
  show Z (RX1, cX1_cell, 4, some .int, false) G d _ 0 [(0, .ref (G.1 + v 46)), (1, .int (Int32.ofInt a1)), (2, .int (Int32.ofInt a2)), (3, .int (Int32.ofInt a3))] [] cs
  have hP : ∀ (x : Int) (S : St) (cs : List va_E), K x S → Wv G v sh B c0 S cs → vI G v sh B c0 K (some (.int (Int32.ofInt x))) cs := fun x S cs a b => ⟨x, S, rfl, a, b⟩
  unfold wX1_cell_b at hw
  have hw := hw g1 g2 g3
  refine z_aload_n dX1_cell_0 rfl rfl ?_
  refine z_iload_n dX1_cell_1 rfl rfl ?_
  refine z_iload_n dX1_cell_2 rfl rfl ?_
  refine z_iload_n dX1_cell_3 rfl rfl ?_
  have hX := lX1_hasCell_c 0 (Nat.le_refl _) hT hS hW g1 g2 g3 hw
  refine z_callV (As := [_, _, _]) eX1_hasCell sX1_hasCell lX1_33 rfl dX1_cell_4 (hW.at (hT 46 _ rfl)) hX (Nat.le_trans (by decide) hd) rfl (Nat.le_of_ble_eq_true rfl) (fun r cs hp => ?_)
  obtain ⟨r2, S1, rfl, hw, hW⟩ := hp
  refine z_st (st' := [.int (Int32.ofInt (r2))]) rfl ?_
  obtain ⟨q4, hw⟩ := hw
  refine i_if_eq (tgt := 28) dX1_cell_7 (by decide) q4 (fun h3 => ?_) (fun h3 => ?_)
  · have hw := hw.1 h3
    refine z_bipush (v := Int32.ofInt (-2)) dX1_cell_28 (by decide) ?_
    exact z_ireturn dX1_cell_30 rfl rfl (hP _ _ _ hw hW)
  · have hw := hw.2 h3
    refine z_aload_n dX1_cell_10 rfl rfl ?_
    refine v_getR hW (hT 46 _ rfl) rfl kX1 fX1_18 dX1_cell_11 ?_
    refine z_iload_n dX1_cell_14 rfl rfl ?_
    refine z_iconst (v := Int32.ofInt 4) dX1_cell_15 rfl ?_
    refine i_imul dX1_cell_16 ?_
    refine z_iload_n dX1_cell_17 rfl rfl ?_
    refine i_iadd dX1_cell_18 ?_
    refine z_bipush (v := Int32.ofInt 20) dX1_cell_19 (by decide) ?_
    refine i_imul dX1_cell_21 ?_
    refine z_iload_n dX1_cell_22 rfl rfl ?_
    refine i_iadd dX1_cell_23 ?_
    obtain ⟨q5a, q5b, hw⟩ := hw
    have q6 : iv (-2147483648) 2147483647 (S1.2 49 (((((a1 * 4) + a2) * 20) + a3))) := hW.iA 49 _
    have hw := hw q6
    refine v_iald hW (hT 49 _ rfl) q5a q5b (by decide) dX1_cell_24 ?_
    refine z_goto (tgt := 30) dX1_cell_25 (by decide) ?_
    exact z_ireturn dX1_cell_30 rfl rfl (hP _ _ _ hw hW)

def wX1_has_c  (a1 : Int) (S : St) (K : Int → St → Prop) : Prop := rng a1 → ((a1 < 0 → K (0) S) ∧ ((¬ (a1 < 0)) → (iv 0 30 (S.1 46 3) → ((S.1 46 3 ≤ a1 → K (0) S) ∧ ((¬ (S.1 46 3 ≤ a1)) → K (1) S)))))
set_option maxRecDepth 100000 in
set_option maxHeartbeats 4000000 in
theorem lX1_has_c {G : xG} {v : Nat → Nat} {sh : Nat → Option Sh} {B : Nat × Nat} {c0 : List va_E}  {a1 : Int} {S : St} {cs : List va_E} {K : Int → St → Prop} (d : Nat) (hd : 0 ≤ d) (hT : sb shC sh) (hS : ∀ b x, sh b = some x → ¬ isS b) (hW : Wv G v sh B c0 S cs) (g1 : rng a1) (hw : wX1_has_c a1 S K) : X G yX1_has cX1_has 2 (some .boolean) d [.ref (G.1 + v 46), .int (Int32.ofInt a1)] cs (vI G v sh B c0 K) := by
  refine X.of false (by decide +kernel) (by decide) (Nat.le_of_ble_eq_true rfl) ?_
  show Z (RX1, cX1_has, 2, some .boolean, false) G d _ 0 [(0, .ref (G.1 + v 46)), (1, .int (Int32.ofInt a1))] [] cs
  have hP : ∀ (x : Int) (S : St) (cs : List va_E), K x S → Wv G v sh B c0 S cs → vI G v sh B c0 K (some (.int (Int32.ofInt x))) cs := fun x S cs a b => ⟨x, S, rfl, a, b⟩
  unfold wX1_has_c at hw
  have hw := hw g1
  refine z_iload_n dX1_has_0 rfl rfl ?_
  refine i_if_lt (tgt := 16) dX1_has_1 (by decide) g1 (fun h1 => ?_) (fun h1 => ?_)
  · have hw := hw.1 h1
    refine z_iconst (v := Int32.ofInt 0) dX1_has_16 rfl ?_
    exact z_ireturn dX1_has_17 rfl (nar01 (by decide)) (hP _ _ _ hw hW)
  · have hw := hw.2 h1
    refine z_iload_n dX1_has_4 rfl rfl ?_
    refine z_aload_n dX1_has_5 rfl rfl ?_
    have q2 : iv 0 30 (S.1 46 3) := hW.iI 46 3
    have hw := hw q2
    refine v_getI hW (hT 46 _ rfl) rfl kX1 fX1_21 dX1_has_6 ?_
    refine i_icmp_ge (tgt := 16) dX1_has_9 (by decide) g1 (rngq q2 (by decide) (by decide)) (fun h3 => ?_) (fun h3 => ?_)
    · have hw := hw.1 h3
      refine z_iconst (v := Int32.ofInt 0) dX1_has_16 rfl ?_
      exact z_ireturn dX1_has_17 rfl (nar01 (by decide)) (hP _ _ _ hw hW)
    · have hw := hw.2 h3
      refine z_iconst (v := Int32.ofInt 1) dX1_has_12 rfl ?_
      refine z_goto (tgt := 17) dX1_has_13 (by decide) ?_
      exact z_ireturn dX1_has_17 rfl (nar01 (by decide)) (hP _ _ _ hw hW)

def wX1_classOf_c  (a1 : Int) (S : St) (K : Int → St → Prop) : Prop := rng a1 → (wX1_has_c (a1) S (fun r2 S1 => (rng (r2) ∧ ((r2 = 0 → K ((-1)) S1) ∧ ((¬ (r2 = 0)) → ((0 : Int) ≤ a1 ∧ a1 < (30 : Int) ∧ (iv (-2147483648) 2147483647 (S1.2 47 (a1)) → K (S1.2 47 (a1)) S1)))))))
set_option maxRecDepth 100000 in
set_option maxHeartbeats 4000000 in
theorem lX1_classOf_c {G : xG} {v : Nat → Nat} {sh : Nat → Option Sh} {B : Nat × Nat} {c0 : List va_E}  {a1 : Int} {S : St} {cs : List va_E} {K : Int → St → Prop} (d : Nat) (hd : 1 ≤ d) (hT : sb shC sh) (hS : ∀ b x, sh b = some x → ¬ isS b) (hW : Wv G v sh B c0 S cs) (g1 : rng a1) (hw : wX1_classOf_c a1 S K) : X G yX1_classOf cX1_classOf 2 (some .int) d [.ref (G.1 + v 46), .int (Int32.ofInt a1)] cs (vI G v sh B c0 K) := by
  refine X.of false (by decide +kernel) (by decide) (Nat.le_of_ble_eq_true rfl) ?_
  show Z (RX1, cX1_classOf, 2, some .int, false) G d _ 0 [(0, .ref (G.1 + v 46)), (1, .int (Int32.ofInt a1))] [] cs
  have hP : ∀ (x : Int) (S : St) (cs : List va_E), K x S → Wv G v sh B c0 S cs → vI G v sh B c0 K (some (.int (Int32.ofInt x))) cs := fun x S cs a b => ⟨x, S, rfl, a, b⟩
  unfold wX1_classOf_c at hw
  have hw := hw g1
  refine z_aload_n dX1_classOf_0 rfl rfl ?_
  refine z_iload_n dX1_classOf_1 rfl rfl ?_
  have hX := lX1_has_c 0 (Nat.le_refl _) hT hS hW g1 hw
  refine z_callV (As := [_]) eX1_has sX1_has lX1_25 rfl dX1_classOf_2 (hW.at (hT 46 _ rfl)) hX (Nat.le_trans (by decide) hd) rfl (Nat.le_of_ble_eq_true rfl) (fun r cs hp => ?_)
  obtain ⟨r2, S1, rfl, hw, hW⟩ := hp
  refine z_st (st' := [.int (Int32.ofInt (r2))]) rfl ?_
  obtain ⟨q4, hw⟩ := hw
  refine i_if_eq (tgt := 17) dX1_classOf_5 (by decide) q4 (fun h3 => ?_) (fun h3 => ?_)
  · have hw := hw.1 h3
    refine z_iconst (v := Int32.ofInt (-1)) dX1_classOf_17 rfl ?_
    exact z_ireturn dX1_classOf_18 rfl rfl (hP _ _ _ hw hW)
  · have hw := hw.2 h3
    refine z_aload_n dX1_classOf_8 rfl rfl ?_
    refine v_getR hW (hT 46 _ rfl) rfl kX1 fX1_9 dX1_classOf_9 ?_
    refine z_iload_n dX1_classOf_12 rfl rfl ?_
    obtain ⟨q5a, q5b, hw⟩ := hw
    have q6 : iv (-2147483648) 2147483647 (S1.2 47 (a1)) := hW.iA 47 _
    have hw := hw q6
    refine v_iald hW (hT 47 _ rfl) q5a q5b (by decide) dX1_classOf_13 ?_
    refine z_goto (tgt := 18) dX1_classOf_14 (by decide) ?_
    exact z_ireturn dX1_classOf_18 rfl rfl (hP _ _ _ hw hW)

