def wX4_fieldName  (a1 a2 : Int) (S : St) (K : Int → St → Prop) : Prop := rng a1 → rng a2 → K (((6 + (a1 * 4)) + a2)) S
set_option maxRecDepth 100000 in
set_option maxHeartbeats 4000000 in
theorem lX4_fieldName {G : xG} {v : Nat → Nat} {sh : Nat → Option Sh} {B : Nat × Nat} {c0 : List va_E}  {a1 a2 : Int} {S : St} {cs : List va_E} {K : Int → St → Prop} (d : Nat) (hd : 0 ≤ d) (hT : sb shC sh) (hS : ∀ b x, sh b = some x → ¬ isS b) (hW : Wv G v sh B c0 S cs) (g1 : rng a1) (g2 : rng a2) (hw : wX4_fieldName a1 a2 S K) : X G yX4_fieldName cX4_fieldName 2 (some .int) d [.int (Int32.ofInt a1), .int (Int32.ofInt a2)] cs (vI G v sh B c0 K) := by
  refine X.of false (by decide +kernel) (by decide) (Nat.le_of_ble_eq_true rfl) ?_
  show Z (RX4, cX4_fieldName, 2, some .int, false) G d _ 0 [(0, .int (Int32.ofInt a1)), (1, .int (Int32.ofInt a2))] [] cs
  have hP : ∀ (x : Int) (S : St) (cs : List va_E), K x S → Wv G v sh B c0 S cs → vI G v sh B c0 K (some (.int (Int32.ofInt x))) cs := fun x S cs a b => ⟨x, S, rfl, a, b⟩
  unfold wX4_fieldName at hw
  have hw := hw g1 g2
  refine z_bipush (v := Int32.ofInt 6) dX4_fieldName_0 (by decide) ?_
  refine z_iload_n dX4_fieldName_2 rfl rfl ?_
  refine z_iconst (v := Int32.ofInt 4) dX4_fieldName_3 rfl ?_
  refine i_imul dX4_fieldName_4 ?_
  refine i_iadd dX4_fieldName_5 ?_
  refine z_iload_n dX4_fieldName_6 rfl rfl ?_
  refine i_iadd dX4_fieldName_7 ?_
  exact z_ireturn dX4_fieldName_8 rfl rfl (hP _ _ _ hw hW)

def wX4_isWord_27'  (l1 l3 : Int) (S : St) (K : Int → St → Prop) (B27 : Int → Int → St → Prop) : Prop := ((0 : Int) ≤ l1 ∧ l1 < (30 : Int) ∧ (iv 0 16 (S.2 35 (l1)) → (rng (l3) ∧ ((S.2 35 (l1) ≤ l3 → K (1) S) ∧ ((¬ (S.2 35 (l1) ≤ l3)) → ((0 : Int) ≤ ((l1 * 16) + l3) ∧ ((l1 * 16) + l3) < (480 : Int) ∧ (iv 0 65535 (S.2 34 (((l1 * 16) + l3))) → ((0 : Int) ≤ l3 ∧ l3 < (5 : Int) ∧ ((S.2 34 (((l1 * 16) + l3)) = (sch 0 (l3)) → B27 (l1) ((l3 + 1)) S) ∧ ((¬ (S.2 34 (((l1 * 16) + l3)) = (sch 0 (l3)))) → K (0) S))))))))))
set_option maxRecDepth 100000 in
set_option maxHeartbeats 4000000 in
theorem ubX4_isWord_27' {G : xG} {v : Nat → Nat} {sh : Nat → Option Sh} {B : Nat × Nat} {c0 : List va_E} {d : Nat} {Post : xP} {l1 l3 : Int} {S : St} {cs : List va_E} {K : Int → St → Prop} {B27 : Int → Int → St → Prop} (hd : 4 ≤ d) (hT : sb shC sh) (hS : ∀ b x, sh b = some x → ¬ isS b) (hW : Wv G v sh B c0 S cs) (hP : ∀ (x : Int) (S : St) (cs : List va_E), K x S → Wv G v sh B c0 S cs → Post (some (.int (Int32.ofInt x))) cs) (hB27 : ∀ (l1 : Int) (l3 : Int) (S : St) (cs : List va_E), B27 l1 l3 S → Wv G v sh B c0 S cs → Z (RX4, cX4_isWord, 4, some .boolean, false) G d Post 27 [(0, .ref (G.1 + v 33)), (1, .int (Int32.ofInt (l1))), (2, .ref (G.2.2.2.1 0)), (3, .int (Int32.ofInt (l3)))] [] cs) (hw : wX4_isWord_27' l1 l3 S K B27) : Z (RX4, cX4_isWord, 4, some .boolean, false) G d Post 27 [(0, .ref (G.1 + v 33)), (1, .int (Int32.ofInt (l1))), (2, .ref (G.2.2.2.1 0)), (3, .int (Int32.ofInt (l3)))] [] cs := by
  unfold wX4_isWord_27' at hw
  refine z_iload_n dX4_isWord_27 rfl rfl ?_
  refine z_aload_n dX4_isWord_28 rfl rfl ?_
  refine v_getR hW (hT 33 _ rfl) rfl kX4 fX4_15 dX4_isWord_29 ?_
  refine z_iload_n dX4_isWord_32 rfl rfl ?_
  obtain ⟨q1a, q1b, hw⟩ := hw
  have q2 : iv 0 16 (S.2 35 (l1)) := hW.iA 35 _
  have hw := hw q2
  refine v_iald hW (hT 35 _ rfl) q1a q1b (by decide) dX4_isWord_33 ?_
  obtain ⟨q4, hw⟩ := hw
  refine i_icmp_ge (tgt := 64) dX4_isWord_34 (by decide) q4 (rngq q2 (by decide) (by decide)) (fun h3 => ?_) (fun h3 => ?_)
  · have hw := hw.1 h3
    refine z_iconst (v := Int32.ofInt 1) dX4_isWord_64 rfl ?_
    exact z_ireturn dX4_isWord_65 rfl (nar01 (by decide)) (hP _ _ _ hw hW)
  · have hw := hw.2 h3
    refine z_aload_n dX4_isWord_37 rfl rfl ?_
    refine v_getR hW (hT 33 _ rfl) rfl kX4 fX4_11 dX4_isWord_38 ?_
    refine z_iload_n dX4_isWord_41 rfl rfl ?_
    refine z_bipush (v := Int32.ofInt 16) dX4_isWord_42 (by decide) ?_
    refine i_imul dX4_isWord_44 ?_
    refine z_iload_n dX4_isWord_45 rfl rfl ?_
    refine i_iadd dX4_isWord_46 ?_
    obtain ⟨q5a, q5b, hw⟩ := hw
    have q6 : iv 0 65535 (S.2 34 (((l1 * 16) + l3))) := hW.iA 34 _
    have hw := hw q6
    refine v_cald hW (hT 34 _ rfl) q5a q5b (by decide) dX4_isWord_47 ?_
    refine z_aload_n dX4_isWord_48 rfl rfl ?_
    refine z_iload_n dX4_isWord_49 rfl rfl ?_
    obtain ⟨q7a, q7b, hw⟩ := hw
    refine z_callVS (As := [_]) (show 0 < xN by decide) eJ0_charAt_5068e sJ0_charAt_5068e lX4_107 rfl dX4_isWord_50 (c_charAt 3 (Nat.le_refl _) (show 0 < xN by decide) (oI_in (n := 5) q7a q7b (by decide))) (Nat.le_trans (by decide) hd) rfl (Nat.le_of_ble_eq_true rfl) (fun r cs1 hp => ?_)
    obtain ⟨rfl, rfl⟩ := hp
    refine z_st (st' := [.int (Int32.ofInt ((sch 0 (l3)))), .int (Int32.ofInt (S.2 34 (((l1 * 16) + l3))))]) (by unfold sch; rw [Int32.ofInt_toInt]; rfl) ?_
    refine i_icmp_eq (tgt := 58) dX4_isWord_53 (by decide) (rngq q6 (by decide) (by decide)) (rng_of _) (fun h8 => ?_) (fun h8 => ?_)
    · have hw := hw.1 h8
      refine i_iinc (l := l3) dX4_isWord_58 rfl (by decide) ?_
      refine z_loc (L' := [(0, .ref (G.1 + v 33)), (1, .int (Int32.ofInt (l1))), (2, .ref (G.2.2.2.1 0)), (3, .int (Int32.ofInt ((l3 + 1))))]) (List.forall_mem_cons.mpr ⟨rfl, (List.forall_mem_cons.mpr ⟨rfl, (List.forall_mem_cons.mpr ⟨rfl, (List.forall_mem_cons.mpr ⟨rfl, (fun _ h => nomatch h)⟩)⟩)⟩)⟩) ?_
      refine z_goto (tgt := 27) dX4_isWord_61 (by decide) ?_
      refine z_loc (L' := [(0, .ref (G.1 + v 33)), (1, .int (Int32.ofInt (l1))), (2, .ref (G.2.2.2.1 0)), (3, .int (Int32.ofInt ((l3 + 1))))]) (List.forall_mem_cons.mpr ⟨rfl, (List.forall_mem_cons.mpr ⟨rfl, (List.forall_mem_cons.mpr ⟨rfl, (List.forall_mem_cons.mpr ⟨rfl, (fun _ h => nomatch h)⟩)⟩)⟩)⟩) ?_
      exact hB27 _ _ _ _ hw hW
    · have hw := hw.2 h8
      refine z_iconst (v := Int32.ofInt 0) dX4_isWord_56 rfl ?_
      exact z_ireturn dX4_isWord_57 rfl (nar01 (by decide)) (hP _ _ _ hw hW)
def wX4_isWord_27  (l1 l3 : Int) (S : St) (K : Int → St → Prop) : Prop := ∃ (Iv : Int → Int → St → Prop) (mu : Int → Int → St → Nat), Iv l1 l3 S ∧ ∀ (l1 l3 : Int) (S : St), Iv l1 l3 S → wX4_isWord_27' l1 l3 S K  (fun ml1 ml3 T => Iv ml1 ml3 T ∧ mu ml1 ml3 T < mu l1 l3 S)
set_option maxRecDepth 100000 in
set_option maxHeartbeats 4000000 in
theorem ubX4_isWord_27 {G : xG} {v : Nat → Nat} {sh : Nat → Option Sh} {B : Nat × Nat} {c0 : List va_E} {d : Nat} {Post : xP} {l1 l3 : Int} {S : St} {cs : List va_E} {K : Int → St → Prop} (hd : 4 ≤ d) (hT : sb shC sh) (hS : ∀ b x, sh b = some x → ¬ isS b) (hW : Wv G v sh B c0 S cs) (hP : ∀ (x : Int) (S : St) (cs : List va_E), K x S → Wv G v sh B c0 S cs → Post (some (.int (Int32.ofInt x))) cs)  (hw : wX4_isWord_27 l1 l3 S K ) : Z (RX4, cX4_isWord, 4, some .boolean, false) G d Post 27 [(0, .ref (G.1 + v 33)), (1, .int (Int32.ofInt (l1))), (2, .ref (G.2.2.2.1 0)), (3, .int (Int32.ofInt (l3)))] [] cs := by
  unfold wX4_isWord_27 at hw
  obtain ⟨Iv, mu, h0, hs⟩ := hw
  have key : ∀ (n : Nat) (l1 l3 : Int) (S : St) (cs : List va_E), mu l1 l3 S < n → Iv l1 l3 S → Wv G v sh B c0 S cs → Z (RX4, cX4_isWord, 4, some .boolean, false) G d Post 27 [(0, .ref (G.1 + v 33)), (1, .int (Int32.ofInt (l1))), (2, .ref (G.2.2.2.1 0)), (3, .int (Int32.ofInt (l3)))] [] cs := by
    intro n
    induction n with
    | zero => intro l1 l3 S cs hn; exact absurd hn (Nat.not_lt_zero _)
    | succ n ih =>
      intro l1 l3 S cs hn hI hW
      exact ubX4_isWord_27' hd hT hS hW hP  (fun l1 l3 S cs hb hW => ih l1 l3 S cs (Nat.lt_of_lt_of_le hb.2 (Nat.le_of_lt_succ hn)) hb.1 hW) (hs l1 l3 S hI)
  exact key _ _ _ _ _ (Nat.lt_succ_self _) h0 hW
def wX4_isWord  (a1 : Int) (S : St) (K : Int → St → Prop) : Prop := rng a1 → ((a1 < 0 → K (0) S) ∧ ((¬ (a1 < 0)) → ((30 ≤ a1 → K (0) S) ∧ ((¬ (30 ≤ a1)) → ((0 : Int) ≤ a1 ∧ a1 < (30 : Int) ∧ (iv 0 16 (S.2 35 (a1)) → ((S.2 35 (a1) = 5 → wX4_isWord_27 (a1) (0) S K) ∧ ((¬ (S.2 35 (a1) = 5)) → K (0) S))))))))
set_option maxRecDepth 100000 in
set_option maxHeartbeats 4000000 in
theorem lX4_isWord {G : xG} {v : Nat → Nat} {sh : Nat → Option Sh} {B : Nat × Nat} {c0 : List va_E}  {a1 : Int} {S : St} {cs : List va_E} {K : Int → St → Prop} (d : Nat) (hd : 4 ≤ d) (hT : sb shC sh) (hS : ∀ b x, sh b = some x → ¬ isS b) (hW : Wv G v sh B c0 S cs) (g1 : rng a1) (hw : wX4_isWord a1 S K) : X G yX4_isWord cX4_isWord 4 (some .boolean) d [.ref (G.1 + v 33), .int (Int32.ofInt a1), .ref (G.2.2.2.1 0)] cs (vI G v sh B c0 K) := by
  refine X.of false (by decide +kernel) (by decide) (Nat.le_of_ble_eq_true rfl) ?_
  show Z (RX4, cX4_isWord, 4, some .boolean, false) G d _ 0 [(0, .ref (G.1 + v 33)), (1, .int (Int32.ofInt a1)), (2, .ref (G.2.2.2.1 0))] [] cs
  have hP : ∀ (x : Int) (S : St) (cs : List va_E), K x S → Wv G v sh B c0 S cs → vI G v sh B c0 K (some (.int (Int32.ofInt x))) cs := fun x S cs a b => ⟨x, S, rfl, a, b⟩
  unfold wX4_isWord at hw
  have hw := hw g1
  refine z_iload_n dX4_isWord_0 rfl rfl ?_
  refine i_if_lt (tgt := 23) dX4_isWord_1 (by decide) g1 (fun h1 => ?_) (fun h1 => ?_)
  · have hw := hw.1 h1
    refine z_iconst (v := Int32.ofInt 0) dX4_isWord_23 rfl ?_
    exact z_ireturn dX4_isWord_24 rfl (nar01 (by decide)) (hP _ _ _ hw hW)
  · have hw := hw.2 h1
    refine z_iload_n dX4_isWord_4 rfl rfl ?_
    refine z_bipush (v := Int32.ofInt 30) dX4_isWord_5 (by decide) ?_
    refine i_icmp_ge (tgt := 23) dX4_isWord_7 (by decide) g1 ⟨by decide, by decide⟩ (fun h2 => ?_) (fun h2 => ?_)
    · have hw := hw.1 h2
      refine z_iconst (v := Int32.ofInt 0) dX4_isWord_23 rfl ?_
      exact z_ireturn dX4_isWord_24 rfl (nar01 (by decide)) (hP _ _ _ hw hW)
    · have hw := hw.2 h2
      refine z_aload_n dX4_isWord_10 rfl rfl ?_
      refine v_getR hW (hT 33 _ rfl) rfl kX4 fX4_15 dX4_isWord_11 ?_
      refine z_iload_n dX4_isWord_14 rfl rfl ?_
      obtain ⟨q3a, q3b, hw⟩ := hw
      have q4 : iv 0 16 (S.2 35 (a1)) := hW.iA 35 _
      have hw := hw q4
      refine v_iald hW (hT 35 _ rfl) q3a q3b (by decide) dX4_isWord_15 ?_
      refine z_aload_n dX4_isWord_16 rfl rfl ?_
      refine z_callVS (As := []) (show 0 < xN by decide) eJ0_length_8abf5 sJ0_length_8abf5 lX4_101 rfl dX4_isWord_17 (c_length 1 (Nat.le_refl _) (show 0 < xN by decide)) (Nat.le_trans (by decide) hd) rfl (Nat.le_of_ble_eq_true rfl) (fun r cs1 hp => ?_)
      obtain ⟨rfl, rfl⟩ := hp
      refine z_st (st' := [.int (Int32.ofInt (5)), .int (Int32.ofInt (S.2 35 (a1)))]) rfl ?_
      refine i_icmp_eq (tgt := 25) dX4_isWord_20 (by decide) (rngq q4 (by decide) (by decide)) ⟨by decide, by decide⟩ (fun h5 => ?_) (fun h5 => ?_)
      · have hw := hw.1 h5
        refine z_iconst (v := Int32.ofInt 0) dX4_isWord_25 rfl ?_
        refine z_istore_n dX4_isWord_26 rfl (by decide) ?_
        refine z_loc (L' := [(0, .ref (G.1 + v 33)), (1, .int (Int32.ofInt (a1))), (2, .ref (G.2.2.2.1 0)), (3, .int (Int32.ofInt (0)))]) (List.forall_mem_cons.mpr ⟨rfl, (List.forall_mem_cons.mpr ⟨rfl, (List.forall_mem_cons.mpr ⟨rfl, (List.forall_mem_cons.mpr ⟨rfl, (fun _ h => nomatch h)⟩)⟩)⟩)⟩) ?_
        refine z_loc (L' := [(0, .ref (G.1 + v 33)), (1, .int (Int32.ofInt (a1))), (2, .ref (G.2.2.2.1 0)), (3, .int (Int32.ofInt (0)))]) (List.forall_mem_cons.mpr ⟨rfl, (List.forall_mem_cons.mpr ⟨rfl, (List.forall_mem_cons.mpr ⟨rfl, (List.forall_mem_cons.mpr ⟨rfl, (fun _ h => nomatch h)⟩)⟩)⟩)⟩) ?_
        exact ubX4_isWord_27 hd hT hS hW hP  hw
      · have hw := hw.2 h5
        refine z_iconst (v := Int32.ofInt 0) dX4_isWord_23 rfl ?_
        exact z_ireturn dX4_isWord_24 rfl (nar01 (by decide)) (hP _ _ _ hw hW)

def wX4_isWord_b_27'  (l1 l3 : Int) (S : St) (K : Int → St → Prop) (B27 : Int → Int → St → Prop) : Prop := ((0 : Int) ≤ l1 ∧ l1 < (30 : Int) ∧ (iv 0 16 (S.2 35 (l1)) → (rng (l3) ∧ ((S.2 35 (l1) ≤ l3 → K (1) S) ∧ ((¬ (S.2 35 (l1) ≤ l3)) → ((0 : Int) ≤ ((l1 * 16) + l3) ∧ ((l1 * 16) + l3) < (480 : Int) ∧ (iv 0 65535 (S.2 34 (((l1 * 16) + l3))) → ((0 : Int) ≤ l3 ∧ l3 < (2 : Int) ∧ ((S.2 34 (((l1 * 16) + l3)) = (sch 1 (l3)) → B27 (l1) ((l3 + 1)) S) ∧ ((¬ (S.2 34 (((l1 * 16) + l3)) = (sch 1 (l3)))) → K (0) S))))))))))
set_option maxRecDepth 100000 in
set_option maxHeartbeats 4000000 in
theorem ubX4_isWord_b_27' {G : xG} {v : Nat → Nat} {sh : Nat → Option Sh} {B : Nat × Nat} {c0 : List va_E} {d : Nat} {Post : xP} {l1 l3 : Int} {S : St} {cs : List va_E} {K : Int → St → Prop} {B27 : Int → Int → St → Prop} (hd : 4 ≤ d) (hT : sb shC sh) (hS : ∀ b x, sh b = some x → ¬ isS b) (hW : Wv G v sh B c0 S cs) (hP : ∀ (x : Int) (S : St) (cs : List va_E), K x S → Wv G v sh B c0 S cs → Post (some (.int (Int32.ofInt x))) cs) (hB27 : ∀ (l1 : Int) (l3 : Int) (S : St) (cs : List va_E), B27 l1 l3 S → Wv G v sh B c0 S cs → Z (RX4, cX4_isWord, 4, some .boolean, false) G d Post 27 [(0, .ref (G.1 + v 33)), (1, .int (Int32.ofInt (l1))), (2, .ref (G.2.2.2.1 1)), (3, .int (Int32.ofInt (l3)))] [] cs) (hw : wX4_isWord_b_27' l1 l3 S K B27) : Z (RX4, cX4_isWord, 4, some .boolean, false) G d Post 27 [(0, .ref (G.1 + v 33)), (1, .int (Int32.ofInt (l1))), (2, .ref (G.2.2.2.1 1)), (3, .int (Int32.ofInt (l3)))] [] cs := by
  unfold wX4_isWord_b_27' at hw
  refine z_iload_n dX4_isWord_27 rfl rfl ?_
  refine z_aload_n dX4_isWord_28 rfl rfl ?_
  refine v_getR hW (hT 33 _ rfl) rfl kX4 fX4_15 dX4_isWord_29 ?_
  refine z_iload_n dX4_isWord_32 rfl rfl ?_
  obtain ⟨q1a, q1b, hw⟩ := hw
  have q2 : iv 0 16 (S.2 35 (l1)) := hW.iA 35 _
  have hw := hw q2
  refine v_iald hW (hT 35 _ rfl) q1a q1b (by decide) dX4_isWord_33 ?_
  obtain ⟨q4, hw⟩ := hw
  refine i_icmp_ge (tgt := 64) dX4_isWord_34 (by decide) q4 (rngq q2 (by decide) (by decide)) (fun h3 => ?_) (fun h3 => ?_)
  · have hw := hw.1 h3
    refine z_iconst (v := Int32.ofInt 1) dX4_isWord_64 rfl ?_
    exact z_ireturn dX4_isWord_65 rfl (nar01 (by decide)) (hP _ _ _ hw hW)
  · have hw := hw.2 h3
    refine z_aload_n dX4_isWord_37 rfl rfl ?_
    refine v_getR hW (hT 33 _ rfl) rfl kX4 fX4_11 dX4_isWord_38 ?_
    refine z_iload_n dX4_isWord_41 rfl rfl ?_
    refine z_bipush (v := Int32.ofInt 16) dX4_isWord_42 (by decide) ?_
    refine i_imul dX4_isWord_44 ?_
    refine z_iload_n dX4_isWord_45 rfl rfl ?_
    refine i_iadd dX4_isWord_46 ?_
    obtain ⟨q5a, q5b, hw⟩ := hw
    have q6 : iv 0 65535 (S.2 34 (((l1 * 16) + l3))) := hW.iA 34 _
    have hw := hw q6
    refine v_cald hW (hT 34 _ rfl) q5a q5b (by decide) dX4_isWord_47 ?_
    refine z_aload_n dX4_isWord_48 rfl rfl ?_
    refine z_iload_n dX4_isWord_49 rfl rfl ?_
    obtain ⟨q7a, q7b, hw⟩ := hw
    refine z_callVS (As := [_]) (show 1 < xN by decide) eJ0_charAt_5068e sJ0_charAt_5068e lX4_107 rfl dX4_isWord_50 (c_charAt 3 (Nat.le_refl _) (show 1 < xN by decide) (oI_in (n := 2) q7a q7b (by decide))) (Nat.le_trans (by decide) hd) rfl (Nat.le_of_ble_eq_true rfl) (fun r cs1 hp => ?_)
    obtain ⟨rfl, rfl⟩ := hp
    refine z_st (st' := [.int (Int32.ofInt ((sch 1 (l3)))), .int (Int32.ofInt (S.2 34 (((l1 * 16) + l3))))]) (by unfold sch; rw [Int32.ofInt_toInt]; rfl) ?_
    refine i_icmp_eq (tgt := 58) dX4_isWord_53 (by decide) (rngq q6 (by decide) (by decide)) (rng_of _) (fun h8 => ?_) (fun h8 => ?_)
    · have hw := hw.1 h8
      refine i_iinc (l := l3) dX4_isWord_58 rfl (by decide) ?_
      refine z_loc (L' := [(0, .ref (G.1 + v 33)), (1, .int (Int32.ofInt (l1))), (2, .ref (G.2.2.2.1 1)), (3, .int (Int32.ofInt ((l3 + 1))))]) (List.forall_mem_cons.mpr ⟨rfl, (List.forall_mem_cons.mpr ⟨rfl, (List.forall_mem_cons.mpr ⟨rfl, (List.forall_mem_cons.mpr ⟨rfl, (fun _ h => nomatch h)⟩)⟩)⟩)⟩) ?_
      refine z_goto (tgt := 27) dX4_isWord_61 (by decide) ?_
      refine z_loc (L' := [(0, .ref (G.1 + v 33)), (1, .int (Int32.ofInt (l1))), (2, .ref (G.2.2.2.1 1)), (3, .int (Int32.ofInt ((l3 + 1))))]) (List.forall_mem_cons.mpr ⟨rfl, (List.forall_mem_cons.mpr ⟨rfl, (List.forall_mem_cons.mpr ⟨rfl, (List.forall_mem_cons.mpr ⟨rfl, (fun _ h => nomatch h)⟩)⟩)⟩)⟩) ?_
      exact hB27 _ _ _ _ hw hW
    · have hw := hw.2 h8
      refine z_iconst (v := Int32.ofInt 0) dX4_isWord_56 rfl ?_
      exact z_ireturn dX4_isWord_57 rfl (nar01 (by decide)) (hP _ _ _ hw hW)
def wX4_isWord_b_27  (l1 l3 : Int) (S : St) (K : Int → St → Prop) : Prop := ∃ (Iv : Int → Int → St → Prop) (mu : Int → Int → St → Nat), Iv l1 l3 S ∧ ∀ (l1 l3 : Int) (S : St), Iv l1 l3 S → wX4_isWord_b_27' l1 l3 S K  (fun ml1 ml3 T => Iv ml1 ml3 T ∧ mu ml1 ml3 T < mu l1 l3 S)
set_option maxRecDepth 100000 in
set_option maxHeartbeats 4000000 in
theorem ubX4_isWord_b_27 {G : xG} {v : Nat → Nat} {sh : Nat → Option Sh} {B : Nat × Nat} {c0 : List va_E} {d : Nat} {Post : xP} {l1 l3 : Int} {S : St} {cs : List va_E} {K : Int → St → Prop} (hd : 4 ≤ d) (hT : sb shC sh) (hS : ∀ b x, sh b = some x → ¬ isS b) (hW : Wv G v sh B c0 S cs) (hP : ∀ (x : Int) (S : St) (cs : List va_E), K x S → Wv G v sh B c0 S cs → Post (some (.int (Int32.ofInt x))) cs)  (hw : wX4_isWord_b_27 l1 l3 S K ) : Z (RX4, cX4_isWord, 4, some .boolean, false) G d Post 27 [(0, .ref (G.1 + v 33)), (1, .int (Int32.ofInt (l1))), (2, .ref (G.2.2.2.1 1)), (3, .int (Int32.ofInt (l3)))] [] cs := by
  unfold wX4_isWord_b_27 at hw
  obtain ⟨Iv, mu, h0, hs⟩ := hw
  have key : ∀ (n : Nat) (l1 l3 : Int) (S : St) (cs : List va_E), mu l1 l3 S < n → Iv l1 l3 S → Wv G v sh B c0 S cs → Z (RX4, cX4_isWord, 4, some .boolean, false) G d Post 27 [(0, .ref (G.1 + v 33)), (1, .int (Int32.ofInt (l1))), (2, .ref (G.2.2.2.1 1)), (3, .int (Int32.ofInt (l3)))] [] cs := by
    intro n
    induction n with
    | zero => intro l1 l3 S cs hn; exact absurd hn (Nat.not_lt_zero _)
    | succ n ih =>
      intro l1 l3 S cs hn hI hW
      exact ubX4_isWord_b_27' hd hT hS hW hP  (fun l1 l3 S cs hb hW => ih l1 l3 S cs (Nat.lt_of_lt_of_le hb.2 (Nat.le_of_lt_succ hn)) hb.1 hW) (hs l1 l3 S hI)
  exact key _ _ _ _ _ (Nat.lt_succ_self _) h0 hW
def wX4_isWord_b  (a1 : Int) (S : St) (K : Int → St → Prop) : Prop := rng a1 → ((a1 < 0 → K (0) S) ∧ ((¬ (a1 < 0)) → ((30 ≤ a1 → K (0) S) ∧ ((¬ (30 ≤ a1)) → ((0 : Int) ≤ a1 ∧ a1 < (30 : Int) ∧ (iv 0 16 (S.2 35 (a1)) → ((S.2 35 (a1) = 2 → wX4_isWord_b_27 (a1) (0) S K) ∧ ((¬ (S.2 35 (a1) = 2)) → K (0) S))))))))
set_option maxRecDepth 100000 in
set_option maxHeartbeats 4000000 in
theorem lX4_isWord_b {G : xG} {v : Nat → Nat} {sh : Nat → Option Sh} {B : Nat × Nat} {c0 : List va_E}  {a1 : Int} {S : St} {cs : List va_E} {K : Int → St → Prop} (d : Nat) (hd : 4 ≤ d) (hT : sb shC sh) (hS : ∀ b x, sh b = some x → ¬ isS b) (hW : Wv G v sh B c0 S cs) (g1 : rng a1) (hw : wX4_isWord_b a1 S K) : X G yX4_isWord cX4_isWord 4 (some .boolean) d [.ref (G.1 + v 33), .int (Int32.ofInt a1), .ref (G.2.2.2.1 1)] cs (vI G v sh B c0 K) := by
  refine X.of false (by decide +kernel) (by decide) (Nat.le_of_ble_eq_true rfl) ?_
  show Z (RX4, cX4_isWord, 4, some .boolean, false) G d _ 0 [(0, .ref (G.1 + v 33)), (1, .int (Int32.ofInt a1)), (2, .ref (G.2.2.2.1 1))] [] cs
  have hP : ∀ (x : Int) (S : St) (cs : List va_E), K x S → Wv G v sh B c0 S cs → vI G v sh B c0 K (some (.int (Int32.ofInt x))) cs := fun x S cs a b => ⟨x, S, rfl, a, b⟩
  unfold wX4_isWord_b at hw
  have hw := hw g1
  refine z_iload_n dX4_isWord_0 rfl rfl ?_
  refine i_if_lt (tgt := 23) dX4_isWord_1 (by decide) g1 (fun h1 => ?_) (fun h1 => ?_)
  · have hw := hw.1 h1
    refine z_iconst (v := Int32.ofInt 0) dX4_isWord_23 rfl ?_
    exact z_ireturn dX4_isWord_24 rfl (nar01 (by decide)) (hP _ _ _ hw hW)
  · have hw := hw.2 h1
    refine z_iload_n dX4_isWord_4 rfl rfl ?_
    refine z_bipush (v := Int32.ofInt 30) dX4_isWord_5 (by decide) ?_
    refine i_icmp_ge (tgt := 23) dX4_isWord_7 (by decide) g1 ⟨by decide, by decide⟩ (fun h2 => ?_) (fun h2 => ?_)
    · have hw := hw.1 h2
      refine z_iconst (v := Int32.ofInt 0) dX4_isWord_23 rfl ?_
      exact z_ireturn dX4_isWord_24 rfl (nar01 (by decide)) (hP _ _ _ hw hW)
    · have hw := hw.2 h2
      refine z_aload_n dX4_isWord_10 rfl rfl ?_
      refine v_getR hW (hT 33 _ rfl) rfl kX4 fX4_15 dX4_isWord_11 ?_
      refine z_iload_n dX4_isWord_14 rfl rfl ?_
      obtain ⟨q3a, q3b, hw⟩ := hw
      have q4 : iv 0 16 (S.2 35 (a1)) := hW.iA 35 _
      have hw := hw q4
      refine v_iald hW (hT 35 _ rfl) q3a q3b (by decide) dX4_isWord_15 ?_
      refine z_aload_n dX4_isWord_16 rfl rfl ?_
      refine z_callVS (As := []) (show 1 < xN by decide) eJ0_length_8abf5 sJ0_length_8abf5 lX4_101 rfl dX4_isWord_17 (c_length 1 (Nat.le_refl _) (show 1 < xN by decide)) (Nat.le_trans (by decide) hd) rfl (Nat.le_of_ble_eq_true rfl) (fun r cs1 hp => ?_)
      obtain ⟨rfl, rfl⟩ := hp
      refine z_st (st' := [.int (Int32.ofInt (2)), .int (Int32.ofInt (S.2 35 (a1)))]) rfl ?_
      refine i_icmp_eq (tgt := 25) dX4_isWord_20 (by decide) (rngq q4 (by decide) (by decide)) ⟨by decide, by decide⟩ (fun h5 => ?_) (fun h5 => ?_)
      · have hw := hw.1 h5
        refine z_iconst (v := Int32.ofInt 0) dX4_isWord_25 rfl ?_
        refine z_istore_n dX4_isWord_26 rfl (by decide) ?_
        refine z_loc (L' := [(0, .ref (G.1 + v 33)), (1, .int (Int32.ofInt (a1))), (2, .ref (G.2.2.2.1 1)), (3, .int (Int32.ofInt (0)))]) (List.forall_mem_cons.mpr ⟨rfl, (List.forall_mem_cons.mpr ⟨rfl, (List.forall_mem_cons.mpr ⟨rfl, (List.forall_mem_cons.mpr ⟨rfl, (fun _ h => nomatch h)⟩)⟩)⟩)⟩) ?_
        refine z_loc (L' := [(0, .ref (G.1 + v 33)), (1, .int (Int32.ofInt (a1))), (2, .ref (G.2.2.2.1 1)), (3, .int (Int32.ofInt (0)))]) (List.forall_mem_cons.mpr ⟨rfl, (List.forall_mem_cons.mpr ⟨rfl, (List.forall_mem_cons.mpr ⟨rfl, (List.forall_mem_cons.mpr ⟨rfl, (fun _ h => nomatch h)⟩)⟩)⟩)⟩) ?_
        exact ubX4_isWord_b_27 hd hT hS hW hP  hw
      · have hw := hw.2 h5
        refine z_iconst (v := Int32.ofInt 0) dX4_isWord_23 rfl ?_
        exact z_ireturn dX4_isWord_24 rfl (nar01 (by decide)) (hP _ _ _ hw hW)

def wX4_isTwin_39'  (l1 l2 l3 : Int) (S : St) (K : Int → St → Prop) (B39 : Int → Int → Int → St → Prop) : Prop := ((0 : Int) ≤ l1 ∧ l1 < (30 : Int) ∧ (iv 0 16 (S.2 35 (l1)) → (rng (l3) ∧ ((S.2 35 (l1) ≤ l3 → K (1) S) ∧ ((¬ (S.2 35 (l1) ≤ l3)) → ((0 : Int) ≤ ((l1 * 16) + l3) ∧ ((l1 * 16) + l3) < (480 : Int) ∧ (iv 0 65535 (S.2 34 (((l1 * 16) + l3))) → ((0 : Int) ≤ ((l2 * 16) + l3) ∧ ((l2 * 16) + l3) < (480 : Int) ∧ (iv 0 65535 (S.2 34 (((l2 * 16) + l3))) → ((S.2 34 (((l1 * 16) + l3)) = S.2 34 (((l2 * 16) + l3)) → B39 (l1) (l2) ((l3 + 1)) S) ∧ ((¬ (S.2 34 (((l1 * 16) + l3)) = S.2 34 (((l2 * 16) + l3)))) → K (0) S)))))))))))
set_option maxRecDepth 100000 in
set_option maxHeartbeats 4000000 in
theorem ubX4_isTwin_39' {G : xG} {v : Nat → Nat} {sh : Nat → Option Sh} {B : Nat × Nat} {c0 : List va_E} {d : Nat} {Post : xP} {l1 l2 l3 : Int} {S : St} {cs : List va_E} {K : Int → St → Prop} {B39 : Int → Int → Int → St → Prop} (hd : 0 ≤ d) (hT : sb shC sh) (hS : ∀ b x, sh b = some x → ¬ isS b) (hW : Wv G v sh B c0 S cs) (hP : ∀ (x : Int) (S : St) (cs : List va_E), K x S → Wv G v sh B c0 S cs → Post (some (.int (Int32.ofInt x))) cs) (hB39 : ∀ (l1 : Int) (l2 : Int) (l3 : Int) (S : St) (cs : List va_E), B39 l1 l2 l3 S → Wv G v sh B c0 S cs → Z (RX4, cX4_isTwin, 4, some .boolean, false) G d Post 39 [(0, .ref (G.1 + v 33)), (1, .int (Int32.ofInt (l1))), (2, .int (Int32.ofInt (l2))), (3, .int (Int32.ofInt (l3)))] [] cs) (hw : wX4_isTwin_39' l1 l2 l3 S K B39) : Z (RX4, cX4_isTwin, 4, some .boolean, false) G d Post 39 [(0, .ref (G.1 + v 33)), (1, .int (Int32.ofInt (l1))), (2, .int (Int32.ofInt (l2))), (3, .int (Int32.ofInt (l3)))] [] cs := by
  unfold wX4_isTwin_39' at hw
  refine z_iload_n dX4_isTwin_39 rfl rfl ?_
  refine z_aload_n dX4_isTwin_40 rfl rfl ?_
  refine v_getR hW (hT 33 _ rfl) rfl kX4 fX4_15 dX4_isTwin_41 ?_
  refine z_iload_n dX4_isTwin_44 rfl rfl ?_
  obtain ⟨q1a, q1b, hw⟩ := hw
  have q2 : iv 0 16 (S.2 35 (l1)) := hW.iA 35 _
  have hw := hw q2
  refine v_iald hW (hT 35 _ rfl) q1a q1b (by decide) dX4_isTwin_45 ?_
  obtain ⟨q4, hw⟩ := hw
  refine i_icmp_ge (tgt := 82) dX4_isTwin_46 (by decide) q4 (rngq q2 (by decide) (by decide)) (fun h3 => ?_) (fun h3 => ?_)
  · have hw := hw.1 h3
    refine z_iconst (v := Int32.ofInt 1) dX4_isTwin_82 rfl ?_
    exact z_ireturn dX4_isTwin_83 rfl (nar01 (by decide)) (hP _ _ _ hw hW)
  · have hw := hw.2 h3
    refine z_aload_n dX4_isTwin_49 rfl rfl ?_
    refine v_getR hW (hT 33 _ rfl) rfl kX4 fX4_11 dX4_isTwin_50 ?_
    refine z_iload_n dX4_isTwin_53 rfl rfl ?_
    refine z_bipush (v := Int32.ofInt 16) dX4_isTwin_54 (by decide) ?_
    refine i_imul dX4_isTwin_56 ?_
    refine z_iload_n dX4_isTwin_57 rfl rfl ?_
    refine i_iadd dX4_isTwin_58 ?_
    obtain ⟨q5a, q5b, hw⟩ := hw
    have q6 : iv 0 65535 (S.2 34 (((l1 * 16) + l3))) := hW.iA 34 _
    have hw := hw q6
    refine v_cald hW (hT 34 _ rfl) q5a q5b (by decide) dX4_isTwin_59 ?_
    refine z_aload_n dX4_isTwin_60 rfl rfl ?_
    refine v_getR hW (hT 33 _ rfl) rfl kX4 fX4_11 dX4_isTwin_61 ?_
    refine z_iload_n dX4_isTwin_64 rfl rfl ?_
    refine z_bipush (v := Int32.ofInt 16) dX4_isTwin_65 (by decide) ?_
    refine i_imul dX4_isTwin_67 ?_
    refine z_iload_n dX4_isTwin_68 rfl rfl ?_
    refine i_iadd dX4_isTwin_69 ?_
    obtain ⟨q7a, q7b, hw⟩ := hw
    have q8 : iv 0 65535 (S.2 34 (((l2 * 16) + l3))) := hW.iA 34 _
    have hw := hw q8
    refine v_cald hW (hT 34 _ rfl) q7a q7b (by decide) dX4_isTwin_70 ?_
    refine i_icmp_eq (tgt := 76) dX4_isTwin_71 (by decide) (rngq q6 (by decide) (by decide)) (rngq q8 (by decide) (by decide)) (fun h9 => ?_) (fun h9 => ?_)
    · have hw := hw.1 h9
      refine i_iinc (l := l3) dX4_isTwin_76 rfl (by decide) ?_
      refine z_loc (L' := [(0, .ref (G.1 + v 33)), (1, .int (Int32.ofInt (l1))), (2, .int (Int32.ofInt (l2))), (3, .int (Int32.ofInt ((l3 + 1))))]) (List.forall_mem_cons.mpr ⟨rfl, (List.forall_mem_cons.mpr ⟨rfl, (List.forall_mem_cons.mpr ⟨rfl, (List.forall_mem_cons.mpr ⟨rfl, (fun _ h => nomatch h)⟩)⟩)⟩)⟩) ?_
      refine z_goto (tgt := 39) dX4_isTwin_79 (by decide) ?_
      refine z_loc (L' := [(0, .ref (G.1 + v 33)), (1, .int (Int32.ofInt (l1))), (2, .int (Int32.ofInt (l2))), (3, .int (Int32.ofInt ((l3 + 1))))]) (List.forall_mem_cons.mpr ⟨rfl, (List.forall_mem_cons.mpr ⟨rfl, (List.forall_mem_cons.mpr ⟨rfl, (List.forall_mem_cons.mpr ⟨rfl, (fun _ h => nomatch h)⟩)⟩)⟩)⟩) ?_
      exact hB39 _ _ _ _ _ hw hW
    · have hw := hw.2 h9
      refine z_iconst (v := Int32.ofInt 0) dX4_isTwin_74 rfl ?_
      exact z_ireturn dX4_isTwin_75 rfl (nar01 (by decide)) (hP _ _ _ hw hW)
def wX4_isTwin_39  (l1 l2 l3 : Int) (S : St) (K : Int → St → Prop) : Prop := ∃ (Iv : Int → Int → Int → St → Prop) (mu : Int → Int → Int → St → Nat), Iv l1 l2 l3 S ∧ ∀ (l1 l2 l3 : Int) (S : St), Iv l1 l2 l3 S → wX4_isTwin_39' l1 l2 l3 S K  (fun ml1 ml2 ml3 T => Iv ml1 ml2 ml3 T ∧ mu ml1 ml2 ml3 T < mu l1 l2 l3 S)
set_option maxRecDepth 100000 in
set_option maxHeartbeats 4000000 in
theorem ubX4_isTwin_39 {G : xG} {v : Nat → Nat} {sh : Nat → Option Sh} {B : Nat × Nat} {c0 : List va_E} {d : Nat} {Post : xP} {l1 l2 l3 : Int} {S : St} {cs : List va_E} {K : Int → St → Prop} (hd : 0 ≤ d) (hT : sb shC sh) (hS : ∀ b x, sh b = some x → ¬ isS b) (hW : Wv G v sh B c0 S cs) (hP : ∀ (x : Int) (S : St) (cs : List va_E), K x S → Wv G v sh B c0 S cs → Post (some (.int (Int32.ofInt x))) cs)  (hw : wX4_isTwin_39 l1 l2 l3 S K ) : Z (RX4, cX4_isTwin, 4, some .boolean, false) G d Post 39 [(0, .ref (G.1 + v 33)), (1, .int (Int32.ofInt (l1))), (2, .int (Int32.ofInt (l2))), (3, .int (Int32.ofInt (l3)))] [] cs := by
  unfold wX4_isTwin_39 at hw
  obtain ⟨Iv, mu, h0, hs⟩ := hw
  have key : ∀ (n : Nat) (l1 l2 l3 : Int) (S : St) (cs : List va_E), mu l1 l2 l3 S < n → Iv l1 l2 l3 S → Wv G v sh B c0 S cs → Z (RX4, cX4_isTwin, 4, some .boolean, false) G d Post 39 [(0, .ref (G.1 + v 33)), (1, .int (Int32.ofInt (l1))), (2, .int (Int32.ofInt (l2))), (3, .int (Int32.ofInt (l3)))] [] cs := by
    intro n
    induction n with
    | zero => intro l1 l2 l3 S cs hn; exact absurd hn (Nat.not_lt_zero _)
    | succ n ih =>
      intro l1 l2 l3 S cs hn hI hW
      exact ubX4_isTwin_39' hd hT hS hW hP  (fun l1 l2 l3 S cs hb hW => ih l1 l2 l3 S cs (Nat.lt_of_lt_of_le hb.2 (Nat.le_of_lt_succ hn)) hb.1 hW) (hs l1 l2 l3 S hI)
  exact key _ _ _ _ _ _ (Nat.lt_succ_self _) h0 hW
def wX4_isTwin  (a1 a2 : Int) (S : St) (K : Int → St → Prop) : Prop := rng a1 → rng a2 → ((a1 < 0 → K (0) S) ∧ ((¬ (a1 < 0)) → ((a2 < 0 → K (0) S) ∧ ((¬ (a2 < 0)) → ((30 ≤ a1 → K (0) S) ∧ ((¬ (30 ≤ a1)) → ((30 ≤ a2 → K (0) S) ∧ ((¬ (30 ≤ a2)) → ((0 : Int) ≤ a1 ∧ a1 < (30 : Int) ∧ (iv 0 16 (S.2 35 (a1)) → ((0 : Int) ≤ a2 ∧ a2 < (30 : Int) ∧ (iv 0 16 (S.2 35 (a2)) → ((S.2 35 (a1) = S.2 35 (a2) → wX4_isTwin_39 (a1) (a2) (0) S K) ∧ ((¬ (S.2 35 (a1) = S.2 35 (a2))) → K (0) S))))))))))))))
set_option maxRecDepth 100000 in
set_option maxHeartbeats 4000000 in
theorem lX4_isTwin {G : xG} {v : Nat → Nat} {sh : Nat → Option Sh} {B : Nat × Nat} {c0 : List va_E}  {a1 a2 : Int} {S : St} {cs : List va_E} {K : Int → St → Prop} (d : Nat) (hd : 0 ≤ d) (hT : sb shC sh) (hS : ∀ b x, sh b = some x → ¬ isS b) (hW : Wv G v sh B c0 S cs) (g1 : rng a1) (g2 : rng a2) (hw : wX4_isTwin a1 a2 S K) : X G yX4_isTwin cX4_isTwin 4 (some .boolean) d [.ref (G.1 + v 33), .int (Int32.ofInt a1), .int (Int32.ofInt a2)] cs (vI G v sh B c0 K) := by
  refine X.of false (by decide +kernel) (by decide) (Nat.le_of_ble_eq_true rfl) ?_
  show Z (RX4, cX4_isTwin, 4, some .boolean, false) G d _ 0 [(0, .ref (G.1 + v 33)), (1, .int (Int32.ofInt a1)), (2, .int (Int32.ofInt a2))] [] cs
  have hP : ∀ (x : Int) (S : St) (cs : List va_E), K x S → Wv G v sh B c0 S cs → vI G v sh B c0 K (some (.int (Int32.ofInt x))) cs := fun x S cs a b => ⟨x, S, rfl, a, b⟩
  unfold wX4_isTwin at hw
  have hw := hw g1 g2
  refine z_iload_n dX4_isTwin_0 rfl rfl ?_
  refine i_if_lt (tgt := 35) dX4_isTwin_1 (by decide) g1 (fun h1 => ?_) (fun h1 => ?_)
  · have hw := hw.1 h1
    refine z_iconst (v := Int32.ofInt 0) dX4_isTwin_35 rfl ?_
    exact z_ireturn dX4_isTwin_36 rfl (nar01 (by decide)) (hP _ _ _ hw hW)
  · have hw := hw.2 h1
    refine z_iload_n dX4_isTwin_4 rfl rfl ?_
    refine i_if_lt (tgt := 35) dX4_isTwin_5 (by decide) g2 (fun h2 => ?_) (fun h2 => ?_)
    · have hw := hw.1 h2
      refine z_iconst (v := Int32.ofInt 0) dX4_isTwin_35 rfl ?_
      exact z_ireturn dX4_isTwin_36 rfl (nar01 (by decide)) (hP _ _ _ hw hW)
    · have hw := hw.2 h2
      refine z_iload_n dX4_isTwin_8 rfl rfl ?_
      refine z_bipush (v := Int32.ofInt 30) dX4_isTwin_9 (by decide) ?_
      refine i_icmp_ge (tgt := 35) dX4_isTwin_11 (by decide) g1 ⟨by decide, by decide⟩ (fun h3 => ?_) (fun h3 => ?_)
      · have hw := hw.1 h3
        refine z_iconst (v := Int32.ofInt 0) dX4_isTwin_35 rfl ?_
        exact z_ireturn dX4_isTwin_36 rfl (nar01 (by decide)) (hP _ _ _ hw hW)
      · have hw := hw.2 h3
        refine z_iload_n dX4_isTwin_14 rfl rfl ?_
        refine z_bipush (v := Int32.ofInt 30) dX4_isTwin_15 (by decide) ?_
        refine i_icmp_ge (tgt := 35) dX4_isTwin_17 (by decide) g2 ⟨by decide, by decide⟩ (fun h4 => ?_) (fun h4 => ?_)
        · have hw := hw.1 h4
          refine z_iconst (v := Int32.ofInt 0) dX4_isTwin_35 rfl ?_
          exact z_ireturn dX4_isTwin_36 rfl (nar01 (by decide)) (hP _ _ _ hw hW)
        · have hw := hw.2 h4
          refine z_aload_n dX4_isTwin_20 rfl rfl ?_
          refine v_getR hW (hT 33 _ rfl) rfl kX4 fX4_15 dX4_isTwin_21 ?_
          refine z_iload_n dX4_isTwin_24 rfl rfl ?_
          obtain ⟨q5a, q5b, hw⟩ := hw
          have q6 : iv 0 16 (S.2 35 (a1)) := hW.iA 35 _
          have hw := hw q6
          refine v_iald hW (hT 35 _ rfl) q5a q5b (by decide) dX4_isTwin_25 ?_
          refine z_aload_n dX4_isTwin_26 rfl rfl ?_
          refine v_getR hW (hT 33 _ rfl) rfl kX4 fX4_15 dX4_isTwin_27 ?_
          refine z_iload_n dX4_isTwin_30 rfl rfl ?_
          obtain ⟨q7a, q7b, hw⟩ := hw
          have q8 : iv 0 16 (S.2 35 (a2)) := hW.iA 35 _
          have hw := hw q8
          refine v_iald hW (hT 35 _ rfl) q7a q7b (by decide) dX4_isTwin_31 ?_
          refine i_icmp_eq (tgt := 37) dX4_isTwin_32 (by decide) (rngq q6 (by decide) (by decide)) (rngq q8 (by decide) (by decide)) (fun h9 => ?_) (fun h9 => ?_)
          · have hw := hw.1 h9
            refine z_iconst (v := Int32.ofInt 0) dX4_isTwin_37 rfl ?_
            refine z_istore_n dX4_isTwin_38 rfl (by decide) ?_
            refine z_loc (L' := [(0, .ref (G.1 + v 33)), (1, .int (Int32.ofInt (a1))), (2, .int (Int32.ofInt (a2))), (3, .int (Int32.ofInt (0)))]) (List.forall_mem_cons.mpr ⟨rfl, (List.forall_mem_cons.mpr ⟨rfl, (List.forall_mem_cons.mpr ⟨rfl, (List.forall_mem_cons.mpr ⟨rfl, (fun _ h => nomatch h)⟩)⟩)⟩)⟩) ?_
            refine z_loc (L' := [(0, .ref (G.1 + v 33)), (1, .int (Int32.ofInt (a1))), (2, .int (Int32.ofInt (a2))), (3, .int (Int32.ofInt (0)))]) (List.forall_mem_cons.mpr ⟨rfl, (List.forall_mem_cons.mpr ⟨rfl, (List.forall_mem_cons.mpr ⟨rfl, (List.forall_mem_cons.mpr ⟨rfl, (fun _ h => nomatch h)⟩)⟩)⟩)⟩) ?_
            exact ubX4_isTwin_39 hd hT hS hW hP  hw
          · have hw := hw.2 h9
            refine z_iconst (v := Int32.ofInt 0) dX4_isTwin_35 rfl ?_
            exact z_ireturn dX4_isTwin_36 rfl (nar01 (by decide)) (hP _ _ _ hw hW)

def wX4_hasTwin_3'  (l1 l3 l4 : Int) (S : St) (K : Int → St → Prop) (B3 : Int → Int → Int → St → Prop) : Prop := (rng (l4) ∧ (rng (l3) ∧ ((l3 ≤ l4 → K (0) S) ∧ ((¬ (l3 ≤ l4)) → (rng (l1) ∧ (wX4_isTwin (l1) (l4) S (fun r5 S4 => (rng (r5) ∧ ((r5 = 0 → B3 (l1) (l3) ((l4 + 1)) S4) ∧ ((¬ (r5 = 0)) → K (1) S4))))))))))
set_option maxRecDepth 100000 in
set_option maxHeartbeats 4000000 in
theorem ubX4_hasTwin_3' {G : xG} {v : Nat → Nat} {sh : Nat → Option Sh} {B : Nat × Nat} {c0 : List va_E} {d : Nat} {Post : xP} {l1 l3 l4 : Int} {S : St} {cs : List va_E} {K : Int → St → Prop} {B3 : Int → Int → Int → St → Prop} (hd : 1 ≤ d) (hT : sb shC sh) (hS : ∀ b x, sh b = some x → ¬ isS b) (hW : Wv G v sh B c0 S cs) (hP : ∀ (x : Int) (S : St) (cs : List va_E), K x S → Wv G v sh B c0 S cs → Post (some (.int (Int32.ofInt x))) cs) (hB3 : ∀ (l1 : Int) (l3 : Int) (l4 : Int) (S : St) (cs : List va_E), B3 l1 l3 l4 S → Wv G v sh B c0 S cs → Z (RX4, cX4_hasTwin, 5, some .boolean, false) G d Post 3 [(0, .ref (G.1 + v 33)), (1, .int (Int32.ofInt (l1))), (3, .int (Int32.ofInt (l3))), (4, .int (Int32.ofInt (l4)))] [] cs) (hw : wX4_hasTwin_3' l1 l3 l4 S K B3) : Z (RX4, cX4_hasTwin, 5, some .boolean, false) G d Post 3 [(0, .ref (G.1 + v 33)), (1, .int (Int32.ofInt (l1))), (3, .int (Int32.ofInt (l3))), (4, .int (Int32.ofInt (l4)))] [] cs := by
  unfold wX4_hasTwin_3' at hw
  refine z_iload dX4_hasTwin_3 rfl ?_
  refine z_iload_n dX4_hasTwin_5 rfl rfl ?_
  obtain ⟨q2, hw⟩ := hw
  obtain ⟨q3, hw⟩ := hw
  refine i_icmp_ge (tgt := 27) dX4_hasTwin_6 (by decide) q2 q3 (fun h1 => ?_) (fun h1 => ?_)
  · have hw := hw.1 h1
    refine z_iconst (v := Int32.ofInt 0) dX4_hasTwin_27 rfl ?_
    exact z_ireturn dX4_hasTwin_28 rfl (nar01 (by decide)) (hP _ _ _ hw hW)
  · have hw := hw.2 h1
    refine z_aload_n dX4_hasTwin_9 rfl rfl ?_
    refine z_iload_n dX4_hasTwin_10 rfl rfl ?_
    refine z_iload dX4_hasTwin_11 rfl ?_
    obtain ⟨q6, hw⟩ := hw
    have hX := lX4_isTwin 0 (Nat.le_refl _) hT hS hW q6 q2 hw
    refine z_callV (As := [_, _]) eX4_isTwin sX4_isTwin lX4_98 rfl dX4_hasTwin_13 (hW.at (hT 33 _ rfl)) hX (Nat.le_trans (by decide) hd) rfl (Nat.le_of_ble_eq_true rfl) (fun r cs hp => ?_)
    obtain ⟨r5, S4, rfl, hw, hW⟩ := hp
    refine z_st (st' := [.int (Int32.ofInt (r5))]) rfl ?_
    obtain ⟨q8, hw⟩ := hw
    refine i_if_eq (tgt := 21) dX4_hasTwin_16 (by decide) q8 (fun h7 => ?_) (fun h7 => ?_)
    · have hw := hw.1 h7
      refine i_iinc (l := l4) dX4_hasTwin_21 rfl (by decide) ?_
      refine z_loc (L' := [(0, .ref (G.1 + v 33)), (1, .int (Int32.ofInt (l1))), (3, .int (Int32.ofInt (l3))), (4, .int (Int32.ofInt ((l4 + 1))))]) (List.forall_mem_cons.mpr ⟨rfl, (List.forall_mem_cons.mpr ⟨rfl, (List.forall_mem_cons.mpr ⟨rfl, (List.forall_mem_cons.mpr ⟨rfl, (fun _ h => nomatch h)⟩)⟩)⟩)⟩) ?_
      refine z_goto (tgt := 3) dX4_hasTwin_24 (by decide) ?_
      refine z_loc (L' := [(0, .ref (G.1 + v 33)), (1, .int (Int32.ofInt (l1))), (3, .int (Int32.ofInt (l3))), (4, .int (Int32.ofInt ((l4 + 1))))]) (List.forall_mem_cons.mpr ⟨rfl, (List.forall_mem_cons.mpr ⟨rfl, (List.forall_mem_cons.mpr ⟨rfl, (List.forall_mem_cons.mpr ⟨rfl, (fun _ h => nomatch h)⟩)⟩)⟩)⟩) ?_
      exact hB3 _ _ _ _ _ hw hW
    · have hw := hw.2 h7
      refine z_iconst (v := Int32.ofInt 1) dX4_hasTwin_19 rfl ?_
      exact z_ireturn dX4_hasTwin_20 rfl (nar01 (by decide)) (hP _ _ _ hw hW)
def wX4_hasTwin_3  (l1 l3 l4 : Int) (S : St) (K : Int → St → Prop) : Prop := ∃ (Iv : Int → Int → Int → St → Prop) (mu : Int → Int → Int → St → Nat), Iv l1 l3 l4 S ∧ ∀ (l1 l3 l4 : Int) (S : St), Iv l1 l3 l4 S → wX4_hasTwin_3' l1 l3 l4 S K  (fun ml1 ml3 ml4 T => Iv ml1 ml3 ml4 T ∧ mu ml1 ml3 ml4 T < mu l1 l3 l4 S)
set_option maxRecDepth 100000 in
set_option maxHeartbeats 4000000 in
theorem ubX4_hasTwin_3 {G : xG} {v : Nat → Nat} {sh : Nat → Option Sh} {B : Nat × Nat} {c0 : List va_E} {d : Nat} {Post : xP} {l1 l3 l4 : Int} {S : St} {cs : List va_E} {K : Int → St → Prop} (hd : 1 ≤ d) (hT : sb shC sh) (hS : ∀ b x, sh b = some x → ¬ isS b) (hW : Wv G v sh B c0 S cs) (hP : ∀ (x : Int) (S : St) (cs : List va_E), K x S → Wv G v sh B c0 S cs → Post (some (.int (Int32.ofInt x))) cs)  (hw : wX4_hasTwin_3 l1 l3 l4 S K ) : Z (RX4, cX4_hasTwin, 5, some .boolean, false) G d Post 3 [(0, .ref (G.1 + v 33)), (1, .int (Int32.ofInt (l1))), (3, .int (Int32.ofInt (l3))), (4, .int (Int32.ofInt (l4)))] [] cs := by
  unfold wX4_hasTwin_3 at hw
  obtain ⟨Iv, mu, h0, hs⟩ := hw
  have key : ∀ (n : Nat) (l1 l3 l4 : Int) (S : St) (cs : List va_E), mu l1 l3 l4 S < n → Iv l1 l3 l4 S → Wv G v sh B c0 S cs → Z (RX4, cX4_hasTwin, 5, some .boolean, false) G d Post 3 [(0, .ref (G.1 + v 33)), (1, .int (Int32.ofInt (l1))), (3, .int (Int32.ofInt (l3))), (4, .int (Int32.ofInt (l4)))] [] cs := by
    intro n
    induction n with
    | zero => intro l1 l3 l4 S cs hn; exact absurd hn (Nat.not_lt_zero _)
    | succ n ih =>
      intro l1 l3 l4 S cs hn hI hW
      exact ubX4_hasTwin_3' hd hT hS hW hP  (fun l1 l3 l4 S cs hb hW => ih l1 l3 l4 S cs (Nat.lt_of_lt_of_le hb.2 (Nat.le_of_lt_succ hn)) hb.1 hW) (hs l1 l3 l4 S hI)
  exact key _ _ _ _ _ _ (Nat.lt_succ_self _) h0 hW
def wX4_hasTwin  (a1 a2 a3 : Int) (S : St) (K : Int → St → Prop) : Prop := rng a1 → rng a2 → rng a3 → wX4_hasTwin_3 (a1) (a3) (a2) S K
set_option maxRecDepth 100000 in
set_option maxHeartbeats 4000000 in
theorem lX4_hasTwin {G : xG} {v : Nat → Nat} {sh : Nat → Option Sh} {B : Nat × Nat} {c0 : List va_E}  {a1 a2 a3 : Int} {S : St} {cs : List va_E} {K : Int → St → Prop} (d : Nat) (hd : 1 ≤ d) (hT : sb shC sh) (hS : ∀ b x, sh b = some x → ¬ isS b) (hW : Wv G v sh B c0 S cs) (g1 : rng a1) (g2 : rng a2) (g3 : rng a3) (hw : wX4_hasTwin a1 a2 a3 S K) : X G yX4_hasTwin cX4_hasTwin 5 (some .boolean) d [.ref (G.1 + v 33), .int (Int32.ofInt a1), .int (Int32.ofInt a2), .int (Int32.ofInt a3)] cs (vI G v sh B c0 K) := by
  refine X.of false (by decide +kernel) (by decide) (Nat.le_of_ble_eq_true rfl) ?_
  show Z (RX4, cX4_hasTwin, 5, some .boolean, false) G d _ 0 [(0, .ref (G.1 + v 33)), (1, .int (Int32.ofInt a1)), (2, .int (Int32.ofInt a2)), (3, .int (Int32.ofInt a3))] [] cs
  have hP : ∀ (x : Int) (S : St) (cs : List va_E), K x S → Wv G v sh B c0 S cs → vI G v sh B c0 K (some (.int (Int32.ofInt x))) cs := fun x S cs a b => ⟨x, S, rfl, a, b⟩
  unfold wX4_hasTwin at hw
  have hw := hw g1 g2 g3
  refine z_iload_n dX4_hasTwin_0 rfl rfl ?_
  refine z_istore dX4_hasTwin_1 (by decide) ?_
  refine z_loc (L' := [(0, .ref (G.1 + v 33)), (1, .int (Int32.ofInt (a1))), (2, .int (Int32.ofInt (a2))), (3, .int (Int32.ofInt (a3))), (4, .int (Int32.ofInt (a2)))]) (List.forall_mem_cons.mpr ⟨rfl, (List.forall_mem_cons.mpr ⟨rfl, (List.forall_mem_cons.mpr ⟨rfl, (List.forall_mem_cons.mpr ⟨rfl, (List.forall_mem_cons.mpr ⟨rfl, (fun _ h => nomatch h)⟩)⟩)⟩)⟩)⟩) ?_
  refine z_loc (L' := [(0, .ref (G.1 + v 33)), (1, .int (Int32.ofInt (a1))), (3, .int (Int32.ofInt (a3))), (4, .int (Int32.ofInt (a2)))]) (List.forall_mem_cons.mpr ⟨rfl, (List.forall_mem_cons.mpr ⟨rfl, (List.forall_mem_cons.mpr ⟨rfl, (List.forall_mem_cons.mpr ⟨rfl, (fun _ h => nomatch h)⟩)⟩)⟩)⟩) ?_
  exact ubX4_hasTwin_3 hd hT hS hW hP  hw

def wX4_isFieldNameFree  (a1 a2 : Int) (S : St) (K : Int → St → Prop) : Prop := rng a1 → rng a2 → (wX4_fieldName (a1) (a2) S (fun r2 S1 => (rng (r2) ∧ (wX4_isWord (r2) S1 (fun r4 S3 => (rng (r4) ∧ ((¬ r4 = 0 → K (0) S3) ∧ ((¬ (¬ r4 = 0)) → (wX4_isWord_b (r2) S3 (fun r9 S8 => (rng (r9) ∧ ((r9 = 0 → (wX4_fieldName (a1) (0) S8 (fun r13 S12 => (rng (r13) ∧ (wX4_hasTwin (r2) (r13) (r2) S12 (fun r15 S14 => (rng (r15) ∧ ((r15 = 0 → ((0 : Int) ≤ a1 ∧ a1 < (6 : Int) ∧ (iv (-2147483648) 2147483647 (S14.2 39 (a1)) → ((S14.2 39 (a1) = (-1) → K (1) S14) ∧ ((¬ (S14.2 39 (a1) = (-1))) → (iv 0 6 (S14.1 33 8) → (wX4_hasTwin (r2) (0) (S14.1 33 8) S14 (fun r24 S23 => (rng (r24) ∧ ((¬ r24 = 0 → K (0) S23) ∧ ((¬ (¬ r24 = 0)) → K (1) S23))))))))))) ∧ ((¬ (r15 = 0)) → K (0) S14))))))))) ∧ ((¬ (r9 = 0)) → K (0) S8)))))))))))))
set_option maxRecDepth 100000 in
set_option maxHeartbeats 4000000 in
theorem lX4_isFieldNameFree {G : xG} {v : Nat → Nat} {sh : Nat → Option Sh} {B : Nat × Nat} {c0 : List va_E}  {a1 a2 : Int} {S : St} {cs : List va_E} {K : Int → St → Prop} (d : Nat) (hd : 5 ≤ d) (hT : sb shC sh) (hS : ∀ b x, sh b = some x → ¬ isS b) (hW : Wv G v sh B c0 S cs) (g1 : rng a1) (g2 : rng a2) (hw : wX4_isFieldNameFree a1 a2 S K) : X G yX4_isFieldNameFree cX4_isFieldNameFree 4 (some .boolean) d [.ref (G.1 + v 33), .int (Int32.ofInt a1), .int (Int32.ofInt a2)] cs (vI G v sh B c0 K) := by
  refine X.of false (by decide +kernel) (by decide) (Nat.le_of_ble_eq_true rfl) ?_
  show Z (RX4, cX4_isFieldNameFree, 4, some .boolean, false) G d _ 0 [(0, .ref (G.1 + v 33)), (1, .int (Int32.ofInt a1)), (2, .int (Int32.ofInt a2))] [] cs
  have hP : ∀ (x : Int) (S : St) (cs : List va_E), K x S → Wv G v sh B c0 S cs → vI G v sh B c0 K (some (.int (Int32.ofInt x))) cs := fun x S cs a b => ⟨x, S, rfl, a, b⟩
  unfold wX4_isFieldNameFree at hw
  have hw := hw g1 g2
  refine z_iload_n dX4_isFieldNameFree_0 rfl rfl ?_
  refine z_iload_n dX4_isFieldNameFree_1 rfl rfl ?_
  have hX := lX4_fieldName 0 (Nat.le_refl _) hT hS hW g1 g2 hw
  refine z_callS (As := [_, _]) eX4_fieldName sX4_fieldName lX4_58 dX4_isFieldNameFree_2 hX (Nat.le_trans (by decide) hd) rfl (Nat.le_of_ble_eq_true rfl) (fun r cs hp => ?_)
  obtain ⟨r2, S1, rfl, hw, hW⟩ := hp
  refine z_st (st' := [.int (Int32.ofInt (r2))]) rfl ?_
  refine z_istore_n dX4_isFieldNameFree_5 rfl (by decide) ?_
  refine z_loc (L' := [(0, .ref (G.1 + v 33)), (1, .int (Int32.ofInt (a1))), (2, .int (Int32.ofInt (a2))), (3, .int (Int32.ofInt (r2)))]) (List.forall_mem_cons.mpr ⟨rfl, (List.forall_mem_cons.mpr ⟨rfl, (List.forall_mem_cons.mpr ⟨rfl, (List.forall_mem_cons.mpr ⟨rfl, (fun _ h => nomatch h)⟩)⟩)⟩)⟩) ?_
  refine z_aload_n dX4_isFieldNameFree_6 rfl rfl ?_
  refine z_iload_n dX4_isFieldNameFree_7 rfl rfl ?_
  refine z_ldcS (i := 0) (tx := "class") (by decide +kernel) dX4_isFieldNameFree_8 ?_
  obtain ⟨q5, hw⟩ := hw
  have hX := lX4_isWord 4 (Nat.le_refl _) hT hS hW q5 hw
  refine z_callV (As := [_, _]) eX4_isWord sX4_isWord lX4_92 rfl dX4_isFieldNameFree_10 (hW.at (hT 33 _ rfl)) hX (Nat.le_trans (by decide) hd) rfl (Nat.le_of_ble_eq_true rfl) (fun r cs hp => ?_)
  obtain ⟨r4, S3, rfl, hw, hW⟩ := hp
  refine z_st (st' := [.int (Int32.ofInt (r4))]) rfl ?_
  obtain ⟨q7, hw⟩ := hw
  refine i_if_ne (tgt := 26) dX4_isFieldNameFree_13 (by decide) q7 (fun h6 => ?_) (fun h6 => ?_)
  · have hw := hw.1 h6
    refine z_iconst (v := Int32.ofInt 0) dX4_isFieldNameFree_26 rfl ?_
    exact z_ireturn dX4_isFieldNameFree_27 rfl (nar01 (by decide)) (hP _ _ _ hw hW)
  · have hw := hw.2 h6
    refine z_aload_n dX4_isFieldNameFree_16 rfl rfl ?_
    refine z_iload_n dX4_isFieldNameFree_17 rfl rfl ?_
    refine z_ldcS (i := 1) (tx := "id") (by decide +kernel) dX4_isFieldNameFree_18 ?_
    have hX := lX4_isWord_b 4 (Nat.le_refl _) hT hS hW q5 hw
    refine z_callV (As := [_, _]) eX4_isWord sX4_isWord lX4_92 rfl dX4_isFieldNameFree_20 (hW.at (hT 33 _ rfl)) hX (Nat.le_trans (by decide) hd) rfl (Nat.le_of_ble_eq_true rfl) (fun r cs hp => ?_)
    obtain ⟨r9, S8, rfl, hw, hW⟩ := hp
    refine z_st (st' := [.int (Int32.ofInt (r9))]) rfl ?_
    obtain ⟨q11, hw⟩ := hw
    refine i_if_eq (tgt := 28) dX4_isFieldNameFree_23 (by decide) q11 (fun h10 => ?_) (fun h10 => ?_)
    · have hw := hw.1 h10
      refine z_aload_n dX4_isFieldNameFree_28 rfl rfl ?_
      refine z_iload_n dX4_isFieldNameFree_29 rfl rfl ?_
      refine z_iload_n dX4_isFieldNameFree_30 rfl rfl ?_
      refine z_iconst (v := Int32.ofInt 0) dX4_isFieldNameFree_31 rfl ?_
      have hX := lX4_fieldName 0 (Nat.le_refl _) hT hS hW g1 ⟨by decide, by decide⟩ hw
      refine z_callS (As := [_, _]) eX4_fieldName sX4_fieldName lX4_58 dX4_isFieldNameFree_32 hX (Nat.le_trans (by decide) hd) rfl (Nat.le_of_ble_eq_true rfl) (fun r cs hp => ?_)
      obtain ⟨r13, S12, rfl, hw, hW⟩ := hp
      refine z_st (st' := [.int (Int32.ofInt (r13)), .int (Int32.ofInt (r2)), .ref (G.1 + v 33)]) rfl ?_
      refine z_iload_n dX4_isFieldNameFree_35 rfl rfl ?_
      obtain ⟨q16, hw⟩ := hw
      have hX := lX4_hasTwin 1 (Nat.le_refl _) hT hS hW q5 q16 q5 hw
      refine z_callV (As := [_, _, _]) eX4_hasTwin sX4_hasTwin lX4_83 rfl dX4_isFieldNameFree_36 (hW.at (hT 33 _ rfl)) hX (Nat.le_trans (by decide) hd) rfl (Nat.le_of_ble_eq_true rfl) (fun r cs hp => ?_)
      obtain ⟨r15, S14, rfl, hw, hW⟩ := hp
      refine z_st (st' := [.int (Int32.ofInt (r15))]) rfl ?_
      obtain ⟨q18, hw⟩ := hw
      refine i_if_eq (tgt := 44) dX4_isFieldNameFree_39 (by decide) q18 (fun h17 => ?_) (fun h17 => ?_)
      · have hw := hw.1 h17
        refine z_aload_n dX4_isFieldNameFree_44 rfl rfl ?_
        refine v_getR hW (hT 33 _ rfl) rfl kX4 fX4_29 dX4_isFieldNameFree_45 ?_
        refine z_iload_n dX4_isFieldNameFree_48 rfl rfl ?_
        obtain ⟨q19a, q19b, hw⟩ := hw
        have q20 : iv (-2147483648) 2147483647 (S14.2 39 (a1)) := hW.iA 39 _
        have hw := hw q20
        refine v_iald hW (hT 39 _ rfl) q19a q19b (by decide) dX4_isFieldNameFree_49 ?_
        refine z_iconst (v := Int32.ofInt (-1)) dX4_isFieldNameFree_50 rfl ?_
        refine i_icmp_eq (tgt := 67) dX4_isFieldNameFree_51 (by decide) (rngq q20 (by decide) (by decide)) ⟨by decide, by decide⟩ (fun h21 => ?_) (fun h21 => ?_)
        · have hw := hw.1 h21
          refine z_iconst (v := Int32.ofInt 1) dX4_isFieldNameFree_67 rfl ?_
          refine z_goto (tgt := 72) dX4_isFieldNameFree_68 (by decide) ?_
          exact z_ireturn dX4_isFieldNameFree_72 rfl (nar01 (by decide)) (hP _ _ _ hw hW)
        · have hw := hw.2 h21
          refine z_aload_n dX4_isFieldNameFree_54 rfl rfl ?_
          refine z_iload_n dX4_isFieldNameFree_55 rfl rfl ?_
          refine z_iconst (v := Int32.ofInt 0) dX4_isFieldNameFree_56 rfl ?_
          refine z_aload_n dX4_isFieldNameFree_57 rfl rfl ?_
          have q22 : iv 0 6 (S14.1 33 8) := hW.iI 33 8
          have hw := hw q22
          refine v_getI hW (hT 33 _ rfl) rfl kX4 fX4_38 dX4_isFieldNameFree_58 ?_
          have hX := lX4_hasTwin 1 (Nat.le_refl _) hT hS hW q5 ⟨by decide, by decide⟩ (rngq q22 (by decide) (by decide)) hw
          refine z_callV (As := [_, _, _]) eX4_hasTwin sX4_hasTwin lX4_83 rfl dX4_isFieldNameFree_61 (hW.at (hT 33 _ rfl)) hX (Nat.le_trans (by decide) hd) rfl (Nat.le_of_ble_eq_true rfl) (fun r cs hp => ?_)
          obtain ⟨r24, S23, rfl, hw, hW⟩ := hp
          refine z_st (st' := [.int (Int32.ofInt (r24))]) rfl ?_
          obtain ⟨q26, hw⟩ := hw
          refine i_if_ne (tgt := 71) dX4_isFieldNameFree_64 (by decide) q26 (fun h25 => ?_) (fun h25 => ?_)
          · have hw := hw.1 h25
            refine z_iconst (v := Int32.ofInt 0) dX4_isFieldNameFree_71 rfl ?_
            exact z_ireturn dX4_isFieldNameFree_72 rfl (nar01 (by decide)) (hP _ _ _ hw hW)
          · have hw := hw.2 h25
            refine z_iconst (v := Int32.ofInt 1) dX4_isFieldNameFree_67 rfl ?_
            refine z_goto (tgt := 72) dX4_isFieldNameFree_68 (by decide) ?_
            exact z_ireturn dX4_isFieldNameFree_72 rfl (nar01 (by decide)) (hP _ _ _ hw hW)
      · have hw := hw.2 h17
        refine z_iconst (v := Int32.ofInt 0) dX4_isFieldNameFree_42 rfl ?_
        exact z_ireturn dX4_isFieldNameFree_43 rfl (nar01 (by decide)) (hP _ _ _ hw hW)
    · have hw := hw.2 h10
      refine z_iconst (v := Int32.ofInt 0) dX4_isFieldNameFree_26 rfl ?_
      exact z_ireturn dX4_isFieldNameFree_27 rfl (nar01 (by decide)) (hP _ _ _ hw hW)

