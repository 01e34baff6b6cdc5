def wX6_kidCount  (a1 : Int) (S : St) (K : Int → St → Prop) : Prop := rng a1 → (wX6_has (a1) S (fun r2 S1 => (rng (r2) ∧ ((r2 = 0 → K (0) S1) ∧ ((¬ (r2 = 0)) → ((0 : Int) ≤ a1 ∧ a1 < (200 : Int) ∧ (iv (-2147483648) 2147483647 (S1.2 10 (a1)) → K (S1.2 10 (a1)) S1)))))))
set_option maxRecDepth 100000 in
set_option maxHeartbeats 4000000 in
theorem lX6_kidCount {G : xG} {v : Nat → Nat} {sh : Nat → Option Sh} {B : Nat × Nat} {c0 : List va_E}  {a1 : Int} {S : St} {cs : List va_E} {K : Int → St → Prop} (d : Nat) (hd : 1 ≤ d) (hT : sb shC sh) (hS : ∀ b x, sh b = some x → ¬ isS b) (hU : sb shTr sh) (hW : Wv G v sh B c0 S cs) (g1 : rng a1) (hw : wX6_kidCount a1 S K) : X G yX6_kidCount cX6_kidCount 2 (some .int) d [.ref (G.1 + v 3), .int (Int32.ofInt a1)] cs (vI G v sh B c0 K) := by
  refine X.of false (by decide +kernel) (by decide) (Nat.le_of_ble_eq_true rfl) ?_
  show Z (RX6, cX6_kidCount, 2, some .int, false) G d _ 0 [(0, .ref (G.1 + v 3)), (1, .int (Int32.ofInt a1))] [] cs
  have hP : ∀ (x : Int) (S : St) (cs : List va_E), K x S → Wv G v sh B c0 S cs → vI G v sh B c0 K (some (.int (Int32.ofInt x))) cs := fun x S cs a b => ⟨x, S, rfl, a, b⟩
  unfold wX6_kidCount at hw
  have hw := hw g1
  refine z_aload_n dX6_kidCount_0 rfl rfl ?_
  refine z_iload_n dX6_kidCount_1 rfl rfl ?_
  have hX := lX6_has 0 (Nat.le_refl _) hT hS hU hW g1 hw
  refine z_callV (As := [_]) eX6_has sX6_has lX6_75 rfl dX6_kidCount_2 (hW.at (hU 3 _ rfl)) hX (Nat.le_trans (by decide) hd) rfl (Nat.le_of_ble_eq_true rfl) (fun r cs hp => ?_)
  obtain ⟨r2, S1, rfl, hw, hW⟩ := hp
  refine z_st (st' := [.int (Int32.ofInt (r2))]) rfl ?_
  obtain ⟨q4, hw⟩ := hw
  refine i_if_eq (tgt := 17) dX6_kidCount_5 (by decide) q4 (fun h3 => ?_) (fun h3 => ?_)
  · have hw := hw.1 h3
    refine z_iconst (v := Int32.ofInt 0) dX6_kidCount_17 rfl ?_
    exact z_ireturn dX6_kidCount_18 rfl rfl (hP _ _ _ hw hW)
  · have hw := hw.2 h3
    refine z_aload_n dX6_kidCount_8 rfl rfl ?_
    refine v_getR hW (hU 3 _ rfl) rfl kX6 fX6_34 dX6_kidCount_9 ?_
    refine z_iload_n dX6_kidCount_12 rfl rfl ?_
    obtain ⟨q5a, q5b, hw⟩ := hw
    have q6 : iv (-2147483648) 2147483647 (S1.2 10 (a1)) := hW.iA 10 _
    have hw := hw q6
    refine v_iald hW (hT 10 _ rfl) q5a q5b (by decide) dX6_kidCount_13 ?_
    refine z_goto (tgt := 18) dX6_kidCount_14 (by decide) ?_
    exact z_ireturn dX6_kidCount_18 rfl rfl (hP _ _ _ hw hW)

def wX6_textTo  (a1 : Int) (S : St) (K : Int → St → Prop) : Prop := rng a1 → (wX6_has (a1) S (fun r2 S1 => (rng (r2) ∧ ((r2 = 0 → K (0) S1) ∧ ((¬ (r2 = 0)) → ((0 : Int) ≤ a1 ∧ a1 < (200 : Int) ∧ (iv (-2147483648) 2147483647 (S1.2 14 (a1)) → K (S1.2 14 (a1)) S1)))))))
set_option maxRecDepth 100000 in
set_option maxHeartbeats 4000000 in
theorem lX6_textTo {G : xG} {v : Nat → Nat} {sh : Nat → Option Sh} {B : Nat × Nat} {c0 : List va_E}  {a1 : Int} {S : St} {cs : List va_E} {K : Int → St → Prop} (d : Nat) (hd : 1 ≤ d) (hT : sb shC sh) (hS : ∀ b x, sh b = some x → ¬ isS b) (hU : sb shTr sh) (hW : Wv G v sh B c0 S cs) (g1 : rng a1) (hw : wX6_textTo a1 S K) : X G yX6_textTo cX6_textTo 2 (some .int) d [.ref (G.1 + v 3), .int (Int32.ofInt a1)] cs (vI G v sh B c0 K) := by
  refine X.of false (by decide +kernel) (by decide) (Nat.le_of_ble_eq_true rfl) ?_
  show Z (RX6, cX6_textTo, 2, some .int, false) G d _ 0 [(0, .ref (G.1 + v 3)), (1, .int (Int32.ofInt a1))] [] cs
  have hP : ∀ (x : Int) (S : St) (cs : List va_E), K x S → Wv G v sh B c0 S cs → vI G v sh B c0 K (some (.int (Int32.ofInt x))) cs := fun x S cs a b => ⟨x, S, rfl, a, b⟩
  unfold wX6_textTo at hw
  have hw := hw g1
  refine z_aload_n dX6_textTo_0 rfl rfl ?_
  refine z_iload_n dX6_textTo_1 rfl rfl ?_
  have hX := lX6_has 0 (Nat.le_refl _) hT hS hU hW g1 hw
  refine z_callV (As := [_]) eX6_has sX6_has lX6_75 rfl dX6_textTo_2 (hW.at (hU 3 _ rfl)) hX (Nat.le_trans (by decide) hd) rfl (Nat.le_of_ble_eq_true rfl) (fun r cs hp => ?_)
  obtain ⟨r2, S1, rfl, hw, hW⟩ := hp
  refine z_st (st' := [.int (Int32.ofInt (r2))]) rfl ?_
  obtain ⟨q4, hw⟩ := hw
  refine i_if_eq (tgt := 17) dX6_textTo_5 (by decide) q4 (fun h3 => ?_) (fun h3 => ?_)
  · have hw := hw.1 h3
    refine z_iconst (v := Int32.ofInt 0) dX6_textTo_17 rfl ?_
    exact z_ireturn dX6_textTo_18 rfl rfl (hP _ _ _ hw hW)
  · have hw := hw.2 h3
    refine z_aload_n dX6_textTo_8 rfl rfl ?_
    refine v_getR hW (hU 3 _ rfl) rfl kX6 fX6_46 dX6_textTo_9 ?_
    refine z_iload_n dX6_textTo_12 rfl rfl ?_
    obtain ⟨q5a, q5b, hw⟩ := hw
    have q6 : iv (-2147483648) 2147483647 (S1.2 14 (a1)) := hW.iA 14 _
    have hw := hw q6
    refine v_iald hW (hT 14 _ rfl) q5a q5b (by decide) dX6_textTo_13 ?_
    refine z_goto (tgt := 18) dX6_textTo_14 (by decide) ?_
    exact z_ireturn dX6_textTo_18 rfl rfl (hP _ _ _ hw hW)

def wX6_textFrom  (a1 : Int) (S : St) (K : Int → St → Prop) : Prop := rng a1 → (wX6_has (a1) S (fun r2 S1 => (rng (r2) ∧ ((r2 = 0 → K (0) S1) ∧ ((¬ (r2 = 0)) → ((0 : Int) ≤ a1 ∧ a1 < (200 : Int) ∧ (iv (-2147483648) 2147483647 (S1.2 13 (a1)) → K (S1.2 13 (a1)) S1)))))))
set_option maxRecDepth 100000 in
set_option maxHeartbeats 4000000 in
theorem lX6_textFrom {G : xG} {v : Nat → Nat} {sh : Nat → Option Sh} {B : Nat × Nat} {c0 : List va_E}  {a1 : Int} {S : St} {cs : List va_E} {K : Int → St → Prop} (d : Nat) (hd : 1 ≤ d) (hT : sb shC sh) (hS : ∀ b x, sh b = some x → ¬ isS b) (hU : sb shTr sh) (hW : Wv G v sh B c0 S cs) (g1 : rng a1) (hw : wX6_textFrom a1 S K) : X G yX6_textFrom cX6_textFrom 2 (some .int) d [.ref (G.1 + v 3), .int (Int32.ofInt a1)] cs (vI G v sh B c0 K) := by
  refine X.of false (by decide +kernel) (by decide) (Nat.le_of_ble_eq_true rfl) ?_
  show Z (RX6, cX6_textFrom, 2, some .int, false) G d _ 0 [(0, .ref (G.1 + v 3)), (1, .int (Int32.ofInt a1))] [] cs
  have hP : ∀ (x : Int) (S : St) (cs : List va_E), K x S → Wv G v sh B c0 S cs → vI G v sh B c0 K (some (.int (Int32.ofInt x))) cs := fun x S cs a b => ⟨x, S, rfl, a, b⟩
  unfold wX6_textFrom at hw
  have hw := hw g1
  refine z_aload_n dX6_textFrom_0 rfl rfl ?_
  refine z_iload_n dX6_textFrom_1 rfl rfl ?_
  have hX := lX6_has 0 (Nat.le_refl _) hT hS hU hW g1 hw
  refine z_callV (As := [_]) eX6_has sX6_has lX6_75 rfl dX6_textFrom_2 (hW.at (hU 3 _ rfl)) hX (Nat.le_trans (by decide) hd) rfl (Nat.le_of_ble_eq_true rfl) (fun r cs hp => ?_)
  obtain ⟨r2, S1, rfl, hw, hW⟩ := hp
  refine z_st (st' := [.int (Int32.ofInt (r2))]) rfl ?_
  obtain ⟨q4, hw⟩ := hw
  refine i_if_eq (tgt := 17) dX6_textFrom_5 (by decide) q4 (fun h3 => ?_) (fun h3 => ?_)
  · have hw := hw.1 h3
    refine z_iconst (v := Int32.ofInt 0) dX6_textFrom_17 rfl ?_
    exact z_ireturn dX6_textFrom_18 rfl rfl (hP _ _ _ hw hW)
  · have hw := hw.2 h3
    refine z_aload_n dX6_textFrom_8 rfl rfl ?_
    refine v_getR hW (hU 3 _ rfl) rfl kX6 fX6_43 dX6_textFrom_9 ?_
    refine z_iload_n dX6_textFrom_12 rfl rfl ?_
    obtain ⟨q5a, q5b, hw⟩ := hw
    have q6 : iv (-2147483648) 2147483647 (S1.2 13 (a1)) := hW.iA 13 _
    have hw := hw q6
    refine v_iald hW (hT 13 _ rfl) q5a q5b (by decide) dX6_textFrom_13 ?_
    refine z_goto (tgt := 18) dX6_textFrom_14 (by decide) ?_
    exact z_ireturn dX6_textFrom_18 rfl rfl (hP _ _ _ hw hW)

def wX6_hasAttribute  (a1 : Int) (S : St) (K : Int → St → Prop) : Prop := rng a1 → ((a1 < 0 → K (0) S) ∧ ((¬ (a1 < 0)) → (iv 0 600 (S.1 3 17) → ((S.1 3 17 ≤ a1 → K (0) S) ∧ ((¬ (S.1 3 17 ≤ a1)) → K (1) S)))))
set_option maxRecDepth 100000 in
set_option maxHeartbeats 4000000 in
theorem lX6_hasAttribute {G : xG} {v : Nat → Nat} {sh : Nat → Option Sh} {B : Nat × Nat} {c0 : List va_E}  {a1 : Int} {S : St} {cs : List va_E} {K : Int → St → Prop} (d : Nat) (hd : 0 ≤ d) (hT : sb shC sh) (hS : ∀ b x, sh b = some x → ¬ isS b) (hU : sb shTr sh) (hW : Wv G v sh B c0 S cs) (g1 : rng a1) (hw : wX6_hasAttribute a1 S K) : X G yX6_hasAttribute cX6_hasAttribute 2 (some .boolean) d [.ref (G.1 + v 3), .int (Int32.ofInt a1)] cs (vI G v sh B c0 K) := by
  refine X.of false (by decide +kernel) (by decide) (Nat.le_of_ble_eq_true rfl) ?_
  show Z (RX6, cX6_hasAttribute, 2, some .boolean, false) G d _ 0 [(0, .ref (G.1 + v 3)), (1, .int (Int32.ofInt a1))] [] cs
  have hP : ∀ (x : Int) (S : St) (cs : List va_E), K x S → Wv G v sh B c0 S cs → vI G v sh B c0 K (some (.int (Int32.ofInt x))) cs := fun x S cs a b => ⟨x, S, rfl, a, b⟩
  unfold wX6_hasAttribute at hw
  have hw := hw g1
  refine z_iload_n dX6_hasAttribute_0 rfl rfl ?_
  refine i_if_lt (tgt := 16) dX6_hasAttribute_1 (by decide) g1 (fun h1 => ?_) (fun h1 => ?_)
  · have hw := hw.1 h1
    refine z_iconst (v := Int32.ofInt 0) dX6_hasAttribute_16 rfl ?_
    exact z_ireturn dX6_hasAttribute_17 rfl (nar01 (by decide)) (hP _ _ _ hw hW)
  · have hw := hw.2 h1
    refine z_iload_n dX6_hasAttribute_4 rfl rfl ?_
    refine z_aload_n dX6_hasAttribute_5 rfl rfl ?_
    have q2 : iv 0 600 (S.1 3 17) := hW.iI 3 17
    have hw := hw q2
    refine v_getI hW (hU 3 _ rfl) rfl kX6 fX6_69 dX6_hasAttribute_6 ?_
    refine i_icmp_ge (tgt := 16) dX6_hasAttribute_9 (by decide) g1 (rngq q2 (by decide) (by decide)) (fun h3 => ?_) (fun h3 => ?_)
    · have hw := hw.1 h3
      refine z_iconst (v := Int32.ofInt 0) dX6_hasAttribute_16 rfl ?_
      exact z_ireturn dX6_hasAttribute_17 rfl (nar01 (by decide)) (hP _ _ _ hw hW)
    · have hw := hw.2 h3
      refine z_iconst (v := Int32.ofInt 1) dX6_hasAttribute_12 rfl ?_
      refine z_goto (tgt := 17) dX6_hasAttribute_13 (by decide) ?_
      exact z_ireturn dX6_hasAttribute_17 rfl (nar01 (by decide)) (hP _ _ _ hw hW)

def wX6_valueFrom  (a1 : Int) (S : St) (K : Int → St → Prop) : Prop := rng a1 → (wX6_hasAttribute (a1) S (fun r2 S1 => (rng (r2) ∧ ((r2 = 0 → K (0) S1) ∧ ((¬ (r2 = 0)) → ((0 : Int) ≤ a1 ∧ a1 < (600 : Int) ∧ (iv (-2147483648) 2147483647 (S1.2 18 (a1)) → K (S1.2 18 (a1)) S1)))))))
set_option maxRecDepth 100000 in
set_option maxHeartbeats 4000000 in
theorem lX6_valueFrom {G : xG} {v : Nat → Nat} {sh : Nat → Option Sh} {B : Nat × Nat} {c0 : List va_E}  {a1 : Int} {S : St} {cs : List va_E} {K : Int → St → Prop} (d : Nat) (hd : 1 ≤ d) (hT : sb shC sh) (hS : ∀ b x, sh b = some x → ¬ isS b) (hU : sb shTr sh) (hW : Wv G v sh B c0 S cs) (g1 : rng a1) (hw : wX6_valueFrom a1 S K) : X G yX6_valueFrom cX6_valueFrom 2 (some .int) d [.ref (G.1 + v 3), .int (Int32.ofInt a1)] cs (vI G v sh B c0 K) := by
  refine X.of false (by decide +kernel) (by decide) (Nat.le_of_ble_eq_true rfl) ?_
  show Z (RX6, cX6_valueFrom, 2, some .int, false) G d _ 0 [(0, .ref (G.1 + v 3)), (1, .int (Int32.ofInt a1))] [] cs
  have hP : ∀ (x : Int) (S : St) (cs : List va_E), K x S → Wv G v sh B c0 S cs → vI G v sh B c0 K (some (.int (Int32.ofInt x))) cs := fun x S cs a b => ⟨x, S, rfl, a, b⟩
  unfold wX6_valueFrom at hw
  have hw := hw g1
  refine z_aload_n dX6_valueFrom_0 rfl rfl ?_
  refine z_iload_n dX6_valueFrom_1 rfl rfl ?_
  have hX := lX6_hasAttribute 0 (Nat.le_refl _) hT hS hU hW g1 hw
  refine z_callV (As := [_]) eX6_hasAttribute sX6_hasAttribute lX6_89 rfl dX6_valueFrom_2 (hW.at (hU 3 _ rfl)) hX (Nat.le_trans (by decide) hd) rfl (Nat.le_of_ble_eq_true rfl) (fun r cs hp => ?_)
  obtain ⟨r2, S1, rfl, hw, hW⟩ := hp
  refine z_st (st' := [.int (Int32.ofInt (r2))]) rfl ?_
  obtain ⟨q4, hw⟩ := hw
  refine i_if_eq (tgt := 17) dX6_valueFrom_5 (by decide) q4 (fun h3 => ?_) (fun h3 => ?_)
  · have hw := hw.1 h3
    refine z_iconst (v := Int32.ofInt 0) dX6_valueFrom_17 rfl ?_
    exact z_ireturn dX6_valueFrom_18 rfl rfl (hP _ _ _ hw hW)
  · have hw := hw.2 h3
    refine z_aload_n dX6_valueFrom_8 rfl rfl ?_
    refine v_getR hW (hU 3 _ rfl) rfl kX6 fX6_59 dX6_valueFrom_9 ?_
    refine z_iload_n dX6_valueFrom_12 rfl rfl ?_
    obtain ⟨q5a, q5b, hw⟩ := hw
    have q6 : iv (-2147483648) 2147483647 (S1.2 18 (a1)) := hW.iA 18 _
    have hw := hw q6
    refine v_iald hW (hT 18 _ rfl) q5a q5b (by decide) dX6_valueFrom_13 ?_
    refine z_goto (tgt := 18) dX6_valueFrom_14 (by decide) ?_
    exact z_ireturn dX6_valueFrom_18 rfl rfl (hP _ _ _ hw hW)

def wX6_valueTo  (a1 : Int) (S : St) (K : Int → St → Prop) : Prop := rng a1 → (wX6_hasAttribute (a1) S (fun r2 S1 => (rng (r2) ∧ ((r2 = 0 → K (0) S1) ∧ ((¬ (r2 = 0)) → ((0 : Int) ≤ a1 ∧ a1 < (600 : Int) ∧ (iv 0 3000 (S1.2 19 (a1)) → K (S1.2 19 (a1)) S1)))))))
set_option maxRecDepth 100000 in
set_option maxHeartbeats 4000000 in
theorem lX6_valueTo {G : xG} {v : Nat → Nat} {sh : Nat → Option Sh} {B : Nat × Nat} {c0 : List va_E}  {a1 : Int} {S : St} {cs : List va_E} {K : Int → St → Prop} (d : Nat) (hd : 1 ≤ d) (hT : sb shC sh) (hS : ∀ b x, sh b = some x → ¬ isS b) (hU : sb shTr sh) (hW : Wv G v sh B c0 S cs) (g1 : rng a1) (hw : wX6_valueTo a1 S K) : X G yX6_valueTo cX6_valueTo 2 (some .int) d [.ref (G.1 + v 3), .int (Int32.ofInt a1)] cs (vI G v sh B c0 K) := by
  refine X.of false (by decide +kernel) (by decide) (Nat.le_of_ble_eq_true rfl) ?_
  show Z (RX6, cX6_valueTo, 2, some .int, false) G d _ 0 [(0, .ref (G.1 + v 3)), (1, .int (Int32.ofInt a1))] [] cs
  have hP : ∀ (x : Int) (S : St) (cs : List va_E), K x S → Wv G v sh B c0 S cs → vI G v sh B c0 K (some (.int (Int32.ofInt x))) cs := fun x S cs a b => ⟨x, S, rfl, a, b⟩
  unfold wX6_valueTo at hw
  have hw := hw g1
  refine z_aload_n dX6_valueTo_0 rfl rfl ?_
  refine z_iload_n dX6_valueTo_1 rfl rfl ?_
  have hX := lX6_hasAttribute 0 (Nat.le_refl _) hT hS hU hW g1 hw
  refine z_callV (As := [_]) eX6_hasAttribute sX6_hasAttribute lX6_89 rfl dX6_valueTo_2 (hW.at (hU 3 _ rfl)) hX (Nat.le_trans (by decide) hd) rfl (Nat.le_of_ble_eq_true rfl) (fun r cs hp => ?_)
  obtain ⟨r2, S1, rfl, hw, hW⟩ := hp
  refine z_st (st' := [.int (Int32.ofInt (r2))]) rfl ?_
  obtain ⟨q4, hw⟩ := hw
  refine i_if_eq (tgt := 17) dX6_valueTo_5 (by decide) q4 (fun h3 => ?_) (fun h3 => ?_)
  · have hw := hw.1 h3
    refine z_iconst (v := Int32.ofInt 0) dX6_valueTo_17 rfl ?_
    exact z_ireturn dX6_valueTo_18 rfl rfl (hP _ _ _ hw hW)
  · have hw := hw.2 h3
    refine z_aload_n dX6_valueTo_8 rfl rfl ?_
    refine v_getR hW (hU 3 _ rfl) rfl kX6 fX6_62 dX6_valueTo_9 ?_
    refine z_iload_n dX6_valueTo_12 rfl rfl ?_
    obtain ⟨q5a, q5b, hw⟩ := hw
    have q6 : iv 0 3000 (S1.2 19 (a1)) := hW.iA 19 _
    have hw := hw q6
    refine v_iald hW (hT 19 _ rfl) q5a q5b (by decide) dX6_valueTo_13 ?_
    refine z_goto (tgt := 18) dX6_valueTo_14 (by decide) ?_
    exact z_ireturn dX6_valueTo_18 rfl rfl (hP _ _ _ hw hW)

def wX3_leads_130 (m : Nat)  (l1 s0 : Int) (S : St) (K : Int → St → Prop) : Prop := (rng (s0) ∧ ((s0 < 0 → K (0) S) ∧ ((¬ (s0 < 0)) → (rng (l1) ∧ ((l1 ≤ s0 → K (0) S) ∧ ((¬ (l1 ≤ s0)) → ((0 : Int) ≤ s0 ∧ s0 < (m : Int) ∧ (iv (-2147483648) 2147483647 (S.2 231 (s0)) → ((S.2 231 (s0) = 1 → ((0 : Int) ≤ l1 ∧ l1 < (m : Int) ∧ (iv (-2147483648) 2147483647 (S.2 234 (l1)) → ((¬ S.2 234 (l1) = (-1) → ((0 : Int) ≤ l1 ∧ l1 < (m : Int) ∧ (iv 0 29 (S.2 232 (l1)) → ((0 : Int) ≤ l1 ∧ l1 < (m : Int) ∧ (iv (-2147483648) 2147483647 (S.2 233 (l1)) → ((0 : Int) ≤ l1 ∧ l1 < (m : Int) ∧ (iv (-2147483648) 2147483647 (S.2 234 (l1)) → ((0 : Int) ≤ s0 ∧ s0 < (m : Int) ∧ (iv 0 29 (S.2 232 (s0)) → (wX1_putCell_b (S.2 232 (l1)) (S.2 233 (l1)) (S.2 234 (l1)) (S.2 232 (s0)) S (fun r20 S19 => ((0 : Int) ≤ s0 ∧ s0 < (m : Int) ∧ (iv 0 29 (S19.2 232 (s0)) → (wX1_classOf_b (S19.2 232 (s0)) S19 (fun r24 S23 => (wX6_nameFrom (l1) S23 (fun r26 S25 => (wX6_nameTo (l1) S25 (fun r28 S27 => (rng (r24) ∧ (rng (r26) ∧ (rng (r28) ∧ (wX4_spells (r24) (r26) (r28) S27 (fun r30 S29 => (iv 0 1 (r30) ∧ K (r30) S29))))))))))))))))))))))))) ∧ ((¬ (¬ S.2 234 (l1) = (-1))) → ((0 : Int) ≤ l1 ∧ l1 < (m : Int) ∧ (iv 0 29 (S.2 232 (l1)) → ((0 : Int) ≤ l1 ∧ l1 < (m : Int) ∧ (iv (-2147483648) 2147483647 (S.2 233 (l1)) → ((0 : Int) ≤ s0 ∧ s0 < (m : Int) ∧ (iv 0 29 (S.2 232 (s0)) → (wX1_putHead_b (S.2 232 (l1)) (S.2 233 (l1)) (S.2 232 (s0)) S (fun r42 S41 => K (1) S41))))))))))))) ∧ ((¬ (S.2 231 (s0) = 1)) → K (0) S))))))))))
set_option maxRecDepth 100000 in
set_option maxHeartbeats 4000000 in
theorem ubX3_leads_130 {G : xG} {v : Nat → Nat} {sh : Nat → Option Sh} {B : Nat × Nat} {c0 : List va_E} {m : Nat} {d : Nat} {Post : xP} {l1 s0 : Int} {S : St} {cs : List va_E} {K : Int → St → Prop} (hd : 5 ≤ d) (hm : m ≤ 200) (hT : sb shC sh) (hS : ∀ b x, sh b = some x → ¬ isS b) (hU : sb (shMe m) sh) (hW : Wv G v sh B c0 S cs) (hP : ∀ (x : Int) (S : St) (cs : List va_E), K x S → Wv G v sh B c0 S cs → Post (some (.int (Int32.ofInt x))) cs)  (hw : wX3_leads_130 m l1 s0 S K ) : Z (RX3, cX3_leads, 6, some .boolean, false) G d Post 130 [(0, .ref (G.1 + v 230)), (1, .int (Int32.ofInt (l1)))] [.int (Int32.ofInt (s0))] cs := by
  unfold wX3_leads_130 at hw
  refine z_istore dX3_leads_130 (by decide) ?_
  refine z_loc (L' := [(0, .ref (G.1 + v 230)), (1, .int (Int32.ofInt (l1))), (5, .int (Int32.ofInt (s0)))]) (List.forall_mem_cons.mpr ⟨rfl, (List.forall_mem_cons.mpr ⟨rfl, (List.forall_mem_cons.mpr ⟨rfl, (fun _ h => nomatch h)⟩)⟩)⟩) ?_
  refine z_iload dX3_leads_132 rfl ?_
  obtain ⟨q2, hw⟩ := hw
  refine i_if_lt (tgt := 154) dX3_leads_134 (by decide) q2 (fun h1 => ?_) (fun h1 => ?_)
  · have hw := hw.1 h1
    refine z_iconst (v := Int32.ofInt 0) dX3_leads_154 rfl ?_
    exact z_ireturn dX3_leads_155 rfl (nar01 (by decide)) (hP _ _ _ hw hW)
  · have hw := hw.2 h1
    refine z_iload dX3_leads_137 rfl ?_
    refine z_iload_n dX3_leads_139 rfl rfl ?_
    obtain ⟨q4, hw⟩ := hw
    refine i_icmp_ge (tgt := 154) dX3_leads_140 (by decide) q2 q4 (fun h3 => ?_) (fun h3 => ?_)
    · have hw := hw.1 h3
      refine z_iconst (v := Int32.ofInt 0) dX3_leads_154 rfl ?_
      exact z_ireturn dX3_leads_155 rfl (nar01 (by decide)) (hP _ _ _ hw hW)
    · have hw := hw.2 h3
      refine z_aload_n dX3_leads_143 rfl rfl ?_
      refine v_getR hW (hU 230 _ rfl) rfl kX3 fX3_54 dX3_leads_144 ?_
      refine z_iload dX3_leads_147 rfl ?_
      obtain ⟨q5a, q5b, hw⟩ := hw
      have q6 : iv (-2147483648) 2147483647 (S.2 231 (s0)) := hW.iA 231 _
      have hw := hw q6
      refine v_iald hW (hU 231 _ rfl) q5a q5b (m_lt hm) dX3_leads_149 ?_
      refine z_iconst (v := Int32.ofInt 1) dX3_leads_150 rfl ?_
      refine i_icmp_eq (tgt := 156) dX3_leads_151 (by decide) (rngq q6 (by decide) (by decide)) ⟨by decide, by decide⟩ (fun h7 => ?_) (fun h7 => ?_)
      · have hw := hw.1 h7
        refine z_aload_n dX3_leads_156 rfl rfl ?_
        refine v_getR hW (hU 230 _ rfl) rfl kX3 fX3_63 dX3_leads_157 ?_
        refine z_iload_n dX3_leads_160 rfl rfl ?_
        obtain ⟨q8a, q8b, hw⟩ := hw
        have q9 : iv (-2147483648) 2147483647 (S.2 234 (l1)) := hW.iA 234 _
        have hw := hw q9
        refine v_iald hW (hU 234 _ rfl) q8a q8b (m_lt hm) dX3_leads_161 ?_
        refine z_iconst (v := Int32.ofInt (-1)) dX3_leads_162 rfl ?_
        refine i_icmp_ne (tgt := 194) dX3_leads_163 (by decide) (rngq q9 (by decide) (by decide)) ⟨by decide, by decide⟩ (fun h10 => ?_) (fun h10 => ?_)
        · have hw := hw.1 h10
          refine z_aload_n dX3_leads_194 rfl rfl ?_
          refine v_getR hW (hU 230 _ rfl) rfl kX3 fX3_37 dX3_leads_195 ?_
          refine z_aload_n dX3_leads_198 rfl rfl ?_
          refine v_getR hW (hU 230 _ rfl) rfl kX3 fX3_57 dX3_leads_199 ?_
          refine z_iload_n dX3_leads_202 rfl rfl ?_
          obtain ⟨q11a, q11b, hw⟩ := hw
          have q12 : iv 0 29 (S.2 232 (l1)) := hW.iA 232 _
          have hw := hw q12
          refine v_iald hW (hU 232 _ rfl) q11a q11b (m_lt hm) dX3_leads_203 ?_
          refine z_aload_n dX3_leads_204 rfl rfl ?_
          refine v_getR hW (hU 230 _ rfl) rfl kX3 fX3_60 dX3_leads_205 ?_
          refine z_iload_n dX3_leads_208 rfl rfl ?_
          obtain ⟨q13a, q13b, hw⟩ := hw
          have q14 : iv (-2147483648) 2147483647 (S.2 233 (l1)) := hW.iA 233 _
          have hw := hw q14
          refine v_iald hW (hU 233 _ rfl) q13a q13b (m_lt hm) dX3_leads_209 ?_
          refine z_aload_n dX3_leads_210 rfl rfl ?_
          refine v_getR hW (hU 230 _ rfl) rfl kX3 fX3_63 dX3_leads_211 ?_
          refine z_iload_n dX3_leads_214 rfl rfl ?_
          obtain ⟨q15a, q15b, hw⟩ := hw
          have q16 : iv (-2147483648) 2147483647 (S.2 234 (l1)) := hW.iA 234 _
          have hw := hw q16
          refine v_iald hW (hU 234 _ rfl) q15a q15b (m_lt hm) dX3_leads_215 ?_
          refine z_aload_n dX3_leads_216 rfl rfl ?_
          refine v_getR hW (hU 230 _ rfl) rfl kX3 fX3_57 dX3_leads_217 ?_
          refine z_iload dX3_leads_220 rfl ?_
          obtain ⟨q17a, q17b, hw⟩ := hw
          have q18 : iv 0 29 (S.2 232 (s0)) := hW.iA 232 _
          have hw := hw q18
          refine v_iald hW (hU 232 _ rfl) q17a q17b (m_lt hm) dX3_leads_222 ?_
          have hX := lX1_putCell_b 1 (Nat.le_refl _) hT hS hW (rngq q12 (by decide) (by decide)) (rngq q14 (by decide) (by decide)) (rngq q16 (by decide) (by decide)) (rngq q18 (by decide) (by decide)) hw
          refine z_callV (As := [_, _, _, _]) eX1_putCell sX1_putCell lX3_160 rfl dX3_leads_223 (hW.at (hT 50 _ rfl)) hX (Nat.le_trans (by decide) hd) rfl (Nat.le_of_ble_eq_true rfl) (fun r cs hp => ?_)
          obtain ⟨r20, S19, rfl, hw, hW⟩ := hp
          refine z_st (st' := []) rfl ?_
          refine z_aload_n dX3_leads_226 rfl rfl ?_
          refine v_getR hW (hU 230 _ rfl) rfl kX3 fX3_15 dX3_leads_227 ?_
          refine z_aload_n dX3_leads_230 rfl rfl ?_
          refine v_getR hW (hU 230 _ rfl) rfl kX3 fX3_37 dX3_leads_231 ?_
          refine z_aload_n dX3_leads_234 rfl rfl ?_
          refine v_getR hW (hU 230 _ rfl) rfl kX3 fX3_57 dX3_leads_235 ?_
          refine z_iload dX3_leads_238 rfl ?_
          obtain ⟨q21a, q21b, hw⟩ := hw
          have q22 : iv 0 29 (S19.2 232 (s0)) := hW.iA 232 _
          have hw := hw q22
          refine v_iald hW (hU 232 _ rfl) q21a q21b (m_lt hm) dX3_leads_240 ?_
          have hX := lX1_classOf_b 1 (Nat.le_refl _) hT hS hW (rngq q22 (by decide) (by decide)) hw
          refine z_callV (As := [_]) eX1_classOf sX1_classOf lX3_122 rfl dX3_leads_241 (hW.at (hT 50 _ rfl)) hX (Nat.le_trans (by decide) hd) rfl (Nat.le_of_ble_eq_true rfl) (fun r cs hp => ?_)
          obtain ⟨r24, S23, rfl, hw, hW⟩ := hp
          refine z_st (st' := [.int (Int32.ofInt (r24)), .ref (G.1 + v 24)]) rfl ?_
          refine z_aload_n dX3_leads_244 rfl rfl ?_
          refine v_getR hW (hU 230 _ rfl) rfl kX3 fX3_29 dX3_leads_245 ?_
          refine z_aload_n dX3_leads_248 rfl rfl ?_
          refine v_getR hW (hU 230 _ rfl) rfl kX3 fX3_19 dX3_leads_249 ?_
          refine z_iload_n dX3_leads_252 rfl rfl ?_
          have hX := lX6_nameFrom 1 (Nat.le_refl _) hT hS (sbt sbX6_X3 hU) hW q4 hw
          refine z_callV (As := [_]) eX6_nameFrom sX6_nameFrom lX3_88 rfl dX3_leads_253 (hW.at (hU 3 _ rfl)) hX (Nat.le_trans (by decide) hd) rfl (Nat.le_of_ble_eq_true rfl) (fun r cs hp => ?_)
          obtain ⟨r26, S25, rfl, hw, hW⟩ := hp
          refine z_st (st' := [.int (Int32.ofInt (r26)), .ref (G.1 + v 1), .int (Int32.ofInt (r24)), .ref (G.1 + v 24)]) rfl ?_
          refine z_aload_n dX3_leads_256 rfl rfl ?_
          refine v_getR hW (hU 230 _ rfl) rfl kX3 fX3_19 dX3_leads_257 ?_
          refine z_iload_n dX3_leads_260 rfl rfl ?_
          have hX := lX6_nameTo 1 (Nat.le_refl _) hT hS (sbt sbX6_X3 hU) hW q4 hw
          refine z_callV (As := [_]) eX6_nameTo sX6_nameTo lX3_91 rfl dX3_leads_261 (hW.at (hU 3 _ rfl)) hX (Nat.le_trans (by decide) hd) rfl (Nat.le_of_ble_eq_true rfl) (fun r cs hp => ?_)
          obtain ⟨r28, S27, rfl, hw, hW⟩ := hp
          refine z_st (st' := [.int (Int32.ofInt (r28)), .int (Int32.ofInt (r26)), .ref (G.1 + v 1), .int (Int32.ofInt (r24)), .ref (G.1 + v 24)]) rfl ?_
          obtain ⟨q31, hw⟩ := hw
          obtain ⟨q32, hw⟩ := hw
          obtain ⟨q33, hw⟩ := hw
          have hX := lX4_spells 1 (Nat.le_refl _) hT hS hW q31 q32 q33 hw
          refine z_callV (As := [_, _, _, _]) eX4_spells sX4_spells lX3_235 rfl dX3_leads_264 (hW.at (hT 24 _ rfl)) hX (Nat.le_trans (by decide) hd) rfl (Nat.le_of_ble_eq_true rfl) (fun r cs hp => ?_)
          obtain ⟨r30, S29, rfl, hw, hW⟩ := hp
          refine z_st (st' := [.int (Int32.ofInt (r30))]) rfl ?_
          obtain ⟨q34, hw⟩ := hw
          exact z_ireturn dX3_leads_267 rfl (nar01 (b01 q34)) (hP _ _ _ hw hW)
        · have hw := hw.2 h10
          refine z_aload_n dX3_leads_166 rfl rfl ?_
          refine v_getR hW (hU 230 _ rfl) rfl kX3 fX3_37 dX3_leads_167 ?_
          refine z_aload_n dX3_leads_170 rfl rfl ?_
          refine v_getR hW (hU 230 _ rfl) rfl kX3 fX3_57 dX3_leads_171 ?_
          refine z_iload_n dX3_leads_174 rfl rfl ?_
          obtain ⟨q35a, q35b, hw⟩ := hw
          have q36 : iv 0 29 (S.2 232 (l1)) := hW.iA 232 _
          have hw := hw q36
          refine v_iald hW (hU 232 _ rfl) q35a q35b (m_lt hm) dX3_leads_175 ?_
          refine z_aload_n dX3_leads_176 rfl rfl ?_
          refine v_getR hW (hU 230 _ rfl) rfl kX3 fX3_60 dX3_leads_177 ?_
          refine z_iload_n dX3_leads_180 rfl rfl ?_
          obtain ⟨q37a, q37b, hw⟩ := hw
          have q38 : iv (-2147483648) 2147483647 (S.2 233 (l1)) := hW.iA 233 _
          have hw := hw q38
          refine v_iald hW (hU 233 _ rfl) q37a q37b (m_lt hm) dX3_leads_181 ?_
          refine z_aload_n dX3_leads_182 rfl rfl ?_
          refine v_getR hW (hU 230 _ rfl) rfl kX3 fX3_57 dX3_leads_183 ?_
          refine z_iload dX3_leads_186 rfl ?_
          obtain ⟨q39a, q39b, hw⟩ := hw
          have q40 : iv 0 29 (S.2 232 (s0)) := hW.iA 232 _
          have hw := hw q40
          refine v_iald hW (hU 232 _ rfl) q39a q39b (m_lt hm) dX3_leads_188 ?_
          have hX := lX1_putHead_b 1 (Nat.le_refl _) hT hS hW (rngq q36 (by decide) (by decide)) (rngq q38 (by decide) (by decide)) (rngq q40 (by decide) (by decide)) hw
          refine z_callV (As := [_, _, _]) eX1_putHead sX1_putHead lX3_152 rfl dX3_leads_189 (hW.at (hT 50 _ rfl)) hX (Nat.le_trans (by decide) hd) rfl (Nat.le_of_ble_eq_true rfl) (fun r cs hp => ?_)
          obtain ⟨r42, S41, rfl, hw, hW⟩ := hp
          refine z_st (st' := []) rfl ?_
          refine z_iconst (v := Int32.ofInt 1) dX3_leads_192 rfl ?_
          exact z_ireturn dX3_leads_193 rfl (nar01 (by decide)) (hP _ _ _ hw hW)
      · have hw := hw.2 h7
        refine z_iconst (v := Int32.ofInt 0) dX3_leads_154 rfl ?_
        exact z_ireturn dX3_leads_155 rfl (nar01 (by decide)) (hP _ _ _ hw hW)
def wX3_leads_100 (m : Nat)  (l1 l2 l3 s0 : Int) (S : St) (K : Int → St → Prop) : Prop := (rng (s0) ∧ ((s0 = 0 → (rng (l1) ∧ (rng (l2) ∧ (rng (l3) ∧ (wX7_end (l1) (l2) (l3) S (fun r4 S3 => wX3_leads_130 m (l1) (r4) S3 K)))))) ∧ ((¬ (s0 = 0)) → (rng (l2) ∧ (rng (l3) ∧ (wX3_idAt m (l2) (l3) S (fun r9 S8 => (rng (r9) ∧ (wX3_elementWithId m (r9) S8 (fun r13 S12 => wX3_leads_130 m (l1) (r13) S12 K))))))))))
set_option maxRecDepth 100000 in
set_option maxHeartbeats 4000000 in
theorem ubX3_leads_100 {G : xG} {v : Nat → Nat} {sh : Nat → Option Sh} {B : Nat × Nat} {c0 : List va_E} {m : Nat} {d : Nat} {Post : xP} {l1 l2 l3 s0 : Int} {S : St} {cs : List va_E} {K : Int → St → Prop} (hd : 5 ≤ d) (hm : m ≤ 200) (hT : sb shC sh) (hS : ∀ b x, sh b = some x → ¬ isS b) (hU : sb (shMe m) sh) (hW : Wv G v sh B c0 S cs) (hP : ∀ (x : Int) (S : St) (cs : List va_E), K x S → Wv G v sh B c0 S cs → Post (some (.int (Int32.ofInt x))) cs)  (hw : wX3_leads_100 m l1 l2 l3 s0 S K ) : Z (RX3, cX3_leads, 6, some .boolean, false) G d Post 100 [(0, .ref (G.1 + v 230)), (1, .int (Int32.ofInt (l1))), (2, .int (Int32.ofInt (l2))), (3, .int (Int32.ofInt (l3)))] [.int (Int32.ofInt (s0))] cs := by
  unfold wX3_leads_100 at hw
  refine z_istore dX3_leads_100 (by decide) ?_
  refine z_loc (L' := [(0, .ref (G.1 + v 230)), (1, .int (Int32.ofInt (l1))), (2, .int (Int32.ofInt (l2))), (3, .int (Int32.ofInt (l3))), (4, .int (Int32.ofInt (s0)))]) (List.forall_mem_cons.mpr ⟨rfl, (List.forall_mem_cons.mpr ⟨rfl, (List.forall_mem_cons.mpr ⟨rfl, (List.forall_mem_cons.mpr ⟨rfl, (List.forall_mem_cons.mpr ⟨rfl, (fun _ h => nomatch h)⟩)⟩)⟩)⟩)⟩) ?_
  refine z_iload dX3_leads_102 rfl ?_
  obtain ⟨q2, hw⟩ := hw
  refine i_if_eq (tgt := 120) dX3_leads_104 (by decide) q2 (fun h1 => ?_) (fun h1 => ?_)
  · have hw := hw.1 h1
    refine z_aload_n dX3_leads_120 rfl rfl ?_
    refine v_getR hW (hU 230 _ rfl) rfl kX3 fX3_46 dX3_leads_121 ?_
    refine z_iload_n dX3_leads_124 rfl rfl ?_
    refine z_iload_n dX3_leads_125 rfl rfl ?_
    refine z_iload_n dX3_leads_126 rfl rfl ?_
    obtain ⟨q5, hw⟩ := hw
    obtain ⟨q6, hw⟩ := hw
    obtain ⟨q7, hw⟩ := hw
    have hX := lX7_end 4 (Nat.le_refl _) hT hS (sbt sbX7_X3 hU) hW q5 q6 q7 hw
    refine z_callV (As := [_, _, _]) eX7_end sX7_end lX3_232 rfl dX3_leads_127 (hW.at (hU 240 _ rfl)) hX (Nat.le_trans (by decide) hd) rfl (Nat.le_of_ble_eq_true rfl) (fun r cs hp => ?_)
    obtain ⟨r4, S3, rfl, hw, hW⟩ := hp
    refine z_st (st' := [.int (Int32.ofInt (r4))]) rfl ?_
    refine z_loc (L' := [(0, .ref (G.1 + v 230)), (1, .int (Int32.ofInt (l1)))]) (List.forall_mem_cons.mpr ⟨rfl, (List.forall_mem_cons.mpr ⟨rfl, (fun _ h => nomatch h)⟩)⟩) ?_
    exact ubX3_leads_130 hd hm hT hS hU hW hP  hw
  · have hw := hw.2 h1
    refine z_aload_n dX3_leads_107 rfl rfl ?_
    refine z_aload_n dX3_leads_108 rfl rfl ?_
    refine z_iload_n dX3_leads_109 rfl rfl ?_
    refine z_iload_n dX3_leads_110 rfl rfl ?_
    obtain ⟨q10, hw⟩ := hw
    obtain ⟨q11, hw⟩ := hw
    have hX := lX3_idAt 1 (Nat.le_refl _) hm hT hS hU hW q10 q11 hw
    refine z_callV (As := [_, _]) eX3_idAt sX3_idAt lX3_205 rfl dX3_leads_111 (hW.at (hU 230 _ rfl)) hX (Nat.le_trans (by decide) hd) rfl (Nat.le_of_ble_eq_true rfl) (fun r cs hp => ?_)
    obtain ⟨r9, S8, rfl, hw, hW⟩ := hp
    refine z_st (st' := [.int (Int32.ofInt (r9)), .ref (G.1 + v 230)]) rfl ?_
    obtain ⟨q14, hw⟩ := hw
    have hX := lX3_elementWithId 0 (Nat.le_refl _) hm hT hS hU hW q14 hw
    refine z_callV (As := [_]) eX3_elementWithId sX3_elementWithId lX3_208 rfl dX3_leads_114 (hW.at (hU 230 _ rfl)) hX (Nat.le_trans (by decide) hd) rfl (Nat.le_of_ble_eq_true rfl) (fun r cs hp => ?_)
    obtain ⟨r13, S12, rfl, hw, hW⟩ := hp
    refine z_st (st' := [.int (Int32.ofInt (r13))]) rfl ?_
    refine z_goto (tgt := 130) dX3_leads_117 (by decide) ?_
    refine z_loc (L' := [(0, .ref (G.1 + v 230)), (1, .int (Int32.ofInt (l1)))]) (List.forall_mem_cons.mpr ⟨rfl, (List.forall_mem_cons.mpr ⟨rfl, (fun _ h => nomatch h)⟩)⟩) ?_
    exact ubX3_leads_130 hd hm hT hS hU hW hP  hw
def wX3_leads_99 (m : Nat)  (l1 l2 l3 : Int) (S : St) (K : Int → St → Prop) : Prop := wX3_leads_100 m (l1) (l2) (l3) (0) S K
set_option maxRecDepth 100000 in
set_option maxHeartbeats 4000000 in
theorem ubX3_leads_99 {G : xG} {v : Nat → Nat} {sh : Nat → Option Sh} {B : Nat × Nat} {c0 : List va_E} {m : Nat} {d : Nat} {Post : xP} {l1 l2 l3 : Int} {S : St} {cs : List va_E} {K : Int → St → Prop} (hd : 5 ≤ d) (hm : m ≤ 200) (hT : sb shC sh) (hS : ∀ b x, sh b = some x → ¬ isS b) (hU : sb (shMe m) sh) (hW : Wv G v sh B c0 S cs) (hP : ∀ (x : Int) (S : St) (cs : List va_E), K x S → Wv G v sh B c0 S cs → Post (some (.int (Int32.ofInt x))) cs)  (hw : wX3_leads_99 m l1 l2 l3 S K ) : Z (RX3, cX3_leads, 6, some .boolean, false) G d Post 99 [(0, .ref (G.1 + v 230)), (1, .int (Int32.ofInt (l1))), (2, .int (Int32.ofInt (l2))), (3, .int (Int32.ofInt (l3)))] [] cs := by
  unfold wX3_leads_99 at hw
  refine z_iconst (v := Int32.ofInt 0) dX3_leads_99 rfl ?_
  refine z_loc (L' := [(0, .ref (G.1 + v 230)), (1, .int (Int32.ofInt (l1))), (2, .int (Int32.ofInt (l2))), (3, .int (Int32.ofInt (l3)))]) (List.forall_mem_cons.mpr ⟨rfl, (List.forall_mem_cons.mpr ⟨rfl, (List.forall_mem_cons.mpr ⟨rfl, (List.forall_mem_cons.mpr ⟨rfl, (fun _ h => nomatch h)⟩)⟩)⟩)⟩) ?_
  exact ubX3_leads_100 hd hm hT hS hU hW hP  hw
def wX3_leads (m : Nat)  (a1 : Int) (S : St) (K : Int → St → Prop) : Prop := rng a1 → (wX6_attributeCount (a1) S (fun r2 S1 => (rng (r2) ∧ ((¬ r2 = 1 → K (0) S1) ∧ ((¬ (¬ r2 = 1)) → (wX6_kidCount (a1) S1 (fun r6 S5 => (rng (r6) ∧ ((0 < r6 → K (0) S5) ∧ ((¬ (0 < r6)) → (wX6_textTo (a1) S5 (fun r10 S9 => (wX6_textFrom (a1) S9 (fun r12 S11 => (rng (r10) ∧ (rng (r12) ∧ ((r10 ≤ r12 → (wX6_firstAttribute (a1) S11 (fun r17 S16 => (rng (r17) ∧ (wX6_valueFrom (r17) S16 (fun r19 S18 => (wX6_firstAttribute (a1) S18 (fun r22 S21 => (rng (r22) ∧ (wX6_valueTo (r22) S21 (fun r24 S23 => (rng (r19) ∧ (rng (r24) ∧ ((r24 ≤ r19 → wX3_leads_99 m (a1) (r19) (r24) S23 K) ∧ ((¬ (r24 ≤ r19)) → (wX5_at 4 (r19) S23 (fun r30 S29 => (rng (r30) ∧ (wX10_isDigit (r30) S29 (fun r32 S31 => (rng (r32) ∧ ((r32 = 0 → wX3_leads_99 m (a1) (r19) (r24) S31 K) ∧ ((¬ (r32 = 0)) → wX3_leads_100 m (a1) (r19) (r24) (1) S31 K))))))))))))))))))))))) ∧ ((¬ (r10 ≤ r12)) → K (0) S11))))))))))))))))))
set_option maxRecDepth 100000 in
set_option maxHeartbeats 4000000 in
theorem lX3_leads {G : xG} {v : Nat → Nat} {sh : Nat → Option Sh} {B : Nat × Nat} {c0 : List va_E} {m : Nat}  {a1 : Int} {S : St} {cs : List va_E} {K : Int → St → Prop} (d : Nat) (hd : 5 ≤ d) (hm : m ≤ 200) (hT : sb shC sh) (hS : ∀ b x, sh b = some x → ¬ isS b) (hU : sb (shMe m) sh) (hW : Wv G v sh B c0 S cs) (g1 : rng a1) (hw : wX3_leads m a1 S K) : X G yX3_leads cX3_leads 6 (some .boolean) d [.ref (G.1 + v 230), .int (Int32.ofInt a1)] cs (vI G v sh B c0 K) := by
  refine X.of false (by decide +kernel) (by decide) (Nat.le_of_ble_eq_true rfl) ?_
  show Z (RX3, cX3_leads, 6, some .boolean, false) G d _ 0 [(0, .ref (G.1 + v 230)), (1, .int (Int32.ofInt a1))] [] cs
  have hP : ∀ (x : Int) (S : St) (cs : List va_E), K x S → Wv G v sh B c0 S cs → vI G v sh B c0 K (some (.int (Int32.ofInt x))) cs := fun x S cs a b => ⟨x, S, rfl, a, b⟩
  unfold wX3_leads at hw
  have hw := hw g1
  refine z_aload_n dX3_leads_0 rfl rfl ?_
  refine v_getR hW (hU 230 _ rfl) rfl kX3 fX3_19 dX3_leads_1 ?_
  refine z_iload_n dX3_leads_4 rfl rfl ?_
  have hX := lX6_attributeCount 1 (Nat.le_refl _) hT hS (sbt sbX6_X3 hU) hW g1 hw
  refine z_callV (As := [_]) eX6_attributeCount sX6_attributeCount lX3_169 rfl dX3_leads_5 (hW.at (hU 3 _ rfl)) hX (Nat.le_trans (by decide) hd) rfl (Nat.le_of_ble_eq_true rfl) (fun r cs hp => ?_)
  obtain ⟨r2, S1, rfl, hw, hW⟩ := hp
  refine z_st (st' := [.int (Int32.ofInt (r2))]) rfl ?_
  refine z_iconst (v := Int32.ofInt 1) dX3_leads_8 rfl ?_
  obtain ⟨q4, hw⟩ := hw
  refine i_icmp_ne (tgt := 42) dX3_leads_9 (by decide) q4 ⟨by decide, by decide⟩ (fun h3 => ?_) (fun h3 => ?_)
  · have hw := hw.1 h3
    refine z_iconst (v := Int32.ofInt 0) dX3_leads_42 rfl ?_
    exact z_ireturn dX3_leads_43 rfl (nar01 (by decide)) (hP _ _ _ hw hW)
  · have hw := hw.2 h3
    refine z_aload_n dX3_leads_12 rfl rfl ?_
    refine v_getR hW (hU 230 _ rfl) rfl kX3 fX3_19 dX3_leads_13 ?_
    refine z_iload_n dX3_leads_16 rfl rfl ?_
    have hX := lX6_kidCount 1 (Nat.le_refl _) hT hS (sbt sbX6_X3 hU) hW g1 hw
    refine z_callV (As := [_]) eX6_kidCount sX6_kidCount lX3_172 rfl dX3_leads_17 (hW.at (hU 3 _ rfl)) hX (Nat.le_trans (by decide) hd) rfl (Nat.le_of_ble_eq_true rfl) (fun r cs hp => ?_)
    obtain ⟨r6, S5, rfl, hw, hW⟩ := hp
    refine z_st (st' := [.int (Int32.ofInt (r6))]) rfl ?_
    obtain ⟨q8, hw⟩ := hw
    refine i_if_gt (tgt := 42) dX3_leads_20 (by decide) q8 (fun h7 => ?_) (fun h7 => ?_)
    · have hw := hw.1 h7
      refine z_iconst (v := Int32.ofInt 0) dX3_leads_42 rfl ?_
      exact z_ireturn dX3_leads_43 rfl (nar01 (by decide)) (hP _ _ _ hw hW)
    · have hw := hw.2 h7
      refine z_aload_n dX3_leads_23 rfl rfl ?_
      refine v_getR hW (hU 230 _ rfl) rfl kX3 fX3_19 dX3_leads_24 ?_
      refine z_iload_n dX3_leads_27 rfl rfl ?_
      have hX := lX6_textTo 1 (Nat.le_refl _) hT hS (sbt sbX6_X3 hU) hW g1 hw
      refine z_callV (As := [_]) eX6_textTo sX6_textTo lX3_178 rfl dX3_leads_28 (hW.at (hU 3 _ rfl)) hX (Nat.le_trans (by decide) hd) rfl (Nat.le_of_ble_eq_true rfl) (fun r cs hp => ?_)
      obtain ⟨r10, S9, rfl, hw, hW⟩ := hp
      refine z_st (st' := [.int (Int32.ofInt (r10))]) rfl ?_
      refine z_aload_n dX3_leads_31 rfl rfl ?_
      refine v_getR hW (hU 230 _ rfl) rfl kX3 fX3_19 dX3_leads_32 ?_
      refine z_iload_n dX3_leads_35 rfl rfl ?_
      have hX := lX6_textFrom 1 (Nat.le_refl _) hT hS (sbt sbX6_X3 hU) hW g1 hw
      refine z_callV (As := [_]) eX6_textFrom sX6_textFrom lX3_175 rfl dX3_leads_36 (hW.at (hU 3 _ rfl)) hX (Nat.le_trans (by decide) hd) rfl (Nat.le_of_ble_eq_true rfl) (fun r cs hp => ?_)
      obtain ⟨r12, S11, rfl, hw, hW⟩ := hp
      refine z_st (st' := [.int (Int32.ofInt (r12)), .int (Int32.ofInt (r10))]) rfl ?_
      obtain ⟨q14, hw⟩ := hw
      obtain ⟨q15, hw⟩ := hw
      refine i_icmp_le (tgt := 44) dX3_leads_39 (by decide) q14 q15 (fun h13 => ?_) (fun h13 => ?_)
      · have hw := hw.1 h13
        refine z_aload_n dX3_leads_44 rfl rfl ?_
        refine v_getR hW (hU 230 _ rfl) rfl kX3 fX3_19 dX3_leads_45 ?_
        refine z_aload_n dX3_leads_48 rfl rfl ?_
        refine v_getR hW (hU 230 _ rfl) rfl kX3 fX3_19 dX3_leads_49 ?_
        refine z_iload_n dX3_leads_52 rfl rfl ?_
        have hX := lX6_firstAttribute 1 (Nat.le_refl _) hT hS (sbt sbX6_X3 hU) hW g1 hw
        refine z_callV (As := [_]) eX6_firstAttribute sX6_firstAttribute lX3_185 rfl dX3_leads_53 (hW.at (hU 3 _ rfl)) hX (Nat.le_trans (by decide) hd) rfl (Nat.le_of_ble_eq_true rfl) (fun r cs hp => ?_)
        obtain ⟨r17, S16, rfl, hw, hW⟩ := hp
        refine z_st (st' := [.int (Int32.ofInt (r17)), .ref (G.1 + v 3)]) rfl ?_
        obtain ⟨q20, hw⟩ := hw
        have hX := lX6_valueFrom 1 (Nat.le_refl _) hT hS (sbt sbX6_X3 hU) hW q20 hw
        refine z_callV (As := [_]) eX6_valueFrom sX6_valueFrom lX3_146 rfl dX3_leads_56 (hW.at (hU 3 _ rfl)) hX (Nat.le_trans (by decide) hd) rfl (Nat.le_of_ble_eq_true rfl) (fun r cs hp => ?_)
        obtain ⟨r19, S18, rfl, hw, hW⟩ := hp
        refine z_st (st' := [.int (Int32.ofInt (r19))]) rfl ?_
        refine z_istore_n dX3_leads_59 rfl (by decide) ?_
        refine z_loc (L' := [(0, .ref (G.1 + v 230)), (1, .int (Int32.ofInt (a1))), (2, .int (Int32.ofInt (r19)))]) (List.forall_mem_cons.mpr ⟨rfl, (List.forall_mem_cons.mpr ⟨rfl, (List.forall_mem_cons.mpr ⟨rfl, (fun _ h => nomatch h)⟩)⟩)⟩) ?_
        refine z_aload_n dX3_leads_60 rfl rfl ?_
        refine v_getR hW (hU 230 _ rfl) rfl kX3 fX3_19 dX3_leads_61 ?_
        refine z_aload_n dX3_leads_64 rfl rfl ?_
        refine v_getR hW (hU 230 _ rfl) rfl kX3 fX3_19 dX3_leads_65 ?_
        refine z_iload_n dX3_leads_68 rfl rfl ?_
        have hX := lX6_firstAttribute 1 (Nat.le_refl _) hT hS (sbt sbX6_X3 hU) hW g1 hw
        refine z_callV (As := [_]) eX6_firstAttribute sX6_firstAttribute lX3_185 rfl dX3_leads_69 (hW.at (hU 3 _ rfl)) hX (Nat.le_trans (by decide) hd) rfl (Nat.le_of_ble_eq_true rfl) (fun r cs hp => ?_)
        obtain ⟨r22, S21, rfl, hw, hW⟩ := hp
        refine z_st (st' := [.int (Int32.ofInt (r22)), .ref (G.1 + v 3)]) rfl ?_
        obtain ⟨q25, hw⟩ := hw
        have hX := lX6_valueTo 1 (Nat.le_refl _) hT hS (sbt sbX6_X3 hU) hW q25 hw
        refine z_callV (As := [_]) eX6_valueTo sX6_valueTo lX3_149 rfl dX3_leads_72 (hW.at (hU 3 _ rfl)) hX (Nat.le_trans (by decide) hd) rfl (Nat.le_of_ble_eq_true rfl) (fun r cs hp => ?_)
        obtain ⟨r24, S23, rfl, hw, hW⟩ := hp
        refine z_st (st' := [.int (Int32.ofInt (r24))]) rfl ?_
        refine z_istore_n dX3_leads_75 rfl (by decide) ?_
        refine z_loc (L' := [(0, .ref (G.1 + v 230)), (1, .int (Int32.ofInt (a1))), (2, .int (Int32.ofInt (r19))), (3, .int (Int32.ofInt (r24)))]) (List.forall_mem_cons.mpr ⟨rfl, (List.forall_mem_cons.mpr ⟨rfl, (List.forall_mem_cons.mpr ⟨rfl, (List.forall_mem_cons.mpr ⟨rfl, (fun _ h => nomatch h)⟩)⟩)⟩)⟩) ?_
        refine z_iload_n dX3_leads_76 rfl rfl ?_
        refine z_iload_n dX3_leads_77 rfl rfl ?_
        obtain ⟨q27, hw⟩ := hw
        obtain ⟨q28, hw⟩ := hw
        refine i_icmp_ge (tgt := 99) dX3_leads_78 (by decide) q27 q28 (fun h26 => ?_) (fun h26 => ?_)
        · have hw := hw.1 h26
          refine z_loc (L' := [(0, .ref (G.1 + v 230)), (1, .int (Int32.ofInt (a1))), (2, .int (Int32.ofInt (r19))), (3, .int (Int32.ofInt (r24)))]) (List.forall_mem_cons.mpr ⟨rfl, (List.forall_mem_cons.mpr ⟨rfl, (List.forall_mem_cons.mpr ⟨rfl, (List.forall_mem_cons.mpr ⟨rfl, (fun _ h => nomatch h)⟩)⟩)⟩)⟩) ?_
          exact ubX3_leads_99 hd hm hT hS hU hW hP  hw
        · have hw := hw.2 h26
          refine z_aload_n dX3_leads_81 rfl rfl ?_
          refine v_getR hW (hU 230 _ rfl) rfl kX3 fX3_35 dX3_leads_82 ?_
          refine z_iload_n dX3_leads_85 rfl rfl ?_
          have hX := lX5_at 0 (Nat.le_refl _) hW (show isS 4 by unfold isS; decide) (fun b x h e => hS b x h (e ▸ (show isS 4 by unfold isS; decide))) q27 hw
          refine z_callV (As := [_]) eX5_at sX5_at lX3_211 rfl dX3_leads_86 (hW.sg (show isS 4 by unfold isS; decide) (fun b x h e => hS b x h (e ▸ (show isS 4 by unfold isS; decide)))).choose_spec.choose_spec.choose_spec.choose_spec.1.choose_spec.1 hX (Nat.le_trans (by decide) hd) rfl (Nat.le_of_ble_eq_true rfl) (fun r cs hp => ?_)
          obtain ⟨r30, S29, rfl, hw, hW⟩ := hp
          refine z_st (st' := [.int (Int32.ofInt (r30))]) rfl ?_
          obtain ⟨q33, hw⟩ := hw
          have hX := lX10_isDigit 0 (Nat.le_refl _) hT hS hW q33 hw
          refine z_callSN (As := [_]) eX10_isDigit sX10_isDigit lX3_214 dX3_leads_89 hX (Nat.le_trans (by decide) hd) rfl (Nat.le_of_ble_eq_true rfl) (fun r cs hp => ?_)
          obtain ⟨r32, S31, rfl, hw, hW⟩ := hp
          refine z_st (st' := [.int (Int32.ofInt (r32))]) rfl ?_
          obtain ⟨q35, hw⟩ := hw
          refine i_if_eq (tgt := 99) dX3_leads_92 (by decide) q35 (fun h34 => ?_) (fun h34 => ?_)
          · have hw := hw.1 h34
            refine z_loc (L' := [(0, .ref (G.1 + v 230)), (1, .int (Int32.ofInt (a1))), (2, .int (Int32.ofInt (r19))), (3, .int (Int32.ofInt (r24)))]) (List.forall_mem_cons.mpr ⟨rfl, (List.forall_mem_cons.mpr ⟨rfl, (List.forall_mem_cons.mpr ⟨rfl, (List.forall_mem_cons.mpr ⟨rfl, (fun _ h => nomatch h)⟩)⟩)⟩)⟩) ?_
            exact ubX3_leads_99 hd hm hT hS hU hW hP  hw
          · have hw := hw.2 h34
            refine z_iconst (v := Int32.ofInt 1) dX3_leads_95 rfl ?_
            refine z_goto (tgt := 100) dX3_leads_96 (by decide) ?_
            refine z_loc (L' := [(0, .ref (G.1 + v 230)), (1, .int (Int32.ofInt (a1))), (2, .int (Int32.ofInt (r19))), (3, .int (Int32.ofInt (r24)))]) (List.forall_mem_cons.mpr ⟨rfl, (List.forall_mem_cons.mpr ⟨rfl, (List.forall_mem_cons.mpr ⟨rfl, (List.forall_mem_cons.mpr ⟨rfl, (fun _ h => nomatch h)⟩)⟩)⟩)⟩) ?_
            exact ubX3_leads_100 hd hm hT hS hU hW hP  hw
      · have hw := hw.2 h13
        refine z_iconst (v := Int32.ofInt 0) dX3_leads_42 rfl ?_
        exact z_ireturn dX3_leads_43 rfl (nar01 (by decide)) (hP _ _ _ hw hW)

