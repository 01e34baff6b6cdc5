def shC : Nat → Option Sh := fun a => match a with
  | 0 => some (.inl (10, [some 1, some 3, some 20, some 22, some 24, some 33, some 42, some 46, some 50, none]))
  | 6 => some (.inr (0, 200))
  | 7 => some (.inr (0, 200))
  | 8 => some (.inr (0, 200))
  | 9 => some (.inr (0, 200))
  | 10 => some (.inr (0, 200))
  | 11 => some (.inr (0, 200))
  | 12 => some (.inr (0, 200))
  | 13 => some (.inr (0, 200))
  | 14 => some (.inr (0, 200))
  | 15 => some (.inr (2, 200))
  | 16 => some (.inr (0, 600))
  | 17 => some (.inr (0, 600))
  | 18 => some (.inr (0, 600))
  | 19 => some (.inr (0, 600))
  | 24 => some (.inl (4, [some 25, some 26, some 27, some 28, some 29, some 30, some 31, some 32, none]))
  | 25 => some (.inr (1, 480))
  | 26 => some (.inr (0, 30))
  | 27 => some (.inr (0, 24))
  | 28 => some (.inr (2, 24))
  | 29 => some (.inr (0, 6))
  | 30 => some (.inr (0, 6))
  | 31 => some (.inr (0, 6))
  | 32 => some (.inr (2, 6))
  | 33 => some (.inl (4, [some 34, some 35, some 36, some 37, some 38, some 39, some 40, some 41, none]))
  | 34 => some (.inr (1, 480))
  | 35 => some (.inr (0, 30))
  | 36 => some (.inr (0, 24))
  | 37 => some (.inr (2, 24))
  | 38 => some (.inr (0, 6))
  | 39 => some (.inr (0, 6))
  | 40 => some (.inr (0, 6))
  | 41 => some (.inr (2, 6))
  | 42 => some (.inl (1, [some 43, some 44, some 45, none]))
  | 43 => some (.inr (0, 30))
  | 44 => some (.inr (0, 120))
  | 45 => some (.inr (0, 2400))
  | 46 => some (.inl (1, [some 47, some 48, some 49, none]))
  | 47 => some (.inr (0, 30))
  | 48 => some (.inr (0, 120))
  | 49 => some (.inr (0, 2400))
  | 50 => some (.inl (1, [some 51, some 52, some 53, none]))
  | 51 => some (.inr (0, 30))
  | 52 => some (.inr (0, 120))
  | 53 => some (.inr (0, 2400))
  | _ => none
def shT : Nat → Option Sh := fun a => match a with
  | 200 => some (.inl (0, [some 1, some 33, none]))
  | _ => none
def shW : Nat → Option Sh := fun a => match a with
  | 210 => some (.inl (8, [some 24, some 42, some 22, none, none, some 211, some 212, some 213, some 214, some 215, some 216, none, none]))
  | 211 => some (.inr (0, 30))
  | 212 => some (.inr (0, 30))
  | 213 => some (.inr (0, 30))
  | 214 => some (.inr (0, 30))
  | 215 => some (.inr (0, 62))
  | 216 => some (.inr (0, 62))
  | _ => none
def shTr : Nat → Option Sh := fun a => match a with
  | 3 => some (.inl (6, [some 4, some 1, some 6, some 7, some 8, some 9, some 10, some 11, some 12, some 13, some 14, some 15, some 16, some 17, some 18, some 19, none, none]))
  | _ => none
def shXT : Nat → Option Sh := fun a => match a with
  | 3 => some (.inl (6, [some 4, some 1, some 6, some 7, some 8, some 9, some 10, some 11, some 12, some 13, some 14, some 15, some 16, some 17, some 18, some 19, none, none]))
  | 220 => some (.inl (9, [some 1, some 3, some 4, none, none, none, none]))
  | _ => none
def shWa : Nat → Option Sh := fun a => match a with
  | 3 => some (.inl (6, [some 4, some 1, some 6, some 7, some 8, some 9, some 10, some 11, some 12, some 13, some 14, some 15, some 16, some 17, some 18, some 19, none, none]))
  | 240 => some (.inl (7, [some 3, some 4]))
  | _ => none
def shMe (m : Nat) : Nat → Option Sh := fun a => match a with
  | 3 => some (.inl (6, [some 4, some 1, some 6, some 7, some 8, some 9, some 10, some 11, some 12, some 13, some 14, some 15, some 16, some 17, some 18, some 19, none, none]))
  | 230 => some (.inl (3, [some 24, some 3, some 1, some 4, some 50, some 240, some 231, some 232, some 233, some 234, some 235, some 236]))
  | 231 => some (.inr (0, m))
  | 232 => some (.inr (0, m))
  | 233 => some (.inr (0, m))
  | 234 => some (.inr (0, m))
  | 235 => some (.inr (0, m))
  | 236 => some (.inr (0, 30))
  | 240 => some (.inl (7, [some 3, some 4]))
  | _ => none
def shLi : Nat → Option Sh := fun a => match a with
  | 250 => some (.inl (2, [some 24, some 42, some 46, some 251, some 252, some 253, none]))
  | 251 => some (.inr (0, 30))
  | 252 => some (.inr (0, 30))
  | 253 => some (.inr (0, 30))
  | _ => none
def sb (s t : Nat → Option Sh) : Prop := ∀ a x, s a = some x → t a = some x
theorem sbt {s t u : Nat → Option Sh} (h : sb s t) (k : sb t u) : sb s u := fun a x q => k a x (h a x q)
theorem m_lt {m : Nat} (h : m ≤ 200) : m < 2147483648 := by omega
theorem m_rng {m : Nat} (h : m ≤ 200) : rng (m : Int) := ⟨by omega, by omega⟩
theorem sbX6_X9 : sb shTr shXT := fun a x h => by
  unfold shTr at h
  split at h
  · exact h
  · cases h
theorem sbX6_X7 : sb shTr shWa := fun a x h => by
  unfold shTr at h
  split at h
  · exact h
  · cases h
theorem sbX6_X3 {m : Nat} : sb shTr (shMe m) := fun a x h => by
  unfold shTr at h
  split at h
  · exact h
  · cases h
theorem sbX7_X3 {m : Nat} : sb shWa (shMe m) := fun a x h => by
  unfold shWa at h
  split at h
  · exact h
  · exact h
  · cases h
def wX1_size  (S : St) (K : Int → St → Prop) : Prop := (iv 0 30 (S.1 42 3) → K (S.1 42 3) S)
set_option maxRecDepth 100000 in
set_option maxHeartbeats 4000000 in
theorem lX1_size {G : xG} {v : Nat → Nat} {sh : Nat → Option Sh} {B : Nat × Nat} {c0 : List va_E}  {S : St} {cs : List va_E} {K : Int → St → Prop} (d : Nat) (hd : 0 ≤ d) (hT : sb shC sh) (hS : ∀ b x, sh b = some x → ¬ isS b) (hW : Wv G v sh B c0 S cs)  (hw : wX1_size  S K) : X G yX1_size cX1_size 1 (some .int) d [.ref (G.1 + v 42)] cs (vI G v sh B c0 K) := by
  refine X.of false (by decide +kernel) (by decide) (Nat.le_of_ble_eq_true rfl) ?_
  show Z (RX1, cX1_size, 1, some .int, false) G d _ 0 [(0, .ref (G.1 + v 42))] [] cs
  have hP : ∀ (x : Int) (S : St) (cs : List va_E), K x S → Wv G v sh B c0 S cs → vI G v sh B c0 K (some (.int (Int32.ofInt x))) cs := fun x S cs a b => ⟨x, S, rfl, a, b⟩
  unfold wX1_size at hw
  refine z_aload_n dX1_size_0 rfl rfl ?_
  have q1 : iv 0 30 (S.1 42 3) := hW.iI 42 3
  have hw := hw q1
  refine v_getI hW (hT 42 _ rfl) rfl kX1 fX1_21 dX1_size_1 ?_
  exact z_ireturn dX1_size_4 rfl rfl (hP _ _ _ hw hW)

def wX1_has  (a1 : Int) (S : St) (K : Int → St → Prop) : Prop := rng a1 → ((a1 < 0 → K (0) S) ∧ ((¬ (a1 < 0)) → (iv 0 30 (S.1 42 3) → ((S.1 42 3 ≤ a1 → K (0) S) ∧ ((¬ (S.1 42 3 ≤ a1)) → K (1) S)))))
set_option maxRecDepth 100000 in
set_option maxHeartbeats 4000000 in
theorem lX1_has {G : xG} {v : Nat → Nat} {sh : Nat → Option Sh} {B : Nat × Nat} {c0 : List va_E}  {a1 : Int} {S : St} {cs : List va_E} {K : Int → St → Prop} (d : Nat) (hd : 0 ≤ d) (hT : sb shC sh) (hS : ∀ b x, sh b = some x → ¬ isS b) (hW : Wv G v sh B c0 S cs) (g1 : rng a1) (hw : wX1_has a1 S K) : X G yX1_has cX1_has 2 (some .boolean) d [.ref (G.1 + v 42), .int (Int32.ofInt a1)] cs (vI G v sh B c0 K) := by
  refine X.of false (by decide +kernel) (by decide) (Nat.le_of_ble_eq_true rfl) ?_
  show Z (RX1, cX1_has, 2, some .boolean, false) G d _ 0 [(0, .ref (G.1 + v 42)), (1, .int (Int32.ofInt a1))] [] cs
  have hP : ∀ (x : Int) (S : St) (cs : List va_E), K x S → Wv G v sh B c0 S cs → vI G v sh B c0 K (some (.int (Int32.ofInt x))) cs := fun x S cs a b => ⟨x, S, rfl, a, b⟩
  unfold wX1_has at hw
  have hw := hw g1
  refine z_iload_n dX1_has_0 rfl rfl ?_
  refine i_if_lt (tgt := 16) dX1_has_1 (by decide) g1 (fun h1 => ?_) (fun h1 => ?_)
  · have hw := hw.1 h1
    refine z_iconst (v := Int32.ofInt 0) dX1_has_16 rfl ?_
    exact z_ireturn dX1_has_17 rfl (nar01 (by decide)) (hP _ _ _ hw hW)
  · have hw := hw.2 h1
    refine z_iload_n dX1_has_4 rfl rfl ?_
    refine z_aload_n dX1_has_5 rfl rfl ?_
    have q2 : iv 0 30 (S.1 42 3) := hW.iI 42 3
    have hw := hw q2
    refine v_getI hW (hT 42 _ rfl) rfl kX1 fX1_21 dX1_has_6 ?_
    refine i_icmp_ge (tgt := 16) dX1_has_9 (by decide) g1 (rngq q2 (by decide) (by decide)) (fun h3 => ?_) (fun h3 => ?_)
    · have hw := hw.1 h3
      refine z_iconst (v := Int32.ofInt 0) dX1_has_16 rfl ?_
      exact z_ireturn dX1_has_17 rfl (nar01 (by decide)) (hP _ _ _ hw hW)
    · have hw := hw.2 h3
      refine z_iconst (v := Int32.ofInt 1) dX1_has_12 rfl ?_
      refine z_goto (tgt := 17) dX1_has_13 (by decide) ?_
      exact z_ireturn dX1_has_17 rfl (nar01 (by decide)) (hP _ _ _ hw hW)

def wX1_clear  (S : St) (K : Int → St → Prop) : Prop := (∀ S1, S1 = pI S 42 3 (0) → K 0 S1)
set_option maxRecDepth 100000 in
set_option maxHeartbeats 4000000 in
theorem lX1_clear {G : xG} {v : Nat → Nat} {sh : Nat → Option Sh} {B : Nat × Nat} {c0 : List va_E}  {S : St} {cs : List va_E} {K : Int → St → Prop} (d : Nat) (hd : 0 ≤ d) (hT : sb shC sh) (hS : ∀ b x, sh b = some x → ¬ isS b) (hW : Wv G v sh B c0 S cs)  (hw : wX1_clear  S K) : X G yX1_clear cX1_clear 1 none d [.ref (G.1 + v 42)] cs (vV G v sh B c0 K) := by
  refine X.of false (by decide +kernel) (by decide) (Nat.le_of_ble_eq_true rfl) ?_
  show Z (RX1, cX1_clear, 1, none, false) G d _ 0 [(0, .ref (G.1 + v 42))] [] cs
  have hP : ∀ (x : Int) (S : St) (cs : List va_E), K x S → Wv G v sh B c0 S cs → vV G v sh B c0 K (none) cs := fun x S cs a b => ⟨x, S, rfl, a, b⟩
  unfold wX1_clear at hw
  refine z_aload_n dX1_clear_0 rfl rfl ?_
  refine z_iconst (v := Int32.ofInt 0) dX1_clear_1 rfl ?_
  refine v_putI hW (hT 42 _ rfl) (by decide) (by unfold isS; decide) rfl kX1 fX1_21 dX1_clear_2 rfl rfl rfl ⟨by decide, by decide⟩ (fun cs hW => ?_)
  obtain ⟨S1, hS1⟩ : ∃ x, x = pI S 42 3 (0) := ⟨_, rfl⟩
  rw [← hS1] at hW
  have hw := hw S1 hS1
  exact z_return dX1_clear_5 rfl (hP 0 _ _ hw hW)

def wX1_born_54  (l2 l3 s0 s1 : Int) (S : St) (K : Int → St → Prop) (B23 : Int → Int → St → Prop) : Prop := ((0 : Int) ≤ s1 ∧ s1 < (120 : Int) ∧ (iv (-2147483648) 2147483647 (s0) ∧ (∀ S2, S2 = pA S 44 (s1) (s0) → B23 (l2) ((l3 + 1)) S2)))
set_option maxRecDepth 100000 in
set_option maxHeartbeats 4000000 in
theorem ubX1_born_54 {G : xG} {v : Nat → Nat} {sh : Nat → Option Sh} {B : Nat × Nat} {c0 : List va_E} {d : Nat} {Post : xP} {l2 l3 s0 s1 : Int} {S : St} {cs : List va_E} {K : Int → St → Prop} {B23 : Int → Int → St → Prop} (hd : 0 ≤ d) (hT : sb shC sh) (hS : ∀ b x, sh b = some x → ¬ isS b) (hW : Wv G v sh B c0 S cs) (hP : ∀ (x : Int) (S : St) (cs : List va_E), K x S → Wv G v sh B c0 S cs → Post (some (.int (Int32.ofInt x))) cs) (hB23 : ∀ (l2 : Int) (l3 : Int) (S : St) (cs : List va_E), B23 l2 l3 S → Wv G v sh B c0 S cs → Z (RX1, cX1_born, 4, some .int, false) G d Post 23 [(0, .ref (G.1 + v 42)), (2, .int (Int32.ofInt (l2))), (3, .int (Int32.ofInt (l3)))] [] cs) (hw : wX1_born_54 l2 l3 s0 s1 S K B23) : Z (RX1, cX1_born, 4, some .int, false) G d Post 54 [(0, .ref (G.1 + v 42)), (2, .int (Int32.ofInt (l2))), (3, .int (Int32.ofInt (l3)))] [.int (Int32.ofInt (s0)), .int (Int32.ofInt (s1)), .ref (G.1 + v 44)] cs := by
  unfold wX1_born_54 at hw
  obtain ⟨q1a, q1b, hw⟩ := hw
  obtain ⟨q3, hw⟩ := hw
  refine v_iast hW (hT 44 _ rfl) (by decide) (by unfold isS; decide) q1a q1b (by decide) q3 dX1_born_54 (fun cs hW => ?_)
  obtain ⟨S2, hS2⟩ : ∃ x, x = pA S 44 (s1) (s0) := ⟨_, rfl⟩
  rw [← hS2] at hW
  have hw := hw S2 hS2
  refine i_iinc (l := l3) dX1_born_55 rfl (by decide) ?_
  refine z_loc (L' := [(0, .ref (G.1 + v 42)), (2, .int (Int32.ofInt (l2))), (3, .int (Int32.ofInt ((l3 + 1))))]) (List.forall_mem_cons.mpr ⟨rfl, (List.forall_mem_cons.mpr ⟨rfl, (List.forall_mem_cons.mpr ⟨rfl, (fun _ h => nomatch h)⟩)⟩)⟩) ?_
  refine z_goto (tgt := 23) dX1_born_58 (by decide) ?_
  refine z_loc (L' := [(0, .ref (G.1 + v 42)), (2, .int (Int32.ofInt (l2))), (3, .int (Int32.ofInt ((l3 + 1))))]) (List.forall_mem_cons.mpr ⟨rfl, (List.forall_mem_cons.mpr ⟨rfl, (List.forall_mem_cons.mpr ⟨rfl, (fun _ h => nomatch h)⟩)⟩)⟩) ?_
  exact hB23 _ _ _ _ hw hW
def wX1_born_23'  (l2 l3 : Int) (S : St) (K : Int → St → Prop) (B23 : Int → Int → St → Prop) : Prop := (rng (l3) ∧ ((4 ≤ l3 → (iv 0 30 (S.1 42 3) → (iv 0 30 ((S.1 42 3 + 1)) ∧ (∀ S4, S4 = pI S 42 3 ((S.1 42 3 + 1)) → (iv 0 30 (S4.1 42 3) → K ((S4.1 42 3 - 1)) S4))))) ∧ ((¬ (4 ≤ l3)) → (iv 0 30 (S.1 42 3) → (((bnd ((bsr (l2) (l3))) (1)) = 0 → wX1_born_54 (l2) (l3) (0) (((S.1 42 3 * 4) + l3)) S K B23) ∧ ((¬ ((bnd ((bsr (l2) (l3))) (1)) = 0)) → wX1_born_54 (l2) (l3) ((-2)) (((S.1 42 3 * 4) + l3)) S K B23))))))
set_option maxRecDepth 100000 in
set_option maxHeartbeats 4000000 in
theorem ubX1_born_23' {G : xG} {v : Nat → Nat} {sh : Nat → Option Sh} {B : Nat × Nat} {c0 : List va_E} {d : Nat} {Post : xP} {l2 l3 : Int} {S : St} {cs : List va_E} {K : Int → St → Prop} {B23 : Int → Int → St → Prop} (hd : 0 ≤ d) (hT : sb shC sh) (hS : ∀ b x, sh b = some x → ¬ isS b) (hW : Wv G v sh B c0 S cs) (hP : ∀ (x : Int) (S : St) (cs : List va_E), K x S → Wv G v sh B c0 S cs → Post (some (.int (Int32.ofInt x))) cs) (hB23 : ∀ (l2 : Int) (l3 : Int) (S : St) (cs : List va_E), B23 l2 l3 S → Wv G v sh B c0 S cs → Z (RX1, cX1_born, 4, some .int, false) G d Post 23 [(0, .ref (G.1 + v 42)), (2, .int (Int32.ofInt (l2))), (3, .int (Int32.ofInt (l3)))] [] cs) (hw : wX1_born_23' l2 l3 S K B23) : Z (RX1, cX1_born, 4, some .int, false) G d Post 23 [(0, .ref (G.1 + v 42)), (2, .int (Int32.ofInt (l2))), (3, .int (Int32.ofInt (l3)))] [] cs := by
  unfold wX1_born_23' at hw
  refine z_iload_n dX1_born_23 rfl rfl ?_
  refine z_iconst (v := Int32.ofInt 4) dX1_born_24 rfl ?_
  obtain ⟨q2, hw⟩ := hw
  refine i_icmp_ge (tgt := 61) dX1_born_25 (by decide) q2 ⟨by decide, by decide⟩ (fun h1 => ?_) (fun h1 => ?_)
  · have hw := hw.1 h1
    refine z_aload_n dX1_born_61 rfl rfl ?_
    refine z_dup dX1_born_62 rfl ?_
    have q3 : iv 0 30 (S.1 42 3) := hW.iI 42 3
    have hw := hw q3
    refine v_getI hW (hT 42 _ rfl) rfl kX1 fX1_21 dX1_born_63 ?_
    refine z_iconst (v := Int32.ofInt 1) dX1_born_66 rfl ?_
    refine i_iadd dX1_born_67 ?_
    obtain ⟨q5, hw⟩ := hw
    refine v_putI hW (hT 42 _ rfl) (by decide) (by unfold isS; decide) rfl kX1 fX1_21 dX1_born_68 rfl rfl rfl q5 (fun cs hW => ?_)
    obtain ⟨S4, hS4⟩ : ∃ x, x = pI S 42 3 ((S.1 42 3 + 1)) := ⟨_, rfl⟩
    rw [← hS4] at hW
    have hw := hw S4 hS4
    refine z_aload_n dX1_born_71 rfl rfl ?_
    have q6 : iv 0 30 (S4.1 42 3) := hW.iI 42 3
    have hw := hw q6
    refine v_getI hW (hT 42 _ rfl) rfl kX1 fX1_21 dX1_born_72 ?_
    refine z_iconst (v := Int32.ofInt 1) dX1_born_75 rfl ?_
    refine i_isub dX1_born_76 ?_
    exact z_ireturn dX1_born_77 rfl rfl (hP _ _ _ hw hW)
  · have hw := hw.2 h1
    refine z_aload_n dX1_born_28 rfl rfl ?_
    refine v_getR hW (hT 42 _ rfl) rfl kX1 fX1_15 dX1_born_29 ?_
    refine z_aload_n dX1_born_32 rfl rfl ?_
    have q7 : iv 0 30 (S.1 42 3) := hW.iI 42 3
    have hw := hw q7
    refine v_getI hW (hT 42 _ rfl) rfl kX1 fX1_21 dX1_born_33 ?_
    refine z_iconst (v := Int32.ofInt 4) dX1_born_36 rfl ?_
    refine i_imul dX1_born_37 ?_
    refine z_iload_n dX1_born_38 rfl rfl ?_
    refine i_iadd dX1_born_39 ?_
    refine z_iload_n dX1_born_40 rfl rfl ?_
    refine z_iload_n dX1_born_41 rfl rfl ?_
    refine v_ishr dX1_born_42 ?_
    refine z_iconst (v := Int32.ofInt 1) dX1_born_43 rfl ?_
    refine v_iand dX1_born_44 ?_
    refine i_if_eq (tgt := 53) dX1_born_45 (by decide) (rng_of _) (fun h8 => ?_) (fun h8 => ?_)
    · have hw := hw.1 h8
      refine z_iconst (v := Int32.ofInt 0) dX1_born_53 rfl ?_
      refine z_loc (L' := [(0, .ref (G.1 + v 42)), (2, .int (Int32.ofInt (l2))), (3, .int (Int32.ofInt (l3)))]) (List.forall_mem_cons.mpr ⟨rfl, (List.forall_mem_cons.mpr ⟨rfl, (List.forall_mem_cons.mpr ⟨rfl, (fun _ h => nomatch h)⟩)⟩)⟩) ?_
      exact ubX1_born_54 hd hT hS hW hP hB23 hw
    · have hw := hw.2 h8
      refine z_bipush (v := Int32.ofInt (-2)) dX1_born_48 (by decide) ?_
      refine z_goto (tgt := 54) dX1_born_50 (by decide) ?_
      refine z_loc (L' := [(0, .ref (G.1 + v 42)), (2, .int (Int32.ofInt (l2))), (3, .int (Int32.ofInt (l3)))]) (List.forall_mem_cons.mpr ⟨rfl, (List.forall_mem_cons.mpr ⟨rfl, (List.forall_mem_cons.mpr ⟨rfl, (fun _ h => nomatch h)⟩)⟩)⟩) ?_
      exact ubX1_born_54 hd hT hS hW hP hB23 hw
def wX1_born_23  (l2 l3 : Int) (S : St) (K : Int → St → Prop) : Prop := ∃ (Iv : Int → Int → St → Prop) (mu : Int → Int → St → Nat), Iv l2 l3 S ∧ ∀ (l2 l3 : Int) (S : St), Iv l2 l3 S → wX1_born_23' l2 l3 S K  (fun ml2 ml3 T => Iv ml2 ml3 T ∧ mu ml2 ml3 T < mu l2 l3 S)
set_option maxRecDepth 100000 in
set_option maxHeartbeats 4000000 in
theorem ubX1_born_23 {G : xG} {v : Nat → Nat} {sh : Nat → Option Sh} {B : Nat × Nat} {c0 : List va_E} {d : Nat} {Post : xP} {l2 l3 : Int} {S : St} {cs : List va_E} {K : Int → St → Prop} (hd : 0 ≤ d) (hT : sb shC sh) (hS : ∀ b x, sh b = some x → ¬ isS b) (hW : Wv G v sh B c0 S cs) (hP : ∀ (x : Int) (S : St) (cs : List va_E), K x S → Wv G v sh B c0 S cs → Post (some (.int (Int32.ofInt x))) cs)  (hw : wX1_born_23 l2 l3 S K ) : Z (RX1, cX1_born, 4, some .int, false) G d Post 23 [(0, .ref (G.1 + v 42)), (2, .int (Int32.ofInt (l2))), (3, .int (Int32.ofInt (l3)))] [] cs := by
  unfold wX1_born_23 at hw
  obtain ⟨Iv, mu, h0, hs⟩ := hw
  have key : ∀ (n : Nat) (l2 l3 : Int) (S : St) (cs : List va_E), mu l2 l3 S < n → Iv l2 l3 S → Wv G v sh B c0 S cs → Z (RX1, cX1_born, 4, some .int, false) G d Post 23 [(0, .ref (G.1 + v 42)), (2, .int (Int32.ofInt (l2))), (3, .int (Int32.ofInt (l3)))] [] cs := by
    intro n
    induction n with
    | zero => intro l2 l3 S cs hn; exact absurd hn (Nat.not_lt_zero _)
    | succ n ih =>
      intro l2 l3 S cs hn hI hW
      exact ubX1_born_23' hd hT hS hW hP  (fun l2 l3 S cs hb hW => ih l2 l3 S cs (Nat.lt_of_lt_of_le hb.2 (Nat.le_of_lt_succ hn)) hb.1 hW) (hs l2 l3 S hI)
  exact key _ _ _ _ _ (Nat.lt_succ_self _) h0 hW
def wX1_born  (a1 a2 : Int) (S : St) (K : Int → St → Prop) : Prop := rng a1 → rng a2 → (iv 0 30 (S.1 42 3) → ((S.1 42 3 < 30 → ((0 : Int) ≤ S.1 42 3 ∧ S.1 42 3 < (30 : Int) ∧ (iv (-2147483648) 2147483647 (a1) ∧ (∀ S4, S4 = pA S 43 (S.1 42 3) (a1) → wX1_born_23 (a2) (0) S4 K)))) ∧ ((¬ (S.1 42 3 < 30)) → K ((-1)) S)))
set_option maxRecDepth 100000 in
set_option maxHeartbeats 4000000 in
theorem lX1_born {G : xG} {v : Nat → Nat} {sh : Nat → Option Sh} {B : Nat × Nat} {c0 : List va_E}  {a1 a2 : Int} {S : St} {cs : List va_E} {K : Int → St → Prop} (d : Nat) (hd : 0 ≤ d) (hT : sb shC sh) (hS : ∀ b x, sh b = some x → ¬ isS b) (hW : Wv G v sh B c0 S cs) (g1 : rng a1) (g2 : rng a2) (hw : wX1_born a1 a2 S K) : X G yX1_born cX1_born 4 (some .int) d [.ref (G.1 + v 42), .int (Int32.ofInt a1), .int (Int32.ofInt a2)] cs (vI G v sh B c0 K) := by
  refine X.of false (by decide +kernel) (by decide) (Nat.le_of_ble_eq_true rfl) ?_
  show Z (RX1, cX1_born, 4, some .int, false) G d _ 0 [(0, .ref (G.1 + v 42)), (1, .int (Int32.ofInt a1)), (2, .int (Int32.ofInt a2))] [] cs
  have hP : ∀ (x : Int) (S : St) (cs : List va_E), K x S → Wv G v sh B c0 S cs → vI G v sh B c0 K (some (.int (Int32.ofInt x))) cs := fun x S cs a b => ⟨x, S, rfl, a, b⟩
  unfold wX1_born at hw
  have hw := hw g1 g2
  refine z_aload_n dX1_born_0 rfl rfl ?_
  have q1 : iv 0 30 (S.1 42 3) := hW.iI 42 3
  have hw := hw q1
  refine v_getI hW (hT 42 _ rfl) rfl kX1 fX1_21 dX1_born_1 ?_
  refine z_bipush (v := Int32.ofInt 30) dX1_born_4 (by decide) ?_
  refine i_icmp_lt (tgt := 11) dX1_born_6 (by decide) (rngq q1 (by decide) (by decide)) ⟨by decide, by decide⟩ (fun h2 => ?_) (fun h2 => ?_)
  · have hw := hw.1 h2
    refine z_aload_n dX1_born_11 rfl rfl ?_
    refine v_getR hW (hT 42 _ rfl) rfl kX1 fX1_9 dX1_born_12 ?_
    refine z_aload_n dX1_born_15 rfl rfl ?_
    refine v_getI hW (hT 42 _ rfl) rfl kX1 fX1_21 dX1_born_16 ?_
    refine z_iload_n dX1_born_19 rfl rfl ?_
    obtain ⟨q3a, q3b, hw⟩ := hw
    obtain ⟨q5, hw⟩ := hw
    refine v_iast hW (hT 43 _ rfl) (by decide) (by unfold isS; decide) q3a q3b (by decide) q5 dX1_born_20 (fun cs hW => ?_)
    obtain ⟨S4, hS4⟩ : ∃ x, x = pA S 43 (S.1 42 3) (a1) := ⟨_, rfl⟩
    rw [← hS4] at hW
    have hw := hw S4 hS4
    refine z_iconst (v := Int32.ofInt 0) dX1_born_21 rfl ?_
    refine z_istore_n dX1_born_22 rfl (by decide) ?_
    refine z_loc (L' := [(0, .ref (G.1 + v 42)), (1, .int (Int32.ofInt (a1))), (2, .int (Int32.ofInt (a2))), (3, .int (Int32.ofInt (0)))]) (List.forall_mem_cons.mpr ⟨rfl, (List.forall_mem_cons.mpr ⟨rfl, (List.forall_mem_cons.mpr ⟨rfl, (List.forall_mem_cons.mpr ⟨rfl, (fun _ h => nomatch h)⟩)⟩)⟩)⟩) ?_
    refine z_loc (L' := [(0, .ref (G.1 + v 42)), (2, .int (Int32.ofInt (a2))), (3, .int (Int32.ofInt (0)))]) (List.forall_mem_cons.mpr ⟨rfl, (List.forall_mem_cons.mpr ⟨rfl, (List.forall_mem_cons.mpr ⟨rfl, (fun _ h => nomatch h)⟩)⟩)⟩) ?_
    exact ubX1_born_23 hd hT hS hW hP  hw
  · have hw := hw.2 h2
    refine z_iconst (v := Int32.ofInt (-1)) dX1_born_9 rfl ?_
    exact z_ireturn dX1_born_10 rfl rfl (hP _ _ _ hw hW)

def wX1_classOf  (a1 : Int) (S : St) (K : Int → St → Prop) : Prop := rng a1 → (wX1_has (a1) S (fun r2 S1 => (rng (r2) ∧ ((r2 = 0 → K ((-1)) S1) ∧ ((¬ (r2 = 0)) → ((0 : Int) ≤ a1 ∧ a1 < (30 : Int) ∧ (iv (-2147483648) 2147483647 (S1.2 43 (a1)) → K (S1.2 43 (a1)) S1)))))))
set_option maxRecDepth 100000 in
set_option maxHeartbeats 4000000 in
theorem lX1_classOf {G : xG} {v : Nat → Nat} {sh : Nat → Option Sh} {B : Nat × Nat} {c0 : List va_E}  {a1 : Int} {S : St} {cs : List va_E} {K : Int → St → Prop} (d : Nat) (hd : 1 ≤ d) (hT : sb shC sh) (hS : ∀ b x, sh b = some x → ¬ isS b) (hW : Wv G v sh B c0 S cs) (g1 : rng a1) (hw : wX1_classOf a1 S K) : X G yX1_classOf cX1_classOf 2 (some .int) d [.ref (G.1 + v 42), .int (Int32.ofInt a1)] cs (vI G v sh B c0 K) := by
  refine X.of false (by decide +kernel) (by decide) (Nat.le_of_ble_eq_true rfl) ?_
  show Z (RX1, cX1_classOf, 2, some .int, false) G d _ 0 [(0, .ref (G.1 + v 42)), (1, .int (Int32.ofInt a1))] [] cs
  have hP : ∀ (x : Int) (S : St) (cs : List va_E), K x S → Wv G v sh B c0 S cs → vI G v sh B c0 K (some (.int (Int32.ofInt x))) cs := fun x S cs a b => ⟨x, S, rfl, a, b⟩
  unfold wX1_classOf at hw
  have hw := hw g1
  refine z_aload_n dX1_classOf_0 rfl rfl ?_
  refine z_iload_n dX1_classOf_1 rfl rfl ?_
  have hX := lX1_has 0 (Nat.le_refl _) hT hS hW g1 hw
  refine z_callV (As := [_]) eX1_has sX1_has lX1_25 rfl dX1_classOf_2 (hW.at (hT 42 _ rfl)) hX (Nat.le_trans (by decide) hd) rfl (Nat.le_of_ble_eq_true rfl) (fun r cs hp => ?_)
  obtain ⟨r2, S1, rfl, hw, hW⟩ := hp
  refine z_st (st' := [.int (Int32.ofInt (r2))]) rfl ?_
  obtain ⟨q4, hw⟩ := hw
  refine i_if_eq (tgt := 17) dX1_classOf_5 (by decide) q4 (fun h3 => ?_) (fun h3 => ?_)
  · have hw := hw.1 h3
    refine z_iconst (v := Int32.ofInt (-1)) dX1_classOf_17 rfl ?_
    exact z_ireturn dX1_classOf_18 rfl rfl (hP _ _ _ hw hW)
  · have hw := hw.2 h3
    refine z_aload_n dX1_classOf_8 rfl rfl ?_
    refine v_getR hW (hT 42 _ rfl) rfl kX1 fX1_9 dX1_classOf_9 ?_
    refine z_iload_n dX1_classOf_12 rfl rfl ?_
    obtain ⟨q5a, q5b, hw⟩ := hw
    have q6 : iv (-2147483648) 2147483647 (S1.2 43 (a1)) := hW.iA 43 _
    have hw := hw q6
    refine v_iald hW (hT 43 _ rfl) q5a q5b (by decide) dX1_classOf_13 ?_
    refine z_goto (tgt := 18) dX1_classOf_14 (by decide) ?_
    exact z_ireturn dX1_classOf_18 rfl rfl (hP _ _ _ hw hW)

def wX1_hasField  (a1 a2 : Int) (S : St) (K : Int → St → Prop) : Prop := rng a1 → rng a2 → ((a1 < 0 → K (0) S) ∧ ((¬ (a1 < 0)) → (iv 0 30 (S.1 42 3) → ((S.1 42 3 ≤ a1 → K (0) S) ∧ ((¬ (S.1 42 3 ≤ a1)) → ((a2 < 0 → K (0) S) ∧ ((¬ (a2 < 0)) → ((4 ≤ a2 → K (0) S) ∧ ((¬ (4 ≤ a2)) → K (1) S)))))))))
set_option maxRecDepth 100000 in
set_option maxHeartbeats 4000000 in
theorem lX1_hasField {G : xG} {v : Nat → Nat} {sh : Nat → Option Sh} {B : Nat × Nat} {c0 : List va_E}  {a1 a2 : Int} {S : St} {cs : List va_E} {K : Int → St → Prop} (d : Nat) (hd : 0 ≤ d) (hT : sb shC sh) (hS : ∀ b x, sh b = some x → ¬ isS b) (hW : Wv G v sh B c0 S cs) (g1 : rng a1) (g2 : rng a2) (hw : wX1_hasField a1 a2 S K) : X G yX1_hasField cX1_hasField 3 (some .boolean) d [.ref (G.1 + v 42), .int (Int32.ofInt a1), .int (Int32.ofInt a2)] cs (vI G v sh B c0 K) := by
  refine X.of false (by decide +kernel) (by decide) (Nat.le_of_ble_eq_true rfl) ?_
  show Z (RX1, cX1_hasField, 3, some .boolean, false) G d _ 0 [(0, .ref (G.1 + v 42)), (1, .int (Int32.ofInt a1)), (2, .int (Int32.ofInt a2))] [] cs
  have hP : ∀ (x : Int) (S : St) (cs : List va_E), K x S → Wv G v sh B c0 S cs → vI G v sh B c0 K (some (.int (Int32.ofInt x))) cs := fun x S cs a b => ⟨x, S, rfl, a, b⟩
  unfold wX1_hasField at hw
  have hw := hw g1 g2
  refine z_iload_n dX1_hasField_0 rfl rfl ?_
  refine i_if_lt (tgt := 25) dX1_hasField_1 (by decide) g1 (fun h1 => ?_) (fun h1 => ?_)
  · have hw := hw.1 h1
    refine z_iconst (v := Int32.ofInt 0) dX1_hasField_25 rfl ?_
    exact z_ireturn dX1_hasField_26 rfl (nar01 (by decide)) (hP _ _ _ hw hW)
  · have hw := hw.2 h1
    refine z_iload_n dX1_hasField_4 rfl rfl ?_
    refine z_aload_n dX1_hasField_5 rfl rfl ?_
    have q2 : iv 0 30 (S.1 42 3) := hW.iI 42 3
    have hw := hw q2
    refine v_getI hW (hT 42 _ rfl) rfl kX1 fX1_21 dX1_hasField_6 ?_
    refine i_icmp_ge (tgt := 25) dX1_hasField_9 (by decide) g1 (rngq q2 (by decide) (by decide)) (fun h3 => ?_) (fun h3 => ?_)
    · have hw := hw.1 h3
      refine z_iconst (v := Int32.ofInt 0) dX1_hasField_25 rfl ?_
      exact z_ireturn dX1_hasField_26 rfl (nar01 (by decide)) (hP _ _ _ hw hW)
    · have hw := hw.2 h3
      refine z_iload_n dX1_hasField_12 rfl rfl ?_
      refine i_if_lt (tgt := 25) dX1_hasField_13 (by decide) g2 (fun h4 => ?_) (fun h4 => ?_)
      · have hw := hw.1 h4
        refine z_iconst (v := Int32.ofInt 0) dX1_hasField_25 rfl ?_
        exact z_ireturn dX1_hasField_26 rfl (nar01 (by decide)) (hP _ _ _ hw hW)
      · have hw := hw.2 h4
        refine z_iload_n dX1_hasField_16 rfl rfl ?_
        refine z_iconst (v := Int32.ofInt 4) dX1_hasField_17 rfl ?_
        refine i_icmp_ge (tgt := 25) dX1_hasField_18 (by decide) g2 ⟨by decide, by decide⟩ (fun h5 => ?_) (fun h5 => ?_)
        · have hw := hw.1 h5
          refine z_iconst (v := Int32.ofInt 0) dX1_hasField_25 rfl ?_
          exact z_ireturn dX1_hasField_26 rfl (nar01 (by decide)) (hP _ _ _ hw hW)
        · have hw := hw.2 h5
          refine z_iconst (v := Int32.ofInt 1) dX1_hasField_21 rfl ?_
          refine z_goto (tgt := 26) dX1_hasField_22 (by decide) ?_
          exact z_ireturn dX1_hasField_26 rfl (nar01 (by decide)) (hP _ _ _ hw hW)

def wX1_head  (a1 a2 : Int) (S : St) (K : Int → St → Prop) : Prop := rng a1 → rng a2 → (wX1_hasField (a1) (a2) S (fun r2 S1 => (rng (r2) ∧ ((r2 = 0 → K (0) S1) ∧ ((¬ (r2 = 0)) → ((0 : Int) ≤ ((a1 * 4) + a2) ∧ ((a1 * 4) + a2) < (120 : Int) ∧ (iv (-2147483648) 2147483647 (S1.2 44 (((a1 * 4) + a2))) → K (S1.2 44 (((a1 * 4) + a2))) S1)))))))
set_option maxRecDepth 100000 in
set_option maxHeartbeats 4000000 in
theorem lX1_head {G : xG} {v : Nat → Nat} {sh : Nat → Option Sh} {B : Nat × Nat} {c0 : List va_E}  {a1 a2 : Int} {S : St} {cs : List va_E} {K : Int → St → Prop} (d : Nat) (hd : 1 ≤ d) (hT : sb shC sh) (hS : ∀ b x, sh b = some x → ¬ isS b) (hW : Wv G v sh B c0 S cs) (g1 : rng a1) (g2 : rng a2) (hw : wX1_head a1 a2 S K) : X G yX1_head cX1_head 3 (some .int) d [.ref (G.1 + v 42), .int (Int32.ofInt a1), .int (Int32.ofInt a2)] cs (vI G v sh B c0 K) := by
  refine X.of false (by decide +kernel) (by decide) (Nat.le_of_ble_eq_true rfl) ?_
  show Z (RX1, cX1_head, 3, some .int, false) G d _ 0 [(0, .ref (G.1 + v 42)), (1, .int (Int32.ofInt a1)), (2, .int (Int32.ofInt a2))] [] cs
  have hP : ∀ (x : Int) (S : St) (cs : List va_E), K x S → Wv G v sh B c0 S cs → vI G v sh B c0 K (some (.int (Int32.ofInt x))) cs := fun x S cs a b => ⟨x, S, rfl, a, b⟩
  unfold wX1_head at hw
  have hw := hw g1 g2
  refine z_aload_n dX1_head_0 rfl rfl ?_
  refine z_iload_n dX1_head_1 rfl rfl ?_
  refine z_iload_n dX1_head_2 rfl rfl ?_
  have hX := lX1_hasField 0 (Nat.le_refl _) hT hS hW g1 g2 hw
  refine z_callV (As := [_, _]) eX1_hasField sX1_hasField lX1_29 rfl dX1_head_3 (hW.at (hT 42 _ rfl)) hX (Nat.le_trans (by decide) hd) rfl (Nat.le_of_ble_eq_true rfl) (fun r cs hp => ?_)
  obtain ⟨r2, S1, rfl, hw, hW⟩ := hp
  refine z_st (st' := [.int (Int32.ofInt (r2))]) rfl ?_
  obtain ⟨q4, hw⟩ := hw
  refine i_if_eq (tgt := 22) dX1_head_6 (by decide) q4 (fun h3 => ?_) (fun h3 => ?_)
  · have hw := hw.1 h3
    refine z_iconst (v := Int32.ofInt 0) dX1_head_22 rfl ?_
    exact z_ireturn dX1_head_23 rfl rfl (hP _ _ _ hw hW)
  · have hw := hw.2 h3
    refine z_aload_n dX1_head_9 rfl rfl ?_
    refine v_getR hW (hT 42 _ rfl) rfl kX1 fX1_15 dX1_head_10 ?_
    refine z_iload_n dX1_head_13 rfl rfl ?_
    refine z_iconst (v := Int32.ofInt 4) dX1_head_14 rfl ?_
    refine i_imul dX1_head_15 ?_
    refine z_iload_n dX1_head_16 rfl rfl ?_
    refine i_iadd dX1_head_17 ?_
    obtain ⟨q5a, q5b, hw⟩ := hw
    have q6 : iv (-2147483648) 2147483647 (S1.2 44 (((a1 * 4) + a2))) := hW.iA 44 _
    have hw := hw q6
    refine v_iald hW (hT 44 _ rfl) q5a q5b (by decide) dX1_head_18 ?_
    refine z_goto (tgt := 23) dX1_head_19 (by decide) ?_
    exact z_ireturn dX1_head_23 rfl rfl (hP _ _ _ hw hW)

def wX1_putHead  (a1 a2 a3 : Int) (S : St) (K : Int → St → Prop) : Prop := rng a1 → rng a2 → rng a3 → (wX1_hasField (a1) (a2) S (fun r2 S1 => (rng (r2) ∧ ((r2 = 0 → K 0 S1) ∧ ((¬ (r2 = 0)) → ((0 : Int) ≤ ((a1 * 4) + a2) ∧ ((a1 * 4) + a2) < (120 : Int) ∧ (iv (-2147483648) 2147483647 (a3) ∧ (∀ S6, S6 = pA S1 44 (((a1 * 4) + a2)) (a3) → K 0 S6))))))))
set_option maxRecDepth 100000 in
set_option maxHeartbeats 4000000 in
theorem lX1_putHead {G : xG} {v : Nat → Nat} {sh : Nat → Option Sh} {B : Nat × Nat} {c0 : List va_E}  {a1 a2 a3 : Int} {S : St} {cs : List va_E} {K : Int → St → Prop} (d : Nat) (hd : 1 ≤ d) (hT : sb shC sh) (hS : ∀ b x, sh b = some x → ¬ isS b) (hW : Wv G v sh B c0 S cs) (g1 : rng a1) (g2 : rng a2) (g3 : rng a3) (hw : wX1_putHead a1 a2 a3 S K) : X G yX1_putHead cX1_putHead 4 none d [.ref (G.1 + v 42), .int (Int32.ofInt a1), .int (Int32.ofInt a2), .int (Int32.ofInt a3)] cs (vV G v sh B c0 K) := by
  refine X.of false (by decide +kernel) (by decide) (Nat.le_of_ble_eq_true rfl) ?_
  show Z (RX1, cX1_putHead, 4, none, false) G d _ 0 [(0, .ref (G.1 + v 42)), (1, .int (Int32.ofInt a1)), (2, .int (Int32.ofInt a2)), (3, .int (Int32.ofInt a3))] [] cs
  have hP : ∀ (x : Int) (S : St) (cs : List va_E), K x S → Wv G v sh B c0 S cs → vV G v sh B c0 K (none) cs := fun x S cs a b => ⟨x, S, rfl, a, b⟩
  unfold wX1_putHead at hw
  have hw := hw g1 g2 g3
  refine z_aload_n dX1_putHead_0 rfl rfl ?_
  refine z_iload_n dX1_putHead_1 rfl rfl ?_
  refine z_iload_n dX1_putHead_2 rfl rfl ?_
  have hX := lX1_hasField 0 (Nat.le_refl _) hT hS hW g1 g2 hw
  refine z_callV (As := [_, _]) eX1_hasField sX1_hasField lX1_29 rfl dX1_putHead_3 (hW.at (hT 42 _ rfl)) hX (Nat.le_trans (by decide) hd) rfl (Nat.le_of_ble_eq_true rfl) (fun r cs hp => ?_)
  obtain ⟨r2, S1, rfl, hw, hW⟩ := hp
  refine z_st (st' := [.int (Int32.ofInt (r2))]) rfl ?_
  obtain ⟨q4, hw⟩ := hw
  refine i_if_eq (tgt := 20) dX1_putHead_6 (by decide) q4 (fun h3 => ?_) (fun h3 => ?_)
  · have hw := hw.1 h3
    exact z_return dX1_putHead_20 rfl (hP 0 _ _ hw hW)
  · have hw := hw.2 h3
    refine z_aload_n dX1_putHead_9 rfl rfl ?_
    refine v_getR hW (hT 42 _ rfl) rfl kX1 fX1_15 dX1_putHead_10 ?_
    refine z_iload_n dX1_putHead_13 rfl rfl ?_
    refine z_iconst (v := Int32.ofInt 4) dX1_putHead_14 rfl ?_
    refine i_imul dX1_putHead_15 ?_
    refine z_iload_n dX1_putHead_16 rfl rfl ?_
    refine i_iadd dX1_putHead_17 ?_
    refine z_iload_n dX1_putHead_18 rfl rfl ?_
    obtain ⟨q5a, q5b, hw⟩ := hw
    obtain ⟨q7, hw⟩ := hw
    refine v_iast hW (hT 44 _ rfl) (by decide) (by unfold isS; decide) q5a q5b (by decide) q7 dX1_putHead_19 (fun cs hW => ?_)
    obtain ⟨S6, hS6⟩ : ∃ x, x = pA S1 44 (((a1 * 4) + a2)) (a3) := ⟨_, rfl⟩
    rw [← hS6] at hW
    have hw := hw S6 hS6
    exact z_return dX1_putHead_20 rfl (hP 0 _ _ hw hW)

def wX1_hasCell  (a1 a2 a3 : Int) (S : St) (K : Int → St → Prop) : Prop := rng a1 → rng a2 → rng a3 → ((a1 < 0 → K (0) S) ∧ ((¬ (a1 < 0)) → (iv 0 30 (S.1 42 3) → ((S.1 42 3 ≤ a1 → K (0) S) ∧ ((¬ (S.1 42 3 ≤ a1)) → ((a2 < 0 → K (0) S) ∧ ((¬ (a2 < 0)) → ((4 ≤ a2 → K (0) S) ∧ ((¬ (4 ≤ a2)) → ((a3 < 0 → K (0) S) ∧ ((¬ (a3 < 0)) → ((20 ≤ a3 → K (0) S) ∧ ((¬ (20 ≤ a3)) → ((0 : Int) ≤ ((a1 * 4) + a2) ∧ ((a1 * 4) + a2) < (120 : Int) ∧ (iv (-2147483648) 2147483647 (S.2 44 (((a1 * 4) + a2))) → ((S.2 44 (((a1 * 4) + a2)) ≤ a3 → K (0) S) ∧ ((¬ (S.2 44 (((a1 * 4) + a2)) ≤ a3)) → K (1) S)))))))))))))))))
set_option maxRecDepth 100000 in
set_option maxHeartbeats 4000000 in
theorem lX1_hasCell {G : xG} {v : Nat → Nat} {sh : Nat → Option Sh} {B : Nat × Nat} {c0 : List va_E}  {a1 a2 a3 : Int} {S : St} {cs : List va_E} {K : Int → St → Prop} (d : Nat) (hd : 0 ≤ d) (hT : sb shC sh) (hS : ∀ b x, sh b = some x → ¬ isS b) (hW : Wv G v sh B c0 S cs) (g1 : rng a1) (g2 : rng a2) (g3 : rng a3) (hw : wX1_hasCell a1 a2 a3 S K) : X G yX1_hasCell cX1_hasCell 4 (some .boolean) d [.ref (G.1 + v 42), .int (Int32.ofInt a1), .int (Int32.ofInt a2), .int (Int32.ofInt a3)] cs (vI G v sh B c0 K) := by
  refine X.of false (by decide +kernel) (by decide) (Nat.le_of_ble_eq_true rfl) ?_
  show Z (RX1, cX1_hasCell, 4, some .boolean, false) G d _ 0 [(0, .ref (G.1 + v 42)), (1, .int (Int32.ofInt a1)), (2, .int (Int32.ofInt a2)), (3, .int (Int32.ofInt a3))] [] cs
  have hP : ∀ (x : Int) (S : St) (cs : List va_E), K x S → Wv G v sh B c0 S cs → vI G v sh B c0 K (some (.int (Int32.ofInt x))) cs := fun x S cs a b => ⟨x, S, rfl, a, b⟩
  unfold wX1_hasCell at hw
  have hw := hw g1 g2 g3
  refine z_iload_n dX1_hasCell_0 rfl rfl ?_
  refine i_if_lt (tgt := 49) dX1_hasCell_1 (by decide) g1 (fun h1 => ?_) (fun h1 => ?_)
  · have hw := hw.1 h1
    refine z_iconst (v := Int32.ofInt 0) dX1_hasCell_49 rfl ?_
    exact z_ireturn dX1_hasCell_50 rfl (nar01 (by decide)) (hP _ _ _ hw hW)
  · have hw := hw.2 h1
    refine z_iload_n dX1_hasCell_4 rfl rfl ?_
    refine z_aload_n dX1_hasCell_5 rfl rfl ?_
    have q2 : iv 0 30 (S.1 42 3) := hW.iI 42 3
    have hw := hw q2
    refine v_getI hW (hT 42 _ rfl) rfl kX1 fX1_21 dX1_hasCell_6 ?_
    refine i_icmp_ge (tgt := 49) dX1_hasCell_9 (by decide) g1 (rngq q2 (by decide) (by decide)) (fun h3 => ?_) (fun h3 => ?_)
    · have hw := hw.1 h3
      refine z_iconst (v := Int32.ofInt 0) dX1_hasCell_49 rfl ?_
      exact z_ireturn dX1_hasCell_50 rfl (nar01 (by decide)) (hP _ _ _ hw hW)
    · have hw := hw.2 h3
      refine z_iload_n dX1_hasCell_12 rfl rfl ?_
      refine i_if_lt (tgt := 49) dX1_hasCell_13 (by decide) g2 (fun h4 => ?_) (fun h4 => ?_)
      · have hw := hw.1 h4
        refine z_iconst (v := Int32.ofInt 0) dX1_hasCell_49 rfl ?_
        exact z_ireturn dX1_hasCell_50 rfl (nar01 (by decide)) (hP _ _ _ hw hW)
      · have hw := hw.2 h4
        refine z_iload_n dX1_hasCell_16 rfl rfl ?_
        refine z_iconst (v := Int32.ofInt 4) dX1_hasCell_17 rfl ?_
        refine i_icmp_ge (tgt := 49) dX1_hasCell_18 (by decide) g2 ⟨by decide, by decide⟩ (fun h5 => ?_) (fun h5 => ?_)
        · have hw := hw.1 h5
          refine z_iconst (v := Int32.ofInt 0) dX1_hasCell_49 rfl ?_
          exact z_ireturn dX1_hasCell_50 rfl (nar01 (by decide)) (hP _ _ _ hw hW)
        · have hw := hw.2 h5
          refine z_iload_n dX1_hasCell_21 rfl rfl ?_
          refine i_if_lt (tgt := 49) dX1_hasCell_22 (by decide) g3 (fun h6 => ?_) (fun h6 => ?_)
          · have hw := hw.1 h6
            refine z_iconst (v := Int32.ofInt 0) dX1_hasCell_49 rfl ?_
            exact z_ireturn dX1_hasCell_50 rfl (nar01 (by decide)) (hP _ _ _ hw hW)
          · have hw := hw.2 h6
            refine z_iload_n dX1_hasCell_25 rfl rfl ?_
            refine z_bipush (v := Int32.ofInt 20) dX1_hasCell_26 (by decide) ?_
            refine i_icmp_ge (tgt := 49) dX1_hasCell_28 (by decide) g3 ⟨by decide, by decide⟩ (fun h7 => ?_) (fun h7 => ?_)
            · have hw := hw.1 h7
              refine z_iconst (v := Int32.ofInt 0) dX1_hasCell_49 rfl ?_
              exact z_ireturn dX1_hasCell_50 rfl (nar01 (by decide)) (hP _ _ _ hw hW)
            · have hw := hw.2 h7
              refine z_iload_n dX1_hasCell_31 rfl rfl ?_
              refine z_aload_n dX1_hasCell_32 rfl rfl ?_
              refine v_getR hW (hT 42 _ rfl) rfl kX1 fX1_15 dX1_hasCell_33 ?_
              refine z_iload_n dX1_hasCell_36 rfl rfl ?_
              refine z_iconst (v := Int32.ofInt 4) dX1_hasCell_37 rfl ?_
              refine i_imul dX1_hasCell_38 ?_
              refine z_iload_n dX1_hasCell_39 rfl rfl ?_
              refine i_iadd dX1_hasCell_40 ?_
              obtain ⟨q8a, q8b, hw⟩ := hw
              have q9 : iv (-2147483648) 2147483647 (S.2 44 (((a1 * 4) + a2))) := hW.iA 44 _
              have hw := hw q9
              refine v_iald hW (hT 44 _ rfl) q8a q8b (by decide) dX1_hasCell_41 ?_
              refine i_icmp_ge (tgt := 49) dX1_hasCell_42 (by decide) g3 (rngq q9 (by decide) (by decide)) (fun h10 => ?_) (fun h10 => ?_)
              · have hw := hw.1 h10
                refine z_iconst (v := Int32.ofInt 0) dX1_hasCell_49 rfl ?_
                exact z_ireturn dX1_hasCell_50 rfl (nar01 (by decide)) (hP _ _ _ hw hW)
              · have hw := hw.2 h10
                refine z_iconst (v := Int32.ofInt 1) dX1_hasCell_45 rfl ?_
                refine z_goto (tgt := 50) dX1_hasCell_46 (by decide) ?_
                exact z_ireturn dX1_hasCell_50 rfl (nar01 (by decide)) (hP _ _ _ hw hW)

def wX1_cell  (a1 a2 a3 : Int) (S : St) (K : Int → St → Prop) : Prop := rng a1 → rng a2 → rng a3 → (wX1_hasCell (a1) (a2) (a3) S (fun r2 S1 => (rng (r2) ∧ ((r2 = 0 → K ((-2)) S1) ∧ ((¬ (r2 = 0)) → ((0 : Int) ≤ ((((a1 * 4) + a2) * 20) + a3) ∧ ((((a1 * 4) + a2) * 20) + a3) < (2400 : Int) ∧ (iv (-2147483648) 2147483647 (S1.2 45 (((((a1 * 4) + a2) * 20) + a3))) → K (S1.2 45 (((((a1 * 4) + a2) * 20) + a3))) S1)))))))
set_option maxRecDepth 100000 in
set_option maxHeartbeats 4000000 in
theorem lX1_cell {G : xG} {v : Nat → Nat} {sh : Nat → Option Sh} {B : Nat × Nat} {c0 : List va_E}  {a1 a2 a3 : Int} {S : St} {cs : List va_E} {K : Int → St → Prop} (d : Nat) (hd : 1 ≤ d) (hT : sb shC sh) (hS : ∀ b x, sh b = some x → ¬ isS b) (hW : Wv G v sh B c0 S cs) (g1 : rng a1) (g2 : rng a2) (g3 : rng a3) (hw : wX1_cell a1 a2 a3 S K) : X G yX1_cell cX1_cell 4 (some .int) d [.ref (G.1 + v 42), .int (Int32.ofInt a1), .int (Int32.ofInt a2), .int (Int32.ofInt a3)] cs (vI G v sh B c0 K) := by
  refine X.of false (by decide +kernel) (by decide) (Nat.le_of_ble_eq_true rfl) ?_
  show Z (RX1, cX1_cell, 4, some .int, false) G d _ 0 [(0, .ref (G.1 + v 42)), (1, .int (Int32.ofInt a1)), (2, .int (Int32.ofInt a2)), (3, .int (Int32.ofInt a3))] [] cs
  have hP : ∀ (x : Int) (S : St) (cs : List va_E), K x S → Wv G v sh B c0 S cs → vI G v sh B c0 K (some (.int (Int32.ofInt x))) cs := fun x S cs a b => ⟨x, S, rfl, a, b⟩
  unfold wX1_cell at hw
  have hw := hw g1 g2 g3
  refine z_aload_n dX1_cell_0 rfl rfl ?_
  refine z_iload_n dX1_cell_1 rfl rfl ?_
  refine z_iload_n dX1_cell_2 rfl rfl ?_
  refine z_iload_n dX1_cell_3 rfl rfl ?_
  have hX := lX1_hasCell 0 (Nat.le_refl _) hT hS hW g1 g2 g3 hw
  refine z_callV (As := [_, _, _]) eX1_hasCell sX1_hasCell lX1_33 rfl dX1_cell_4 (hW.at (hT 42 _ rfl)) hX (Nat.le_trans (by decide) hd) rfl (Nat.le_of_ble_eq_true rfl) (fun r cs hp => ?_)
  obtain ⟨r2, S1, rfl, hw, hW⟩ := hp
  refine z_st (st' := [.int (Int32.ofInt (r2))]) rfl ?_
  obtain ⟨q4, hw⟩ := hw
  refine i_if_eq (tgt := 28) dX1_cell_7 (by decide) q4 (fun h3 => ?_) (fun h3 => ?_)
  · have hw := hw.1 h3
    refine z_bipush (v := Int32.ofInt (-2)) dX1_cell_28 (by decide) ?_
    exact z_ireturn dX1_cell_30 rfl rfl (hP _ _ _ hw hW)
  · have hw := hw.2 h3
    refine z_aload_n dX1_cell_10 rfl rfl ?_
    refine v_getR hW (hT 42 _ rfl) rfl kX1 fX1_18 dX1_cell_11 ?_
    refine z_iload_n dX1_cell_14 rfl rfl ?_
    refine z_iconst (v := Int32.ofInt 4) dX1_cell_15 rfl ?_
    refine i_imul dX1_cell_16 ?_
    refine z_iload_n dX1_cell_17 rfl rfl ?_
    refine i_iadd dX1_cell_18 ?_
    refine z_bipush (v := Int32.ofInt 20) dX1_cell_19 (by decide) ?_
    refine i_imul dX1_cell_21 ?_
    refine z_iload_n dX1_cell_22 rfl rfl ?_
    refine i_iadd dX1_cell_23 ?_
    obtain ⟨q5a, q5b, hw⟩ := hw
    have q6 : iv (-2147483648) 2147483647 (S1.2 45 (((((a1 * 4) + a2) * 20) + a3))) := hW.iA 45 _
    have hw := hw q6
    refine v_iald hW (hT 45 _ rfl) q5a q5b (by decide) dX1_cell_24 ?_
    refine z_goto (tgt := 30) dX1_cell_25 (by decide) ?_
    exact z_ireturn dX1_cell_30 rfl rfl (hP _ _ _ hw hW)

def wX1_putCell  (a1 a2 a3 a4 : Int) (S : St) (K : Int → St → Prop) : Prop := rng a1 → rng a2 → rng a3 → rng a4 → (wX1_hasCell (a1) (a2) (a3) S (fun r2 S1 => (rng (r2) ∧ ((r2 = 0 → K 0 S1) ∧ ((¬ (r2 = 0)) → ((0 : Int) ≤ ((((a1 * 4) + a2) * 20) + a3) ∧ ((((a1 * 4) + a2) * 20) + a3) < (2400 : Int) ∧ (iv (-2147483648) 2147483647 (a4) ∧ (∀ S6, S6 = pA S1 45 (((((a1 * 4) + a2) * 20) + a3)) (a4) → K 0 S6))))))))
set_option maxRecDepth 100000 in
set_option maxHeartbeats 4000000 in
theorem lX1_putCell {G : xG} {v : Nat → Nat} {sh : Nat → Option Sh} {B : Nat × Nat} {c0 : List va_E}  {a1 a2 a3 a4 : Int} {S : St} {cs : List va_E} {K : Int → St → Prop} (d : Nat) (hd : 1 ≤ d) (hT : sb shC sh) (hS : ∀ b x, sh b = some x → ¬ isS b) (hW : Wv G v sh B c0 S cs) (g1 : rng a1) (g2 : rng a2) (g3 : rng a3) (g4 : rng a4) (hw : wX1_putCell a1 a2 a3 a4 S K) : X G yX1_putCell cX1_putCell 5 none d [.ref (G.1 + v 42), .int (Int32.ofInt a1), .int (Int32.ofInt a2), .int (Int32.ofInt a3), .int (Int32.ofInt a4)] cs (vV G v sh B c0 K) := by
  refine X.of false (by decide +kernel) (by decide) (Nat.le_of_ble_eq_true rfl) ?_
  show Z (RX1, cX1_putCell, 5, none, false) G d _ 0 [(0, .ref (G.1 + v 42)), (1, .int (Int32.ofInt a1)), (2, .int (Int32.ofInt a2)), (3, .int (Int32.ofInt a3)), (4, .int (Int32.ofInt a4))] [] cs
  have hP : ∀ (x : Int) (S : St) (cs : List va_E), K x S → Wv G v sh B c0 S cs → vV G v sh B c0 K (none) cs := fun x S cs a b => ⟨x, S, rfl, a, b⟩
  unfold wX1_putCell at hw
  have hw := hw g1 g2 g3 g4
  refine z_aload_n dX1_putCell_0 rfl rfl ?_
  refine z_iload_n dX1_putCell_1 rfl rfl ?_
  refine z_iload_n dX1_putCell_2 rfl rfl ?_
  refine z_iload_n dX1_putCell_3 rfl rfl ?_
  have hX := lX1_hasCell 0 (Nat.le_refl _) hT hS hW g1 g2 g3 hw
  refine z_callV (As := [_, _, _]) eX1_hasCell sX1_hasCell lX1_33 rfl dX1_putCell_4 (hW.at (hT 42 _ rfl)) hX (Nat.le_trans (by decide) hd) rfl (Nat.le_of_ble_eq_true rfl) (fun r cs hp => ?_)
  obtain ⟨r2, S1, rfl, hw, hW⟩ := hp
  refine z_st (st' := [.int (Int32.ofInt (r2))]) rfl ?_
  obtain ⟨q4, hw⟩ := hw
  refine i_if_eq (tgt := 27) dX1_putCell_7 (by decide) q4 (fun h3 => ?_) (fun h3 => ?_)
  · have hw := hw.1 h3
    exact z_return dX1_putCell_27 rfl (hP 0 _ _ hw hW)
  · have hw := hw.2 h3
    refine z_aload_n dX1_putCell_10 rfl rfl ?_
    refine v_getR hW (hT 42 _ rfl) rfl kX1 fX1_18 dX1_putCell_11 ?_
    refine z_iload_n dX1_putCell_14 rfl rfl ?_
    refine z_iconst (v := Int32.ofInt 4) dX1_putCell_15 rfl ?_
    refine i_imul dX1_putCell_16 ?_
    refine z_iload_n dX1_putCell_17 rfl rfl ?_
    refine i_iadd dX1_putCell_18 ?_
    refine z_bipush (v := Int32.ofInt 20) dX1_putCell_19 (by decide) ?_
    refine i_imul dX1_putCell_21 ?_
    refine z_iload_n dX1_putCell_22 rfl rfl ?_
    refine i_iadd dX1_putCell_23 ?_
    refine z_iload dX1_putCell_24 rfl ?_
    obtain ⟨q5a, q5b, hw⟩ := hw
    obtain ⟨q7, hw⟩ := hw
    refine v_iast hW (hT 45 _ rfl) (by decide) (by unfold isS; decide) q5a q5b (by decide) q7 dX1_putCell_26 (fun cs hW => ?_)
    obtain ⟨S6, hS6⟩ : ∃ x, x = pA S1 45 (((((a1 * 4) + a2) * 20) + a3)) (a4) := ⟨_, rfl⟩
    rw [← hS6] at hW
    have hw := hw S6 hS6
    exact z_return dX1_putCell_27 rfl (hP 0 _ _ hw hW)

def wX1_append  (a1 a2 a3 : Int) (S : St) (K : Int → St → Prop) : Prop := rng a1 → rng a2 → rng a3 → (wX1_head (a1) (a2) S (fun r2 S1 => (rng (r2) ∧ ((r2 < 8 → (rng ((r2 + 1)) ∧ (wX1_putHead (a1) (a2) ((r2 + 1)) S1 (fun r6 S5 => (wX1_putCell (a1) (a2) (r2) (a3) S5 (fun r9 S8 => K ((r2 + 1)) S8)))))) ∧ ((¬ (r2 < 8)) → K ((-1)) S1)))))
set_option maxRecDepth 100000 in
set_option maxHeartbeats 4000000 in
theorem lX1_append {G : xG} {v : Nat → Nat} {sh : Nat → Option Sh} {B : Nat × Nat} {c0 : List va_E}  {a1 a2 a3 : Int} {S : St} {cs : List va_E} {K : Int → St → Prop} (d : Nat) (hd : 2 ≤ d) (hT : sb shC sh) (hS : ∀ b x, sh b = some x → ¬ isS b) (hW : Wv G v sh B c0 S cs) (g1 : rng a1) (g2 : rng a2) (g3 : rng a3) (hw : wX1_append a1 a2 a3 S K) : X G yX1_append cX1_append 5 (some .int) d [.ref (G.1 + v 42), .int (Int32.ofInt a1), .int (Int32.ofInt a2), .int (Int32.ofInt a3)] cs (vI G v sh B c0 K) := by
  refine X.of false (by decide +kernel) (by decide) (Nat.le_of_ble_eq_true rfl) ?_
  show Z (RX1, cX1_append, 5, some .int, false) G d _ 0 [(0, .ref (G.1 + v 42)), (1, .int (Int32.ofInt a1)), (2, .int (Int32.ofInt a2)), (3, .int (Int32.ofInt a3))] [] cs
  have hP : ∀ (x : Int) (S : St) (cs : List va_E), K x S → Wv G v sh B c0 S cs → vI G v sh B c0 K (some (.int (Int32.ofInt x))) cs := fun x S cs a b => ⟨x, S, rfl, a, b⟩
  unfold wX1_append at hw
  have hw := hw g1 g2 g3
  refine z_aload_n dX1_append_0 rfl rfl ?_
  refine z_iload_n dX1_append_1 rfl rfl ?_
  refine z_iload_n dX1_append_2 rfl rfl ?_
  have hX := lX1_head 1 (Nat.le_refl _) hT hS hW g1 g2 hw
  refine z_callV (As := [_, _]) eX1_head sX1_head lX1_37 rfl dX1_append_3 (hW.at (hT 42 _ rfl)) hX (Nat.le_trans (by decide) hd) rfl (Nat.le_of_ble_eq_true rfl) (fun r cs hp => ?_)
  obtain ⟨r2, S1, rfl, hw, hW⟩ := hp
  refine z_st (st' := [.int (Int32.ofInt (r2))]) rfl ?_
  refine z_istore dX1_append_6 (by decide) ?_
  refine z_loc (L' := [(0, .ref (G.1 + v 42)), (1, .int (Int32.ofInt (a1))), (2, .int (Int32.ofInt (a2))), (3, .int (Int32.ofInt (a3))), (4, .int (Int32.ofInt (r2)))]) (List.forall_mem_cons.mpr ⟨rfl, (List.forall_mem_cons.mpr ⟨rfl, (List.forall_mem_cons.mpr ⟨rfl, (List.forall_mem_cons.mpr ⟨rfl, (List.forall_mem_cons.mpr ⟨rfl, (fun _ h => nomatch h)⟩)⟩)⟩)⟩)⟩) ?_
  refine z_iload dX1_append_8 rfl ?_
  refine z_bipush (v := Int32.ofInt 8) dX1_append_10 (by decide) ?_
  obtain ⟨q4, hw⟩ := hw
  refine i_icmp_lt (tgt := 17) dX1_append_12 (by decide) q4 ⟨by decide, by decide⟩ (fun h3 => ?_) (fun h3 => ?_)
  · have hw := hw.1 h3
    refine z_aload_n dX1_append_17 rfl rfl ?_
    refine z_iload_n dX1_append_18 rfl rfl ?_
    refine z_iload_n dX1_append_19 rfl rfl ?_
    refine z_iload dX1_append_20 rfl ?_
    refine z_iconst (v := Int32.ofInt 1) dX1_append_22 rfl ?_
    refine i_iadd dX1_append_23 ?_
    obtain ⟨q7, hw⟩ := hw
    have hX := lX1_putHead 1 (Nat.le_refl _) hT hS hW g1 g2 q7 hw
    refine z_callV (As := [_, _, _]) eX1_putHead sX1_putHead lX1_41 rfl dX1_append_24 (hW.at (hT 42 _ rfl)) hX (Nat.le_trans (by decide) hd) rfl (Nat.le_of_ble_eq_true rfl) (fun r cs hp => ?_)
    obtain ⟨r6, S5, rfl, hw, hW⟩ := hp
    refine z_st (st' := []) rfl ?_
    refine z_aload_n dX1_append_27 rfl rfl ?_
    refine z_iload_n dX1_append_28 rfl rfl ?_
    refine z_iload_n dX1_append_29 rfl rfl ?_
    refine z_iload dX1_append_30 rfl ?_
    refine z_iload_n dX1_append_32 rfl rfl ?_
    have hX := lX1_putCell 1 (Nat.le_refl _) hT hS hW g1 g2 q4 g3 hw
    refine z_callV (As := [_, _, _, _]) eX1_putCell sX1_putCell lX1_45 rfl dX1_append_33 (hW.at (hT 42 _ rfl)) hX (Nat.le_trans (by decide) hd) rfl (Nat.le_of_ble_eq_true rfl) (fun r cs hp => ?_)
    obtain ⟨r9, S8, rfl, hw, hW⟩ := hp
    refine z_st (st' := []) rfl ?_
    refine z_iload dX1_append_36 rfl ?_
    refine z_iconst (v := Int32.ofInt 1) dX1_append_38 rfl ?_
    refine i_iadd dX1_append_39 ?_
    exact z_ireturn dX1_append_40 rfl rfl (hP _ _ _ hw hW)
  · have hw := hw.2 h3
    refine z_iconst (v := Int32.ofInt (-1)) dX1_append_15 rfl ?_
    exact z_ireturn dX1_append_16 rfl rfl (hP _ _ _ hw hW)

