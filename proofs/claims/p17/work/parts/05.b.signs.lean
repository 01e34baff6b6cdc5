/-! SIGNS: a text t in a row of n places -/
def Sg (G : xG) (cs : List va_E) (a r n : Nat) (t : List Int32) (ov : Bool) : Prop := ∃ (f : Nat → Int32), cs[a]? = some (.inr (5, [.ref (G.1 + r), .int (nI t.length), .int (bI ov)])) ∧ cs[r]? = some (.inl (G.2.2.1 1, n, .inl f)) ∧ t.length ≤ n ∧ n ≤ 3000 ∧ 64 ≤ n ∧ a ≠ r ∧ (∀ j, j < t.length → f j = t.getD j 0) ∧ ∀ x ∈ t, fits .char (.int x) = true
def sgAt (t : List Int32) (i : Int32) : Int32 := if i < 0 then -1 else if nI t.length ≤ i then -1 else t.getD i.toNatClampNeg 0
def sgHas (t : List Int32) (i : Int32) : Bool := if i < 0 then false else if nI t.length ≤ i then false else true
/-- what a change of one Signs leaves: its own row may be a new cell; no other cell changes; what it may still grow falls -/
def pz (n : Nat) : Nat := if n < 3000 then 9000 - 2 * n else 0
def Fr (cs c1 : List va_E) (a r r1 n n1 : Nat) : Prop := (r1 = r ∨ cs.length ≤ r1) ∧ cs.length ≤ c1.length ∧ (∀ k, k < cs.length → k ≠ a → k ≠ r → c1[k]? = cs[k]?) ∧ c1.length + (3000 - n1) ≤ cs.length + (3000 - n) ∧ xZ c1 + pz n1 ≤ xZ cs + pz n
theorem Fr.rf {cs : List va_E} {a r n : Nat} : Fr cs cs a r r n n := ⟨Or.inl rfl, Nat.le_refl _, fun _ _ _ _ => rfl, Nat.le_refl _, Nat.le_refl _⟩
theorem Fr.tr {c0 c1 c2 : List va_E} {a r0 r1 r2 n0 n1 n2 : Nat} (h : Fr c0 c1 a r0 r1 n0 n1) (k : Fr c1 c2 a r1 r2 n1 n2) : Fr c0 c2 a r0 r2 n0 n2 := by
  obtain ⟨h1, h2, h3, h4, h5⟩ := h
  obtain ⟨k1, k2, k3, k4, k5⟩ := k
  refine ⟨?_, by omega, fun q q1 q2 q3 => ?_, by omega, by omega⟩
  · rcases k1 with k1 | k1
    · rw [k1]; exact h1
    · exact Or.inr (by omega)
  · rw [k3 q (by omega) q2 (by rcases h1 with h1 | h1 <;> omega)]
    exact h3 q q1 q2 q3
/-- room for all that a Signs may still grow -/
def Rm (cs : List va_E) (n : Nat) : Prop := cs.length + (3000 - n) ≤ 600000 ∧ xZ cs + pz n ≤ 7302250
theorem Rm.fr {cs c1 : List va_E} {a r r1 n n1 : Nat} (h : Rm cs n) (k : Fr cs c1 a r r1 n n1) : Rm c1 n1 := by
  unfold Rm at h ⊢
  obtain ⟨k1, k2, k3, k4, k5⟩ := k
  omega
def chr (u : Int32) : Int32 := vp_nar .char (u.toUInt32 % 65536).toInt32
theorem chr_eq (u : Int32) : chr u = (u.toUInt32 % 65536).toInt32 := pk_vc u
theorem chr_fit (u : Int32) : fits .char (.int (chr u)) = true := by rw [chr_eq]; exact pk_fc u

set_option maxRecDepth 100000 in
set_option maxHeartbeats 4000000 in
theorem c_X5_length {G : xG} {cs : List va_E} {a r n : Nat} {t : List Int32} {ov : Bool} (d : Nat) (h : Sg G cs a r n t ov) : X G yX5_length cX5_length 1 (some .int) d [.ref (G.1 + a)] cs (fun r cs1 => r = some (.int (nI t.length)) ∧ cs1 = cs) := by
  refine X.of false (by decide +kernel) (by decide) (Nat.le_of_ble_eq_true rfl) ?_
  show Z (RX5, cX5_length, 1, some .int, false) G d _ 0 [(0, .ref (G.1 + a))] [] cs
  obtain ⟨f, hs, hr, hn1, hn2, hn3, hne, hf, hc⟩ := h
  refine z_aload_n dX5_length_0 rfl rfl ?_
  refine z_get kX5 fX5_15 dX5_length_1 (by assumption) (by rfl) ?_
  exact z_ireturn dX5_length_4 rfl (by rfl) ⟨rfl, rfl⟩

set_option maxRecDepth 100000 in
set_option maxHeartbeats 4000000 in
theorem c_X5_hasOverflowed {G : xG} {cs : List va_E} {a r n : Nat} {t : List Int32} {ov : Bool} (d : Nat) (h : Sg G cs a r n t ov) : X G yX5_hasOverflowed cX5_hasOverflowed 1 (some .boolean) d [.ref (G.1 + a)] cs (fun r cs1 => r = some (.int (bI ov)) ∧ cs1 = cs) := by
  refine X.of false (by decide +kernel) (by decide) (Nat.le_of_ble_eq_true rfl) ?_
  show Z (RX5, cX5_hasOverflowed, 1, some .boolean, false) G d _ 0 [(0, .ref (G.1 + a))] [] cs
  obtain ⟨f, hs, hr, hn1, hn2, hn3, hne, hf, hc⟩ := h
  refine z_aload_n dX5_hasOverflowed_0 rfl rfl ?_
  refine z_get kX5 fX5_19 dX5_hasOverflowed_1 (by assumption) (by rfl) ?_
  exact z_ireturn dX5_hasOverflowed_4 rfl (nar_bI ov) ⟨rfl, rfl⟩

set_option maxRecDepth 100000 in
set_option maxHeartbeats 4000000 in
theorem c_X5_has {G : xG} {cs : List va_E} {a r n : Nat} {t : List Int32} {ov : Bool} (d : Nat) (h : Sg G cs a r n t ov) (i : Int32) : X G yX5_has cX5_has 2 (some .boolean) d [.ref (G.1 + a), .int i] cs (fun r cs1 => r = some (.int (bI (sgHas t i))) ∧ cs1 = cs) := by
  refine X.of false (by decide +kernel) (by decide) (Nat.le_of_ble_eq_true rfl) ?_
  show Z (RX5, cX5_has, 2, some .boolean, false) G d _ 0 [(0, .ref (G.1 + a)), (1, .int i)] [] cs
  obtain ⟨f, hs, hr, hn1, hn2, hn3, hne, hf, hc⟩ := h
  refine z_iload_n dX5_has_0 rfl rfl ?_
  refine z_if_lt (tgt := 16) dX5_has_1 (by decide) (fun h1 => ?_) (fun h1 => ?_)
  · refine z_iconst (v := 0) dX5_has_16 (by decide) ?_
    exact z_ireturn dX5_has_17 rfl (by decide) ⟨by simp [sgHas, bI, *], rfl⟩
  · refine z_iload_n dX5_has_4 rfl rfl ?_
    refine z_aload_n dX5_has_5 rfl rfl ?_
    refine z_get kX5 fX5_15 dX5_has_6 (by assumption) (by rfl) ?_
    refine z_icmp_ge (tgt := 16) dX5_has_9 (by decide) (fun h2 => ?_) (fun h2 => ?_)
    · refine z_iconst (v := 0) dX5_has_16 (by decide) ?_
      exact z_ireturn dX5_has_17 rfl (by decide) ⟨by simp [sgHas, bI, *], rfl⟩
    · refine z_iconst (v := 1) dX5_has_12 (by decide) ?_
      refine z_goto (tgt := 17) dX5_has_13 (by decide) ?_
      exact z_ireturn dX5_has_17 rfl (by decide) ⟨by simp [sgHas, bI, *], rfl⟩

set_option maxRecDepth 100000 in
set_option maxHeartbeats 4000000 in
theorem c_X5_at {G : xG} {cs : List va_E} {a r n : Nat} {t : List Int32} {ov : Bool} (d : Nat) (h : Sg G cs a r n t ov) (i : Int32) : X G yX5_at cX5_at 2 (some .int) d [.ref (G.1 + a), .int i] cs (fun r cs1 => r = some (.int (sgAt t i)) ∧ cs1 = cs) := by
  refine X.of false (by decide +kernel) (by decide) (Nat.le_of_ble_eq_true rfl) ?_
  show Z (RX5, cX5_at, 2, some .int, false) G d _ 0 [(0, .ref (G.1 + a)), (1, .int i)] [] cs
  obtain ⟨f, hs, hr, hn1, hn2, hn3, hne, hf, hc⟩ := h
  refine z_iload_n dX5_at_0 rfl rfl ?_
  refine z_if_lt (tgt := 21) dX5_at_1 (by decide) (fun h1 => ?_) (fun h1 => ?_)
  · refine z_iconst (v := (-1)) dX5_at_21 (by decide) ?_
    exact z_ireturn dX5_at_22 rfl (by rfl) ⟨by simp [sgAt, *], rfl⟩
  · refine z_iload_n dX5_at_4 rfl rfl ?_
    refine z_aload_n dX5_at_5 rfl rfl ?_
    refine z_get kX5 fX5_15 dX5_at_6 (by assumption) (by rfl) ?_
    refine z_icmp_ge (tgt := 21) dX5_at_9 (by decide) (fun h2 => ?_) (fun h2 => ?_)
    · refine z_iconst (v := (-1)) dX5_at_21 (by decide) ?_
      exact z_ireturn dX5_at_22 rfl (by rfl) ⟨by simp [sgAt, *], rfl⟩
    · have hv0 : vp_in i t.length := vin_lt h1 h2 (Nat.le_refl _) (by omega)
      have hv : vp_in i n := vin_lt h1 h2 hn1 (by omega)
      have hj : i.toNatClampNeg < t.length := Nat.not_le.mp fun q => hv0 (Or.inr q)
      refine z_aload_n dX5_at_12 rfl rfl ?_
      refine z_get kX5 fX5_11 dX5_at_13 (by assumption) (by rfl) ?_
      refine z_iload_n dX5_at_16 rfl rfl ?_
      refine z_cald dX5_at_17 (by assumption) (by assumption) ?_
      refine z_goto (tgt := 22) dX5_at_18 (by decide) ?_
      exact z_ireturn dX5_at_22 rfl (by rfl) ⟨by simp [sgAt, *], rfl⟩

set_option maxRecDepth 100000 in
set_option maxHeartbeats 4000000 in
theorem c_X5_clear {G : xG} {cs : List va_E} {a r n : Nat} {t : List Int32} {ov : Bool} (d : Nat) (h : Sg G cs a r n t ov) : X G yX5_clear cX5_clear 1 none d [.ref (G.1 + a)] cs (fun r1 cs1 => r1 = none ∧ cs1 = cs.set a (.inr (5, [.ref (G.1 + r), .int (nI ([] : List Int32).length), .int (bI false)]))) := by
  refine X.of false (by decide +kernel) (by decide) (Nat.le_of_ble_eq_true rfl) ?_
  show Z (RX5, cX5_clear, 1, none, false) G d _ 0 [(0, .ref (G.1 + a))] [] cs
  obtain ⟨f, hs, hr, hn1, hn2, hn3, hne, hf, hc⟩ := h
  refine z_aload_n dX5_clear_0 rfl rfl ?_
  refine z_iconst (v := 0) dX5_clear_1 (by decide) ?_
  refine z_put kX5 fX5_15 dX5_clear_2 rfl hs (by rfl) (by rfl) (Nat.le_of_ble_eq_true rfl) ?_
  refine z_aload_n dX5_clear_5 rfl rfl ?_
  refine z_iconst (v := 0) dX5_clear_6 (by decide) ?_
  refine z_put kX5 fX5_19 dX5_clear_7 rfl (set_at hs) (by rfl) (by rfl) (Nat.le_of_ble_eq_true rfl) ?_
  exact z_return dX5_clear_10 rfl ⟨rfl, by rw [List.set_set]; rfl⟩

theorem Sg.cleared {G : xG} {cs : List va_E} {a r n : Nat} {t : List Int32} {ov : Bool} (h : Sg G cs a r n t ov) : Sg G (cs.set a (.inr (5, [.ref (G.1 + r), .int (nI ([] : List Int32).length), .int (bI false)]))) a r n [] false ∧ Fr cs (cs.set a (.inr (5, [.ref (G.1 + r), .int (nI ([] : List Int32).length), .int (bI false)]))) a r r n n := by
  obtain ⟨f, hs, hr, hn1, hn2, hn3, hne, hf, hc⟩ := h
  refine ⟨⟨f, set_at hs, set_ne hne hr, Nat.zero_le _, hn2, hn3, hne, fun j h => absurd h (Nat.not_lt_zero _), fun x h => absurd h List.not_mem_nil⟩, Or.inl rfl, by simp, fun k h1 h2 h3 => List.getElem?_set_ne (Ne.symm h2), by simp, by rw [xZ_set hs] <;> first | exact Nat.le_refl _ | rfl⟩

set_option maxRecDepth 100000 in
set_option maxHeartbeats 4000000 in
theorem z_X5_put64 {G : xG} {cs : List va_E} {a r n len : Nat} {f : Nat → Int32} {ov : Bool} {u : Int32} {d : Nat} {Post : xP} (hs : cs[a]? = some (.inr (5, [.ref (G.1 + r), .int (nI len), .int (bI ov)]))) (hr : cs[r]? = some (.inl (G.2.2.1 1, n, .inl f))) (hne : a ≠ r) (hl : len < n) (hn : n ≤ 3000)
    (hp : Post (some (.int 1)) ((cs.set r (.inl (G.2.2.1 1, n, .inl (upd f (nI len).toNatClampNeg (chr u))))).set a (.inr (5, [.ref (G.1 + r), .int (nI len + 1), .int (bI ov)])))) : Z (RX5, cX5_put, 3, some .boolean, false) G d Post 64 [(0, .ref (G.1 + a)), (1, .int u)] [] cs := by
  have hin : vp_in (nI len) n := vp_in_nI hl (by omega)
  refine z_aload_n dX5_put_64 rfl rfl ?_
  refine z_get kX5 fX5_11 dX5_put_65 hs (by rfl) ?_
  refine z_aload_n dX5_put_68 rfl rfl ?_
  refine z_get kX5 fX5_15 dX5_put_69 hs (by rfl) ?_
  refine z_iload_n dX5_put_72 rfl rfl ?_
  refine z_i2c dX5_put_73 ?_
  refine z_cast dX5_put_74 hr hin ?_
  refine z_aload_n dX5_put_75 rfl rfl ?_
  refine z_dup dX5_put_76 rfl ?_
  refine z_get kX5 fX5_15 dX5_put_77 (set_ne (Ne.symm hne) hs) (by rfl) ?_
  refine z_iconst (v := 1) dX5_put_80 (by decide) ?_
  refine z_iadd dX5_put_81 ?_
  refine z_put kX5 fX5_15 dX5_put_82 rfl (set_ne (Ne.symm hne) hs) (by rfl) (by rfl) (Nat.le_of_ble_eq_true rfl) ?_
  refine z_iconst (v := 1) dX5_put_85 (by decide) ?_
  exact z_ireturn dX5_put_86 rfl (by decide) hp
def sgPut (t : List Int32) (u : Int32) : List Int32 := if t.length < 3000 then t ++ [chr u] else t
def sgFull (t : List Int32) : Bool := decide (¬ t.length < 3000)
theorem Sg.put {G : xG} {cs : List va_E} {a r n : Nat} {t : List Int32} {ov : Bool} {f : Nat → Int32} {u : Int32} (hs : cs[a]? = some (.inr (5, [.ref (G.1 + r), .int (nI t.length), .int (bI ov)]))) (hr : cs[r]? = some (.inl (G.2.2.1 1, n, .inl f))) (hl : t.length < n) (hn2 : n ≤ 3000) (hn3 : 64 ≤ n) (hne : a ≠ r) (hf : ∀ j, j < t.length → f j = t.getD j 0) (hc : ∀ x ∈ t, fits .char (.int x) = true) :
    Sg G ((cs.set r (.inl (G.2.2.1 1, n, .inl (upd f (nI t.length).toNatClampNeg (chr u))))).set a (.inr (5, [.ref (G.1 + r), .int (nI t.length + 1), .int (bI ov)]))) a r n (t ++ [chr u]) ov := by
  refine ⟨upd f (nI t.length).toNatClampNeg (chr u), ?_, ?_, by simp; omega, hn2, hn3, hne, fun j hj => ?_, fun x hx => ?_⟩
  · rw [set_at (set_ne (Ne.symm hne) hs), nI_1]
    simp
  · exact set_ne hne (set_at hr)
  · rw [nI_clamp (by omega)]
    unfold upd
    by_cases h : j = t.length
    · subst h
      simp
    · have hj2 : j < t.length := by simp at hj; omega
      rw [if_neg h, hf j hj2]
      simp [List.getD_eq_getElem?_getD, List.getElem?_append_left hj2]
  · rcases List.mem_append.mp hx with h | h
    · exact hc x h
    · rw [List.mem_singleton.mp h]
      exact chr_fit u
theorem Fr.put {G : xG} {cs : List va_E} {a r n : Nat} {e0 e1 e2 e3 : va_E} (hs : cs[a]? = some e0) (hr : cs[r]? = some e1) (hne : a ≠ r) (h0 : xSzE e3 = xSzE e0) (h1 : xSzE e2 = xSzE e1) : Fr cs ((cs.set r e2).set a e3) a r r n n := by
  refine ⟨Or.inl rfl, by simp, fun k k1 k2 k3 => ?_, by simp, ?_⟩
  · rw [List.getElem?_set_ne (Ne.symm k2), List.getElem?_set_ne (Ne.symm k3)]
  · rw [xZ_set (set_ne (Ne.symm hne) hs) h0, xZ_set hr h1]
    exact Nat.le_refl _

def gr (n : Nat) : Nat := min 3000 (2 * n)
theorem gr_eq {n : Nat} (h : n ≤ 3000) : jMin 3000 (2 * Int32.ofNat n) = nI (gr n) := by
  have e : (2 : Int32) * Int32.ofNat n = nI (2 * n) := pk_mul 2 n
  have e3 : (3000 : Int32) = nI 3000 := rfl
  unfold jMin gr
  rw [e, e3]
  by_cases q : 2 * n < 3000
  · rw [if_pos (nI_lt q (by decide)), Nat.min_eq_right (by omega)]
  · rw [if_neg (nI_nlt (by omega) (by omega)), Nat.min_eq_left (by omega)]
set_option maxRecDepth 100000 in
set_option maxHeartbeats 4000000 in
/-- put(u): the sign comes behind the others, if there is room; a full row grows -/
theorem c_X5_put {G : xG} {cs : List va_E} {a r n : Nat} {t : List Int32} {ov : Bool} (d : Nat) (hd : 1 ≤ d) (h : Sg G cs a r n t ov) (hR : Rm cs n) (u : Int32) : X G yX5_put cX5_put 3 (some .boolean) d [.ref (G.1 + a), .int u] cs (fun v c1 => v = some (.int (bI (decide (t.length < 3000)))) ∧ ∃ r1 n1, Sg G c1 a r1 n1 (sgPut t u) (ov || sgFull t) ∧ Fr cs c1 a r r1 n n1) := by
  refine X.of false (by decide +kernel) (by decide) (Nat.le_of_ble_eq_true rfl) ?_
  show Z (RX5, cX5_put, 3, some .boolean, false) G d _ 0 [(0, .ref (G.1 + a)), (1, .int u)] [] cs
  have h0 := h
  obtain ⟨f, hs, hr, hn1, hn2, hn3, hne, hf, hc⟩ := h
  refine z_aload_n dX5_put_0 rfl rfl ?_
  refine z_get kX5 fX5_15 dX5_put_1 hs (by rfl) ?_
  refine z_sipush (v := 3000) dX5_put_4 (by decide) ?_
  refine z_icmp_lt (tgt := 17) dX5_put_7 (by decide) (fun h1 => ?_) (fun h1 => ?_)
  · refine z_aload_n dX5_put_17 rfl rfl ?_
    refine z_get kX5 fX5_15 dX5_put_18 hs (by rfl) ?_
    refine z_aload_n dX5_put_21 rfl rfl ?_
    refine z_get kX5 fX5_11 dX5_put_22 hs (by rfl) ?_
    refine z_alen (t0 := 1) dX5_put_25 hr rfl rfl ?_
    refine z_icmp_lt (tgt := 64) dX5_put_26 (by decide) (fun k1 => ?_) (fun k1 => ?_)
    · have hlt : t.length < n := by
        rcases Nat.lt_or_ge t.length n with q | q
        · exact q
        · exact absurd k1 (nI_nlt q (by omega))
      refine z_X5_put64 (len := t.length) hs hr hne hlt hn2 ?_
      refine ⟨by simp [show t.length < 3000 by omega, bI], r, n, ?_, Fr.put (G := G) hs hr hne rfl rfl⟩
      rw [show sgPut t u = t ++ [chr u] by simp [sgPut]; omega, show (ov || sgFull t) = ov by simp [sgFull]; omega]
      exact Sg.put hs hr hlt hn2 hn3 hne hf hc
    · have hnl : n ≤ t.length := by
        rcases Nat.lt_or_ge t.length n with q | q
        · exact absurd (nI_lt q (by omega)) k1
        · exact q
      have hl3 : t.length < 3000 := by
        rcases Nat.lt_or_ge t.length 3000 with q | q
        · exact q
        · exact absurd h1 (nI_nlt q (by omega))
      have hgr : gr n ≤ 3000 ∧ t.length < gr n ∧ gr n + pz (gr n) ≤ pz n := by unfold gr pz; split <;> split <;> omega
      have hg : gr n < 2 ^ 31 := by omega
      unfold Rm at hR
      refine z_sipush (v := 3000) dX5_put_29 (by decide) ?_
      refine z_iconst (v := 2) dX5_put_32 (by decide) ?_
      refine z_aload_n dX5_put_33 rfl rfl ?_
      refine z_get kX5 fX5_11 dX5_put_34 hs (by rfl) ?_
      refine z_alen (t0 := 1) dX5_put_37 hr rfl rfl ?_
      refine z_imul dX5_put_38 ?_
      refine z_mmin lX5_23 sJ9_min_7cf53 bJ9 dX5_put_39 (by omega) (Nat.le_of_ble_eq_true rfl) ?_
      refine z_st (st' := [.int (nI (gr n))]) (by rw [gr_eq hn2]) ?_
      refine z_newa_char arr_char dX5_put_42 (N := gr n) (nI_pos hg) (nI_clamp hg) (by omega) (⟨by omega, by omega⟩) ?_
      refine z_astore_n dX5_put_44 rfl (by decide) ?_
      have hs1 : (cs ++ [.inl (G.2.2.1 1, gr n, .inl (fun _ => (0 : Int32)))])[a]? = some (.inr (5, [.ref (G.1 + r), .int (nI t.length), .int (bI ov)])) := app_at hs
      have hr1 : (cs ++ [.inl (G.2.2.1 1, gr n, .inl (fun _ => (0 : Int32)))])[r]? = some (.inl (G.2.2.1 1, n, .inl f)) := app_at hr
      have hw1 : (cs ++ [.inl (G.2.2.1 1, gr n, .inl (fun _ => (0 : Int32)))])[cs.length]? = some (.inl (G.2.2.1 1, gr n, .inl (fun _ => (0 : Int32)))) := app_last
      have hal := at_lt hs
      have hrl := at_lt hr
      refine z_aload_n dX5_put_45 rfl rfl ?_
      refine z_get kX5 fX5_11 dX5_put_46 hs1 (by rfl) ?_
      refine z_iconst (v := 0) dX5_put_49 (by decide) ?_
      refine z_aload_n dX5_put_50 rfl rfl ?_
      refine z_iconst (v := 0) dX5_put_51 (by decide) ?_
      refine z_aload_n dX5_put_52 rfl rfl ?_
      refine z_get kX5 fX5_15 dX5_put_53 hs1 (by rfl) ?_
      have hcl : (nI t.length).toNatClampNeg = t.length := nI_clamp (by omega)
      refine z_copyc lX5_29 ac_n ac_s ac_i dX5_put_56 hr1 hw1 (by decide) (by decide) (nI_pos (by omega)) (by rw [hcl]; show 0 + _ ≤ _; omega) (by rw [hcl]; show 0 + _ ≤ _; omega) (fun i hi => ?_) (by omega) (Nat.le_of_ble_eq_true rfl) ?_
      · rw [hcl] at hi
        show fits .char (.int (f (0 + i))) = true
        rw [Nat.zero_add, hf i hi]
        refine hc _ ?_
        rw [List.getD_eq_getElem?_getD, List.getElem?_eq_getElem hi]
        exact List.getElem_mem hi
      refine z_aload_n dX5_put_59 rfl rfl ?_
      refine z_aload_n dX5_put_60 rfl rfl ?_
      have hs2 := set_ne (e := .inl (G.2.2.1 1, gr n, .inl (va_cpy f (fun _ => 0) (0 : Int32).toNatClampNeg (0 : Int32).toNatClampNeg (nI t.length).toNatClampNeg))) (show cs.length ≠ a by omega) hs1
      have hw2 := set_at (e := .inl (G.2.2.1 1, gr n, .inl (va_cpy f (fun _ => 0) (0 : Int32).toNatClampNeg (0 : Int32).toNatClampNeg (nI t.length).toNatClampNeg))) hw1
      refine z_put kX5 fX5_11 dX5_put_61 rfl hs2 (by rfl) (by rfl) (Nat.le_of_ble_eq_true rfl) ?_
      have hs3 := set_at (e := .inr (5, [.ref (G.1 + cs.length), .int (nI t.length), .int (bI ov)])) hs2
      have hw3 := set_ne (e := .inr (5, [.ref (G.1 + cs.length), .int (nI t.length), .int (bI ov)])) (show a ≠ cs.length by omega) hw2
      refine z_loc (L' := [(0, .ref (G.1 + a)), (1, .int u)]) (by intro q hq; simp at hq; rcases hq with rfl | rfl <;> rfl) ?_
      have hf2 : ∀ j, j < t.length → va_cpy f (fun _ => 0) (0 : Int32).toNatClampNeg (0 : Int32).toNatClampNeg (nI t.length).toNatClampNeg j = t.getD j 0 := by
        intro j hj
        rw [hcl]
        show va_cpy f (fun _ => 0) 0 0 t.length j = _
        rw [sb_cpy0 hj, hf j hj]
      refine z_X5_put64 (len := t.length) hs3 hw3 (by omega) hgr.2.1 hgr.1 ?_
      refine ⟨by simp [hl3, bI], cs.length, gr n, ?_, Fr.tr (r1 := cs.length) (n1 := gr n) ?_ (Fr.put (G := G) hs3 hw3 (by omega) rfl rfl)⟩
      · rw [show sgPut t u = t ++ [chr u] by simp [sgPut, hl3], show (ov || sgFull t) = ov by simp [sgFull, hl3]]
        exact Sg.put hs3 hw3 hgr.2.1 hgr.1 (by omega) (by omega) hf2 hc
      · refine ⟨Or.inr (Nat.le_refl _), by simp, fun k k1 k2 k3 => ?_, by simp; omega, ?_⟩
        · rw [List.getElem?_set_ne (Ne.symm k2), List.getElem?_set_ne (by omega), List.getElem?_append_left k1]
        · show xZ (List.set _ a (.inr (5, [.ref (G.1 + cs.length), .int (nI t.length), .int (bI ov)]))) + _ ≤ _
          rw [xZ_set hs2 (e := .inr (5, [.ref (G.1 + cs.length), .int (nI t.length), .int (bI ov)])) rfl, xZ_set hw1 (e := .inl (G.2.2.1 1, gr n, .inl (va_cpy f (fun _ => 0) (0 : Int32).toNatClampNeg (0 : Int32).toNatClampNeg (nI t.length).toNatClampNeg))) rfl]
          have : xZ (cs ++ [.inl (G.2.2.1 1, gr n, .inl (fun _ => (0 : Int32)))]) = xZ cs + gr n := by simp [xZ, xSzE]
          rw [this]
          have := hgr.2.2
          omega
  · refine z_aload_n dX5_put_10 rfl rfl ?_
    refine z_iconst (v := 1) dX5_put_11 (by decide) ?_
    refine z_put kX5 fX5_19 dX5_put_12 rfl hs (by rfl) (by rfl) (Nat.le_of_ble_eq_true rfl) ?_
    refine z_iconst (v := 0) dX5_put_15 (by decide) ?_
    exact z_ireturn dX5_put_16 rfl (by decide) (by
      have e : ¬ t.length < 3000 := fun q => h1 (nI_lt q (by decide))
      refine ⟨by simp [e, bI], r, n, ?_, ⟨Or.inl rfl, by simp, fun k h1 h2 h3 => List.getElem?_set_ne (Ne.symm h2), by simp, by rw [xZ_set hs] <;> first | exact Nat.le_refl _ | rfl⟩⟩
      rw [show sgPut t u = t by simp [sgPut, e], show (ov || sgFull t) = true by simp [sgFull, e]]
      exact ⟨f, set_at hs, set_ne hne hr, hn1, hn2, hn3, hne, hf, hc⟩)
