/-! HEAP -/
def Hp (G : xG) (cs : List va_E) (h n : Nat) (kl hd cl : Nat → Int32) : Prop := cs[h]? = some (.inr (1, [.ref (G.1 + (h + 1)), .ref (G.1 + (h + 2)), .ref (G.1 + (h + 3)), .int (nI n)])) ∧ cs[h + 1]? = some (.inl (G.2.2.1 0, 30, .inl kl)) ∧ cs[h + 2]? = some (.inl (G.2.2.1 0, 120, .inl hd)) ∧ cs[h + 3]? = some (.inl (G.2.2.1 0, 2400, .inl cl)) ∧ n ≤ 30
def hpF (n : Nat) (x f : Int32) : Bool := if x < 0 then false else if nI n ≤ x then false else if f < 0 then false else if 4 ≤ f then false else true
def hpHas (n : Nat) (x : Int32) : Bool := if x < 0 then false else if nI n ≤ x then false else true
theorem hpHas_in {n : Nat} {x : Int32} (h : hpHas n x = true) (hn : n ≤ 30) : ∃ j : Nat, j < n ∧ x = nI j := by
  unfold hpHas at h
  by_cases h1 : x < 0
  · simp [h1] at h
  · by_cases h2 : nI n ≤ x
    · simp [h1, h2] at h
    · exact vp_in_of (vin_lt h1 h2 (Nat.le_refl _) (by omega)) (by omega)
theorem hpF_in {n : Nat} {x f : Int32} (h : hpF n x f = true) (hn : n ≤ 30) : ∃ j k : Nat, j < n ∧ k < 4 ∧ x = nI j ∧ f = nI k := by
  unfold hpF at h
  by_cases h1 : x < 0
  · simp [h1] at h
  · by_cases h2 : nI n ≤ x
    · simp [h1, h2] at h
    · by_cases h3 : f < 0
      · simp [h1, h2, h3] at h
      · by_cases h4 : 4 ≤ f
        · simp [h1, h2, h3, h4] at h
        · obtain ⟨j, q1, q2⟩ := vp_in_of (vin_lt h1 h2 (Nat.le_refl _) (by omega)) (by omega)
          obtain ⟨k, q3, q4⟩ := vp_in_of (vin_lt (k := 4) (n := 4) h3 h4 (Nat.le_refl _) (by omega)) (by omega)
          exact ⟨j, k, q1, q3, q2, q4⟩
theorem ix_slot (j k : Nat) : nI j * 4 + nI k = nI (j * 4 + k) := by
  rw [show (4 : Int32) = nI 4 from rfl, pk_mul, nI_add]
set_option maxRecDepth 100000 in
set_option maxHeartbeats 4000000 in
theorem h_has {G : xG} {cs : List va_E} {h n : Nat} {kl hd cl : Nat → Int32} (d : Nat) (hh : Hp G cs h n kl hd cl) (x : Int32) : X G yX1_has cX1_has 2 (some .boolean) d [.ref (G.1 + h), .int x] cs (fun r cs1 => r = some (.int (bI (hpHas n x))) ∧ cs1 = cs) := by
  refine X.of false (by decide +kernel) (by decide) (Nat.le_of_ble_eq_true rfl) ?_
  show Z (RX1, cX1_has, 2, some .boolean, false) G d _ 0 [(0, .ref (G.1 + h)), (1, .int x)] [] cs
  obtain ⟨ho, hk, hhd, hcl, hn⟩ := hh
  refine z_iload_n dX1_has_0 rfl rfl ?_
  refine z_if_lt (tgt := 16) dX1_has_1 (by decide) (fun h1 => ?_) (fun h1 => ?_)
  · refine z_iconst (v := 0) dX1_has_16 (by decide) ?_
    exact z_ireturn dX1_has_17 rfl (by decide) ⟨by simp [hpHas, bI, *], rfl⟩
  · refine z_iload_n dX1_has_4 rfl rfl ?_
    refine z_aload_n dX1_has_5 rfl rfl ?_
    refine z_get kX1 fX1_21 dX1_has_6 ho (by rfl) ?_
    refine z_icmp_ge (tgt := 16) dX1_has_9 (by decide) (fun h2 => ?_) (fun h2 => ?_)
    · refine z_iconst (v := 0) dX1_has_16 (by decide) ?_
      exact z_ireturn dX1_has_17 rfl (by decide) ⟨by simp [hpHas, bI, *], rfl⟩
    · refine z_iconst (v := 1) dX1_has_12 (by decide) ?_
      refine z_goto (tgt := 17) dX1_has_13 (by decide) ?_
      exact z_ireturn dX1_has_17 rfl (by decide) ⟨by simp [hpHas, bI, *], rfl⟩

set_option maxRecDepth 100000 in
set_option maxHeartbeats 4000000 in
theorem h_hasField {G : xG} {cs : List va_E} {h n : Nat} {kl hd cl : Nat → Int32} (d : Nat) (hh : Hp G cs h n kl hd cl) (x f : Int32) : X G yX1_hasField cX1_hasField 3 (some .boolean) d [.ref (G.1 + h), .int x, .int f] cs (fun r cs1 => r = some (.int (bI (hpF n x f))) ∧ cs1 = cs) := by
  refine X.of false (by decide +kernel) (by decide) (Nat.le_of_ble_eq_true rfl) ?_
  show Z (RX1, cX1_hasField, 3, some .boolean, false) G d _ 0 [(0, .ref (G.1 + h)), (1, .int x), (2, .int f)] [] cs
  obtain ⟨ho, hk, hhd, hcl, hn⟩ := hh
  refine z_iload_n dX1_hasField_0 rfl rfl ?_
  refine z_if_lt (tgt := 25) dX1_hasField_1 (by decide) (fun h1 => ?_) (fun h1 => ?_)
  · refine z_iconst (v := 0) dX1_hasField_25 (by decide) ?_
    exact z_ireturn dX1_hasField_26 rfl (by decide) ⟨by simp [hpF, bI, *], rfl⟩
  · refine z_iload_n dX1_hasField_4 rfl rfl ?_
    refine z_aload_n dX1_hasField_5 rfl rfl ?_
    refine z_get kX1 fX1_21 dX1_hasField_6 ho (by rfl) ?_
    refine z_icmp_ge (tgt := 25) dX1_hasField_9 (by decide) (fun h2 => ?_) (fun h2 => ?_)
    · refine z_iconst (v := 0) dX1_hasField_25 (by decide) ?_
      exact z_ireturn dX1_hasField_26 rfl (by decide) ⟨by simp [hpF, bI, *], rfl⟩
    · refine z_iload_n dX1_hasField_12 rfl rfl ?_
      refine z_if_lt (tgt := 25) dX1_hasField_13 (by decide) (fun h3 => ?_) (fun h3 => ?_)
      · refine z_iconst (v := 0) dX1_hasField_25 (by decide) ?_
        exact z_ireturn dX1_hasField_26 rfl (by decide) ⟨by simp [hpF, bI, *], rfl⟩
      · refine z_iload_n dX1_hasField_16 rfl rfl ?_
        refine z_iconst (v := 4) dX1_hasField_17 (by decide) ?_
        refine z_icmp_ge (tgt := 25) dX1_hasField_18 (by decide) (fun h4 => ?_) (fun h4 => ?_)
        · refine z_iconst (v := 0) dX1_hasField_25 (by decide) ?_
          exact z_ireturn dX1_hasField_26 rfl (by decide) ⟨by simp [hpF, bI, *], rfl⟩
        · refine z_iconst (v := 1) dX1_hasField_21 (by decide) ?_
          refine z_goto (tgt := 26) dX1_hasField_22 (by decide) ?_
          exact z_ireturn dX1_hasField_26 rfl (by decide) ⟨by simp [hpF, bI, *], rfl⟩

def hpClass (n : Nat) (kl : Nat → Int32) (x : Int32) : Int32 := if hpHas n x = true then kl x.toNatClampNeg else -1
set_option maxRecDepth 100000 in
set_option maxHeartbeats 4000000 in
theorem h_classOf {G : xG} {cs : List va_E} {h n : Nat} {kl hd cl : Nat → Int32} (d : Nat) (hd1 : 1 ≤ d) (hh : Hp G cs h n kl hd cl) (x : Int32) : X G yX1_classOf cX1_classOf 2 (some .int) d [.ref (G.1 + h), .int x] cs (fun r cs1 => r = some (.int (hpClass n kl x)) ∧ cs1 = cs) := by
  refine X.of false (by decide +kernel) (by decide) (Nat.le_of_ble_eq_true rfl) ?_
  show Z (RX1, cX1_classOf, 2, some .int, false) G d _ 0 [(0, .ref (G.1 + h)), (1, .int x)] [] cs
  obtain ⟨ho, hk, hhd, hcl, hn⟩ := hh
  refine z_aload_n dX1_classOf_0 rfl rfl ?_
  refine z_iload_n dX1_classOf_1 rfl rfl ?_
  refine z_callV (As := [_]) eX1_has sX1_has lX1_25 rfl dX1_classOf_2 ho (h_has 0 ⟨ho, hk, hhd, hcl, hn⟩ _) (by omega) rfl (Nat.le_of_ble_eq_true rfl) (fun r cs1 hp => ?_)
  obtain ⟨rfl, e1⟩ := hp
  rw [e1]
  refine z_st (st' := [.int (bI (hpHas n x))]) rfl ?_
  refine z_if_eq (tgt := 17) dX1_classOf_5 (by decide) (fun h1 => ?_) (fun h1 => ?_)
  · refine z_iconst (v := (-1)) dX1_classOf_17 (by decide) ?_
    exact z_ireturn dX1_classOf_18 rfl (by rfl) ⟨by first | (rw [hpClass, if_pos (bI_n h1)]) | (rw [hpClass, if_neg (by rw [bI_0 h1]; decide)]), rfl⟩
  · have q := bI_n h1
    obtain ⟨j, hj, ej⟩ := hpHas_in q hn
    have hv : vp_in x 30 := by rw [ej]; exact vp_in_nI (by omega) (by omega)
    refine z_aload_n dX1_classOf_8 rfl rfl ?_
    refine z_get kX1 fX1_9 dX1_classOf_9 ho (by rfl) ?_
    refine z_iload_n dX1_classOf_12 rfl rfl ?_
    refine z_iald dX1_classOf_13 hk hv ?_
    refine z_goto (tgt := 18) dX1_classOf_14 (by decide) ?_
    exact z_ireturn dX1_classOf_18 rfl (by rfl) ⟨by first | (rw [hpClass, if_pos (bI_n h1)]) | (rw [hpClass, if_neg (by rw [bI_0 h1]; decide)]), rfl⟩

def hpHead (n : Nat) (hd : Nat → Int32) (x f : Int32) : Int32 := if hpF n x f = true then hd (x * 4 + f).toNatClampNeg else 0
set_option maxRecDepth 100000 in
set_option maxHeartbeats 4000000 in
theorem h_head {G : xG} {cs : List va_E} {h n : Nat} {kl hd cl : Nat → Int32} (d : Nat) (hd1 : 1 ≤ d) (hh : Hp G cs h n kl hd cl) (x f : Int32) : X G yX1_head cX1_head 3 (some .int) d [.ref (G.1 + h), .int x, .int f] cs (fun r cs1 => r = some (.int (hpHead n hd x f)) ∧ cs1 = cs) := by
  refine X.of false (by decide +kernel) (by decide) (Nat.le_of_ble_eq_true rfl) ?_
  show Z (RX1, cX1_head, 3, some .int, false) G d _ 0 [(0, .ref (G.1 + h)), (1, .int x), (2, .int f)] [] cs
  obtain ⟨ho, hk, hhd, hcl, hn⟩ := hh
  refine z_aload_n dX1_head_0 rfl rfl ?_
  refine z_iload_n dX1_head_1 rfl rfl ?_
  refine z_iload_n dX1_head_2 rfl rfl ?_
  refine z_callV (As := [_, _]) eX1_hasField sX1_hasField lX1_29 rfl dX1_head_3 ho (h_hasField 0 ⟨ho, hk, hhd, hcl, hn⟩ _ _) (by omega) rfl (Nat.le_of_ble_eq_true rfl) (fun r cs1 hp => ?_)
  obtain ⟨rfl, e1⟩ := hp
  rw [e1]
  refine z_st (st' := [.int (bI (hpF n x f))]) rfl ?_
  refine z_if_eq (tgt := 22) dX1_head_6 (by decide) (fun h1 => ?_) (fun h1 => ?_)
  · refine z_iconst (v := 0) dX1_head_22 (by decide) ?_
    exact z_ireturn dX1_head_23 rfl (by rfl) ⟨by first | (rw [hpHead, if_pos (bI_n h1)]) | (rw [hpHead, if_neg (by rw [bI_0 h1]; decide)]), rfl⟩
  · have q := bI_n h1
    obtain ⟨j, k, hj, hk4, ej, ek⟩ := hpF_in q hn
    have hv : vp_in (x * 4 + f) 120 := by rw [ej, ek, ix_slot]; exact vp_in_nI (by omega) (by omega)
    refine z_aload_n dX1_head_9 rfl rfl ?_
    refine z_get kX1 fX1_15 dX1_head_10 ho (by rfl) ?_
    refine z_iload_n dX1_head_13 rfl rfl ?_
    refine z_iconst (v := 4) dX1_head_14 (by decide) ?_
    refine z_imul dX1_head_15 ?_
    refine z_iload_n dX1_head_16 rfl rfl ?_
    refine z_iadd dX1_head_17 ?_
    refine z_iald dX1_head_18 hhd hv ?_
    refine z_goto (tgt := 23) dX1_head_19 (by decide) ?_
    exact z_ireturn dX1_head_23 rfl (by rfl) ⟨by first | (rw [hpHead, if_pos (bI_n h1)]) | (rw [hpHead, if_neg (by rw [bI_0 h1]; decide)]), rfl⟩

/-- one cell is another one, all else is as it was -/
def Fo (p : Nat) (cs c1 : List va_E) : Prop := c1.length = cs.length ∧ xZ c1 = xZ cs ∧ ∀ k, k ≠ p → c1[k]? = cs[k]?
theorem Fo.rf {p : Nat} {cs : List va_E} : Fo p cs cs := ⟨rfl, rfl, fun _ _ => rfl⟩
theorem Fo.set {p : Nat} {cs : List va_E} {e0 e : va_E} (h : cs[p]? = some e0) (hz : xSzE e = xSzE e0) : Fo p cs (cs.set p e) := ⟨by simp, xZ_set h hz, fun k hk => List.getElem?_set_ne (Ne.symm hk)⟩
def hpPut (n : Nat) (hd : Nat → Int32) (x f v : Int32) : Nat → Int32 := if hpF n x f = true then upd hd (x * 4 + f).toNatClampNeg v else hd
set_option maxRecDepth 100000 in
set_option maxHeartbeats 4000000 in
theorem h_putHead {G : xG} {cs : List va_E} {h n : Nat} {kl hd cl : Nat → Int32} (d : Nat) (hd1 : 1 ≤ d) (hh : Hp G cs h n kl hd cl) (x f v : Int32) : X G yX1_putHead cX1_putHead 4 none d [.ref (G.1 + h), .int x, .int f, .int v] cs (fun r cs1 => r = none ∧ Hp G cs1 h n kl (hpPut n hd x f v) cl ∧ Fo (h + 2) cs cs1) := by
  refine X.of false (by decide +kernel) (by decide) (Nat.le_of_ble_eq_true rfl) ?_
  show Z (RX1, cX1_putHead, 4, none, false) G d _ 0 [(0, .ref (G.1 + h)), (1, .int x), (2, .int f), (3, .int v)] [] cs
  obtain ⟨ho, hk, hhd, hcl, hn⟩ := hh
  refine z_aload_n dX1_putHead_0 rfl rfl ?_
  refine z_iload_n dX1_putHead_1 rfl rfl ?_
  refine z_iload_n dX1_putHead_2 rfl rfl ?_
  refine z_callV (As := [_, _]) eX1_hasField sX1_hasField lX1_29 rfl dX1_putHead_3 ho (h_hasField 0 ⟨ho, hk, hhd, hcl, hn⟩ _ _) (by omega) rfl (Nat.le_of_ble_eq_true rfl) (fun r cs1 hp => ?_)
  obtain ⟨rfl, e1⟩ := hp
  rw [e1]
  refine z_st (st' := [.int (bI (hpF n x f))]) rfl ?_
  refine z_if_eq (tgt := 20) dX1_putHead_6 (by decide) (fun h1 => ?_) (fun h1 => ?_)
  · first
      | exact z_return dX1_putHead_20 rfl ⟨rfl, ⟨ho, hk, by rw [hpPut, if_neg (by rw [bI_0 h1]; decide)]; exact hhd, hcl, hn⟩, Fo.rf⟩
      | exact z_return dX1_putHead_20 rfl ⟨rfl, ⟨set_ne (by omega) ho, set_ne (by omega) hk, by rw [hpPut, if_pos (bI_n h1)]; exact set_at hhd, set_ne (by omega) hcl, hn⟩, Fo.set hhd rfl⟩
  · have q := bI_n h1
    obtain ⟨j, k, hj, hk4, ej, ek⟩ := hpF_in q hn
    have hv : vp_in (x * 4 + f) 120 := by rw [ej, ek, ix_slot]; exact vp_in_nI (by omega) (by omega)
    refine z_aload_n dX1_putHead_9 rfl rfl ?_
    refine z_get kX1 fX1_15 dX1_putHead_10 ho (by rfl) ?_
    refine z_iload_n dX1_putHead_13 rfl rfl ?_
    refine z_iconst (v := 4) dX1_putHead_14 (by decide) ?_
    refine z_imul dX1_putHead_15 ?_
    refine z_iload_n dX1_putHead_16 rfl rfl ?_
    refine z_iadd dX1_putHead_17 ?_
    refine z_iload_n dX1_putHead_18 rfl rfl ?_
    refine z_iast dX1_putHead_19 hhd hv ?_
    first
      | exact z_return dX1_putHead_20 rfl ⟨rfl, ⟨ho, hk, by rw [hpPut, if_neg (by rw [bI_0 h1]; decide)]; exact hhd, hcl, hn⟩, Fo.rf⟩
      | exact z_return dX1_putHead_20 rfl ⟨rfl, ⟨set_ne (by omega) ho, set_ne (by omega) hk, by rw [hpPut, if_pos (bI_n h1)]; exact set_at hhd, set_ne (by omega) hcl, hn⟩, Fo.set hhd rfl⟩

def hpC (n : Nat) (hd : Nat → Int32) (x f i : Int32) : Bool := if x < 0 then false else if nI n ≤ x then false else if f < 0 then false else if 4 ≤ f then false else if i < 0 then false else if 20 ≤ i then false else if hd (x * 4 + f).toNatClampNeg ≤ i then false else true
theorem hpC_F {n : Nat} {hd : Nat → Int32} {x f i : Int32} (h : hpC n hd x f i = true) : hpF n x f = true ∧ vp_in i 20 := by
  unfold hpC at h
  by_cases h1 : x < 0
  · simp [h1] at h
  · by_cases h2 : nI n ≤ x
    · simp [h1, h2] at h
    · by_cases h3 : f < 0
      · simp [h1, h2, h3] at h
      · by_cases h4 : 4 ≤ f
        · simp [h1, h2, h3, h4] at h
        · by_cases h5 : i < 0
          · simp [h1, h2, h3, h4, h5] at h
          · by_cases h6 : 20 ≤ i
            · simp [h1, h2, h3, h4, h5, h6] at h
            · exact ⟨by simp [hpF, h1, h2, h3, h4], vin_lt (k := 20) h5 h6 (Nat.le_refl _) (by omega)⟩
theorem ix_cell (j k i : Nat) : (nI j * 4 + nI k) * 20 + nI i = nI ((j * 4 + k) * 20 + i) := by
  rw [ix_slot, show (20 : Int32) = nI 20 from rfl, pk_mul, nI_add]
set_option maxRecDepth 100000 in
set_option maxHeartbeats 4000000 in
theorem h_hasCell {G : xG} {cs : List va_E} {h n : Nat} {kl hd cl : Nat → Int32} (d : Nat) (hh : Hp G cs h n kl hd cl) (x f i : Int32) : X G yX1_hasCell cX1_hasCell 4 (some .boolean) d [.ref (G.1 + h), .int x, .int f, .int i] cs (fun r cs1 => r = some (.int (bI (hpC n hd x f i))) ∧ cs1 = cs) := by
  refine X.of false (by decide +kernel) (by decide) (Nat.le_of_ble_eq_true rfl) ?_
  show Z (RX1, cX1_hasCell, 4, some .boolean, false) G d _ 0 [(0, .ref (G.1 + h)), (1, .int x), (2, .int f), (3, .int i)] [] cs
  obtain ⟨ho, hk, hhd, hcl, hn⟩ := hh
  refine z_iload_n dX1_hasCell_0 rfl rfl ?_
  refine z_if_lt (tgt := 49) dX1_hasCell_1 (by decide) (fun h1 => ?_) (fun h1 => ?_)
  · refine z_iconst (v := 0) dX1_hasCell_49 (by decide) ?_
    exact z_ireturn dX1_hasCell_50 rfl (by decide) ⟨by simp [hpC, bI, *], rfl⟩
  · refine z_iload_n dX1_hasCell_4 rfl rfl ?_
    refine z_aload_n dX1_hasCell_5 rfl rfl ?_
    refine z_get kX1 fX1_21 dX1_hasCell_6 ho (by rfl) ?_
    refine z_icmp_ge (tgt := 49) dX1_hasCell_9 (by decide) (fun h2 => ?_) (fun h2 => ?_)
    · refine z_iconst (v := 0) dX1_hasCell_49 (by decide) ?_
      exact z_ireturn dX1_hasCell_50 rfl (by decide) ⟨by simp [hpC, bI, *], rfl⟩
    · refine z_iload_n dX1_hasCell_12 rfl rfl ?_
      refine z_if_lt (tgt := 49) dX1_hasCell_13 (by decide) (fun h3 => ?_) (fun h3 => ?_)
      · refine z_iconst (v := 0) dX1_hasCell_49 (by decide) ?_
        exact z_ireturn dX1_hasCell_50 rfl (by decide) ⟨by simp [hpC, bI, *], rfl⟩
      · refine z_iload_n dX1_hasCell_16 rfl rfl ?_
        refine z_iconst (v := 4) dX1_hasCell_17 (by decide) ?_
        refine z_icmp_ge (tgt := 49) dX1_hasCell_18 (by decide) (fun h4 => ?_) (fun h4 => ?_)
        · refine z_iconst (v := 0) dX1_hasCell_49 (by decide) ?_
          exact z_ireturn dX1_hasCell_50 rfl (by decide) ⟨by simp [hpC, bI, *], rfl⟩
        · refine z_iload_n dX1_hasCell_21 rfl rfl ?_
          refine z_if_lt (tgt := 49) dX1_hasCell_22 (by decide) (fun h5 => ?_) (fun h5 => ?_)
          · refine z_iconst (v := 0) dX1_hasCell_49 (by decide) ?_
            exact z_ireturn dX1_hasCell_50 rfl (by decide) ⟨by simp [hpC, bI, *], rfl⟩
          · refine z_iload_n dX1_hasCell_25 rfl rfl ?_
            refine z_bipush (v := 20) dX1_hasCell_26 (by decide) ?_
            refine z_icmp_ge (tgt := 49) dX1_hasCell_28 (by decide) (fun h6 => ?_) (fun h6 => ?_)
            · refine z_iconst (v := 0) dX1_hasCell_49 (by decide) ?_
              exact z_ireturn dX1_hasCell_50 rfl (by decide) ⟨by simp [hpC, bI, *], rfl⟩
            · have hv : vp_in (x * 4 + f) 120 := by
                have q : hpF n x f = true := by simp [hpF, *]
                obtain ⟨j, k, hj, hk4, ej, ek⟩ := hpF_in q hn
                rw [ej, ek, ix_slot]
                exact vp_in_nI (by omega) (by omega)
              refine z_iload_n dX1_hasCell_31 rfl rfl ?_
              refine z_aload_n dX1_hasCell_32 rfl rfl ?_
              refine z_get kX1 fX1_15 dX1_hasCell_33 ho (by rfl) ?_
              refine z_iload_n dX1_hasCell_36 rfl rfl ?_
              refine z_iconst (v := 4) dX1_hasCell_37 (by decide) ?_
              refine z_imul dX1_hasCell_38 ?_
              refine z_iload_n dX1_hasCell_39 rfl rfl ?_
              refine z_iadd dX1_hasCell_40 ?_
              refine z_iald dX1_hasCell_41 hhd hv ?_
              refine z_icmp_ge (tgt := 49) dX1_hasCell_42 (by decide) (fun h7 => ?_) (fun h7 => ?_)
              · refine z_iconst (v := 0) dX1_hasCell_49 (by decide) ?_
                exact z_ireturn dX1_hasCell_50 rfl (by decide) ⟨by simp [hpC, bI, *], rfl⟩
              · refine z_iconst (v := 1) dX1_hasCell_45 (by decide) ?_
                refine z_goto (tgt := 50) dX1_hasCell_46 (by decide) ?_
                exact z_ireturn dX1_hasCell_50 rfl (by decide) ⟨by simp [hpC, bI, *], rfl⟩

def hpCell (n : Nat) (hd cl : Nat → Int32) (x f i : Int32) : Int32 := if hpC n hd x f i = true then cl ((x * 4 + f) * 20 + i).toNatClampNeg else -2
set_option maxRecDepth 100000 in
set_option maxHeartbeats 4000000 in
theorem h_cell {G : xG} {cs : List va_E} {h n : Nat} {kl hd cl : Nat → Int32} (d : Nat) (hd1 : 1 ≤ d) (hh : Hp G cs h n kl hd cl) (x f i : Int32) : X G yX1_cell cX1_cell 4 (some .int) d [.ref (G.1 + h), .int x, .int f, .int i] cs (fun r cs1 => r = some (.int (hpCell n hd cl x f i)) ∧ cs1 = cs) := by
  refine X.of false (by decide +kernel) (by decide) (Nat.le_of_ble_eq_true rfl) ?_
  show Z (RX1, cX1_cell, 4, some .int, false) G d _ 0 [(0, .ref (G.1 + h)), (1, .int x), (2, .int f), (3, .int i)] [] cs
  obtain ⟨ho, hk, hhd, hcl, hn⟩ := hh
  refine z_aload_n dX1_cell_0 rfl rfl ?_
  refine z_iload_n dX1_cell_1 rfl rfl ?_
  refine z_iload_n dX1_cell_2 rfl rfl ?_
  refine z_iload_n dX1_cell_3 rfl rfl ?_
  refine z_callV (As := [_, _, _]) eX1_hasCell sX1_hasCell lX1_33 rfl dX1_cell_4 ho (h_hasCell 0 ⟨ho, hk, hhd, hcl, hn⟩ _ _ _) (by omega) rfl (Nat.le_of_ble_eq_true rfl) (fun r cs1 hp => ?_)
  obtain ⟨rfl, e1⟩ := hp
  rw [e1]
  refine z_st (st' := [.int (bI (hpC n hd x f i))]) rfl ?_
  refine z_if_eq (tgt := 28) dX1_cell_7 (by decide) (fun h1 => ?_) (fun h1 => ?_)
  · refine z_bipush (v := (-2)) dX1_cell_28 (by decide) ?_
    exact z_ireturn dX1_cell_30 rfl (by rfl) ⟨by first | (rw [hpCell, if_pos (bI_n h1)]) | (rw [hpCell, if_neg (by rw [bI_0 h1]; decide)]), rfl⟩
  · obtain ⟨q, qi⟩ := hpC_F (bI_n h1)
    obtain ⟨j, k, hj, hk4, ej, ek⟩ := hpF_in q hn
    obtain ⟨i0, hi0, ei⟩ := vp_in_of qi (by decide)
    have hv : vp_in ((x * 4 + f) * 20 + i) 2400 := by rw [ej, ek, ei, ix_cell]; exact vp_in_nI (by omega) (by omega)
    refine z_aload_n dX1_cell_10 rfl rfl ?_
    refine z_get kX1 fX1_18 dX1_cell_11 ho (by rfl) ?_
    refine z_iload_n dX1_cell_14 rfl rfl ?_
    refine z_iconst (v := 4) dX1_cell_15 (by decide) ?_
    refine z_imul dX1_cell_16 ?_
    refine z_iload_n dX1_cell_17 rfl rfl ?_
    refine z_iadd dX1_cell_18 ?_
    refine z_bipush (v := 20) dX1_cell_19 (by decide) ?_
    refine z_imul dX1_cell_21 ?_
    refine z_iload_n dX1_cell_22 rfl rfl ?_
    refine z_iadd dX1_cell_23 ?_
    refine z_iald dX1_cell_24 hcl hv ?_
    refine z_goto (tgt := 30) dX1_cell_25 (by decide) ?_
    exact z_ireturn dX1_cell_30 rfl (by rfl) ⟨by first | (rw [hpCell, if_pos (bI_n h1)]) | (rw [hpCell, if_neg (by rw [bI_0 h1]; decide)]), rfl⟩

def hpPutC (n : Nat) (hd cl : Nat → Int32) (x f i v : Int32) : Nat → Int32 := if hpC n hd x f i = true then upd cl ((x * 4 + f) * 20 + i).toNatClampNeg v else cl
set_option maxRecDepth 100000 in
set_option maxHeartbeats 4000000 in
theorem h_putCell {G : xG} {cs : List va_E} {h n : Nat} {kl hd cl : Nat → Int32} (d : Nat) (hd1 : 1 ≤ d) (hh : Hp G cs h n kl hd cl) (x f i v : Int32) : X G yX1_putCell cX1_putCell 5 none d [.ref (G.1 + h), .int x, .int f, .int i, .int v] cs (fun r cs1 => r = none ∧ Hp G cs1 h n kl hd (hpPutC n hd cl x f i v) ∧ Fo (h + 3) cs cs1) := by
  refine X.of false (by decide +kernel) (by decide) (Nat.le_of_ble_eq_true rfl) ?_
  show Z (RX1, cX1_putCell, 5, none, false) G d _ 0 [(0, .ref (G.1 + h)), (1, .int x), (2, .int f), (3, .int i), (4, .int v)] [] cs
  obtain ⟨ho, hk, hhd, hcl, hn⟩ := hh
  refine z_aload_n dX1_putCell_0 rfl rfl ?_
  refine z_iload_n dX1_putCell_1 rfl rfl ?_
  refine z_iload_n dX1_putCell_2 rfl rfl ?_
  refine z_iload_n dX1_putCell_3 rfl rfl ?_
  refine z_callV (As := [_, _, _]) eX1_hasCell sX1_hasCell lX1_33 rfl dX1_putCell_4 ho (h_hasCell 0 ⟨ho, hk, hhd, hcl, hn⟩ _ _ _) (by omega) rfl (Nat.le_of_ble_eq_true rfl) (fun r cs1 hp => ?_)
  obtain ⟨rfl, e1⟩ := hp
  rw [e1]
  refine z_st (st' := [.int (bI (hpC n hd x f i))]) rfl ?_
  refine z_if_eq (tgt := 27) dX1_putCell_7 (by decide) (fun h1 => ?_) (fun h1 => ?_)
  · first
      | exact z_return dX1_putCell_27 rfl ⟨rfl, ⟨ho, hk, hhd, by rw [hpPutC, if_neg (by rw [bI_0 h1]; decide)]; exact hcl, hn⟩, Fo.rf⟩
      | exact z_return dX1_putCell_27 rfl ⟨rfl, ⟨set_ne (by omega) ho, set_ne (by omega) hk, set_ne (by omega) hhd, by rw [hpPutC, if_pos (bI_n h1)]; exact set_at hcl, hn⟩, Fo.set hcl rfl⟩
  · obtain ⟨q, qi⟩ := hpC_F (bI_n h1)
    obtain ⟨j, k, hj, hk4, ej, ek⟩ := hpF_in q hn
    obtain ⟨i0, hi0, ei⟩ := vp_in_of qi (by decide)
    have hv : vp_in ((x * 4 + f) * 20 + i) 2400 := by rw [ej, ek, ei, ix_cell]; exact vp_in_nI (by omega) (by omega)
    refine z_aload_n dX1_putCell_10 rfl rfl ?_
    refine z_get kX1 fX1_18 dX1_putCell_11 ho (by rfl) ?_
    refine z_iload_n dX1_putCell_14 rfl rfl ?_
    refine z_iconst (v := 4) dX1_putCell_15 (by decide) ?_
    refine z_imul dX1_putCell_16 ?_
    refine z_iload_n dX1_putCell_17 rfl rfl ?_
    refine z_iadd dX1_putCell_18 ?_
    refine z_bipush (v := 20) dX1_putCell_19 (by decide) ?_
    refine z_imul dX1_putCell_21 ?_
    refine z_iload_n dX1_putCell_22 rfl rfl ?_
    refine z_iadd dX1_putCell_23 ?_
    refine z_iload dX1_putCell_24 rfl ?_
    refine z_iast dX1_putCell_26 hcl hv ?_
    first
      | exact z_return dX1_putCell_27 rfl ⟨rfl, ⟨ho, hk, hhd, by rw [hpPutC, if_neg (by rw [bI_0 h1]; decide)]; exact hcl, hn⟩, Fo.rf⟩
      | exact z_return dX1_putCell_27 rfl ⟨rfl, ⟨set_ne (by omega) ho, set_ne (by omega) hk, set_ne (by omega) hhd, by rw [hpPutC, if_pos (bI_n h1)]; exact set_at hcl, hn⟩, Fo.set hcl rfl⟩

set_option maxRecDepth 100000 in
set_option maxHeartbeats 4000000 in
theorem h_clear {G : xG} {cs : List va_E} {h n : Nat} {kl hd cl : Nat → Int32} (d : Nat) (hh : Hp G cs h n kl hd cl) : X G yX1_clear cX1_clear 1 none d [.ref (G.1 + h)] cs (fun r cs1 => r = none ∧ Hp G cs1 h 0 kl hd cl ∧ Fo h cs cs1) := by
  refine X.of false (by decide +kernel) (by decide) (Nat.le_of_ble_eq_true rfl) ?_
  show Z (RX1, cX1_clear, 1, none, false) G d _ 0 [(0, .ref (G.1 + h))] [] cs
  obtain ⟨ho, hk, hhd, hcl, hn⟩ := hh
  refine z_aload_n dX1_clear_0 rfl rfl ?_
  refine z_iconst (v := 0) dX1_clear_1 (by decide) ?_
  refine z_put kX1 fX1_21 dX1_clear_2 rfl ho (by rfl) (by rfl) (Nat.le_of_ble_eq_true rfl) ?_
  exact z_return dX1_clear_5 rfl ⟨rfl, ⟨set_at ho, set_ne (by omega) hk, set_ne (by omega) hhd, set_ne (by omega) hcl, by omega⟩, Fo.set ho rfl⟩

theorem hpPut_get {n : Nat} {hd : Nat → Int32} {x f v : Int32} (h : hpF n x f = true) : hpPut n hd x f v (x * 4 + f).toNatClampNeg = v := by
  rw [hpPut, if_pos h]
  simp [upd]
theorem Fo.tr {p q : Nat} {c0 c1 c2 : List va_E} (h : Fo p c0 c1) (k : Fo q c1 c2) : c2.length = c0.length ∧ xZ c2 = xZ c0 ∧ ∀ i, i ≠ p → i ≠ q → c2[i]? = c0[i]? := ⟨k.1.trans h.1, k.2.1.trans h.2.1, fun i h1 h2 => (k.2.2 i h2).trans (h.2.2 i h1)⟩
/-- what append answers, and the heads and cells behind it -/
def hpApV (n : Nat) (hd : Nat → Int32) (x f : Int32) : Int32 := if hpHead n hd x f < 8 then hpHead n hd x f + 1 else -1
def hpApH (n : Nat) (hd : Nat → Int32) (x f : Int32) : Nat → Int32 := if hpHead n hd x f < 8 then hpPut n hd x f (hpHead n hd x f + 1) else hd
def hpApC (n : Nat) (hd cl : Nat → Int32) (x f v : Int32) : Nat → Int32 := if hpHead n hd x f < 8 then hpPutC n (hpPut n hd x f (hpHead n hd x f + 1)) cl x f (hpHead n hd x f) v else cl
/-- only the three arrays of the Heap at h may have changed -/
def Fh (h : Nat) (cs c1 : List va_E) : Prop := c1.length = cs.length ∧ xZ c1 = xZ cs ∧ ∀ k, k < h ∨ h + 4 ≤ k → c1[k]? = cs[k]?
theorem Fh.rf {h : Nat} {cs : List va_E} : Fh h cs cs := ⟨rfl, rfl, fun _ _ => rfl⟩
theorem Fo.h {h p : Nat} {cs c1 : List va_E} (k : Fo p cs c1) (h1 : h ≤ p) (h2 : p < h + 4) : Fh h cs c1 := ⟨k.1, k.2.1, fun i hi => k.2.2 i (by omega)⟩
theorem Fh.tr {h : Nat} {c0 c1 c2 : List va_E} (a : Fh h c0 c1) (b : Fh h c1 c2) : Fh h c0 c2 := ⟨b.1.trans a.1, b.2.1.trans a.2.1, fun i hi => (b.2.2 i hi).trans (a.2.2 i hi)⟩
set_option maxRecDepth 100000 in
set_option maxHeartbeats 4000000 in
theorem h_append {G : xG} {cs : List va_E} {h n : Nat} {kl hd cl : Nat → Int32} (d : Nat) (hd1 : 2 ≤ d) (hh : Hp G cs h n kl hd cl) (x f v : Int32) : X G yX1_append cX1_append 5 (some .int) d [.ref (G.1 + h), .int x, .int f, .int v] cs (fun r cs1 => r = some (.int (hpApV n hd x f)) ∧ Hp G cs1 h n kl (hpApH n hd x f) (hpApC n hd cl x f v) ∧ Fh h cs cs1) := by
  refine X.of false (by decide +kernel) (by decide) (Nat.le_of_ble_eq_true rfl) ?_
  show Z (RX1, cX1_append, 5, some .int, false) G d _ 0 [(0, .ref (G.1 + h)), (1, .int x), (2, .int f), (3, .int v)] [] cs
  obtain ⟨ho, hk, hhd, hcl, hn⟩ := hh
  refine z_aload_n dX1_append_0 rfl rfl ?_
  refine z_iload_n dX1_append_1 rfl rfl ?_
  refine z_iload_n dX1_append_2 rfl rfl ?_
  refine z_callV (As := [_, _]) eX1_head sX1_head lX1_37 rfl dX1_append_3 ho (h_head 1 (Nat.le_refl _) ⟨ho, hk, hhd, hcl, hn⟩ _ _) (by omega) rfl (Nat.le_of_ble_eq_true rfl) (fun r cs1 hp => ?_)
  obtain ⟨rfl, e1⟩ := hp
  rw [e1]
  refine z_st (st' := [.int (hpHead n hd x f)]) rfl ?_
  refine z_istore dX1_append_6 (by decide) ?_
  refine z_iload dX1_append_8 rfl ?_
  refine z_bipush (v := 8) dX1_append_10 (by decide) ?_
  refine z_icmp_lt (tgt := 17) dX1_append_12 (by decide) (fun h1 => ?_) (fun h1 => ?_)
  · refine z_aload_n dX1_append_17 rfl rfl ?_
    refine z_iload_n dX1_append_18 rfl rfl ?_
    refine z_iload_n dX1_append_19 rfl rfl ?_
    refine z_iload dX1_append_20 rfl ?_
    refine z_iconst (v := 1) dX1_append_22 (by decide) ?_
    refine z_iadd dX1_append_23 ?_
    refine z_callV (As := [_, _, _]) eX1_putHead sX1_putHead lX1_41 rfl dX1_append_24 ho (h_putHead 1 (Nat.le_refl _) ⟨ho, hk, hhd, hcl, hn⟩ _ _ _) (by omega) rfl (Nat.le_of_ble_eq_true rfl) (fun r cs1 hp => ?_)
    obtain ⟨rfl, hH1, hF1⟩ := hp
    refine z_st (st' := []) rfl ?_
    refine z_aload_n dX1_append_27 rfl rfl ?_
    refine z_iload_n dX1_append_28 rfl rfl ?_
    refine z_iload_n dX1_append_29 rfl rfl ?_
    refine z_iload dX1_append_30 rfl ?_
    refine z_iload_n dX1_append_32 rfl rfl ?_
    refine z_callV (As := [_, _, _, _]) eX1_putCell sX1_putCell lX1_45 rfl dX1_append_33 hH1.1 (h_putCell 1 (Nat.le_refl _) hH1 _ _ _ _) (by omega) rfl (Nat.le_of_ble_eq_true rfl) (fun r cs1 hp => ?_)
    obtain ⟨rfl, hH2, hF2⟩ := hp
    refine z_st (st' := []) rfl ?_
    refine z_iload dX1_append_36 rfl ?_
    refine z_iconst (v := 1) dX1_append_38 (by decide) ?_
    refine z_iadd dX1_append_39 ?_
    exact z_ireturn dX1_append_40 rfl (by rfl) ⟨by rw [hpApV, if_pos h1], by rw [hpApH, hpApC, if_pos h1, if_pos h1]; exact hH2, (hF1.h (by omega) (by omega)).tr (hF2.h (by omega) (by omega))⟩
  · refine z_iconst (v := (-1)) dX1_append_15 (by decide) ?_
    exact z_ireturn dX1_append_16 rfl (by rfl) ⟨by rw [hpApV, if_neg h1], by rw [hpApH, hpApC, if_neg h1, if_neg h1]; exact ⟨ho, hk, hhd, hcl, hn⟩, Fh.rf⟩

def hpB1 (refs : Int32) (k : Nat) : Int32 := if (refs >>> (nI k &&& 31)) &&& 1 = 0 then 0 else -2
def hpB (hd : Nat → Int32) (n : Nat) (refs : Int32) : Nat → Nat → Int32
  | 0 => hd
  | k + 1 => upd (hpB hd n refs k) (n * 4 + k) (hpB1 refs k)
set_option maxRecDepth 100000 in
set_option maxHeartbeats 4000000 in
theorem lp_born {G : xG} {d h n : Nat} {kl hd cl : Nat → Int32} {cls refs : Int32} {Post : xP} (hn30 : n + 1 ≤ 30) : ∀ (m k : Nat) (cs : List va_E), 5 ≤ k + m → k ≤ 4 → Hp G cs h n kl (hpB hd n refs k) cl → (∀ c1 : List va_E, Hp G c1 h (n + 1) kl (hpB hd n refs 4) cl → Fh h cs c1 → Post (some (.int (nI n))) c1) →
    Z (RX1, cX1_born, 4, some .int, false) G d Post 23 [(0, .ref (G.1 + h)), (1, .int cls), (2, .int refs), (3, .int (nI k))] [] cs := by
  intro m
  induction m with
  | zero =>
    intro k cs hm hk0
    exact absurd hm (by omega)
  | succ m ih =>
    intro k cs hm hk0 hh hP
    obtain ⟨ho, hk, hhd, hcl, hn⟩ := hh
    refine z_iload_n dX1_born_23 rfl rfl ?_
    refine z_iconst (v := 4) dX1_born_24 (by decide) ?_
    refine z_icmp_ge (tgt := 61) dX1_born_25 (by decide) (fun h1 => ?_) (fun h1 => ?_)
    · have ek : k = 4 := by
        rcases Nat.lt_or_ge k 4 with q | q
        · exact absurd h1 (show ¬ nI 4 ≤ nI k from nI_ge q (by omega))
        · omega
      subst ek
      refine z_aload_n dX1_born_61 rfl rfl ?_
      refine z_dup dX1_born_62 rfl ?_
      refine z_get kX1 fX1_21 dX1_born_63 ho (by rfl) ?_
      refine z_iconst (v := 1) dX1_born_66 (by decide) ?_
      refine z_iadd dX1_born_67 ?_
      refine z_put kX1 fX1_21 dX1_born_68 rfl ho (by rfl) (by rfl) (Nat.le_of_ble_eq_true rfl) ?_
      refine z_aload_n dX1_born_71 rfl rfl ?_
      refine z_get kX1 fX1_21 dX1_born_72 (set_at ho) (by rfl) ?_
      refine z_iconst (v := 1) dX1_born_75 (by decide) ?_
      refine z_isub dX1_born_76 ?_
      refine z_st (st' := [.int (nI n)]) (by rw [nI_1, nI_pred]) ?_
      refine z_ireturn dX1_born_77 rfl (by rfl) (hP _ ⟨?_, set_ne (by omega) hk, set_ne (by omega) hhd, set_ne (by omega) hcl, hn30⟩ (Fo.h (Fo.set ho (by rfl)) (by omega) (by omega)))
      rw [← nI_1]
      exact set_at ho
    · have hk4 : k < 4 := by
        rcases Nat.lt_or_ge k 4 with q | q
        · exact q
        · exact absurd (show nI 4 ≤ nI k from nI_le q (by omega)) h1
      have hv : vp_in (nI n * 4 + nI k) 120 := by rw [ix_slot]; exact vp_in_nI (by omega) (by omega)
      have hix : (nI n * 4 + nI k).toNatClampNeg = n * 4 + k := by rw [ix_slot]; exact nI_clamp (by omega)
      refine z_aload_n dX1_born_28 rfl rfl ?_
      refine z_get kX1 fX1_15 dX1_born_29 ho (by rfl) ?_
      refine z_aload_n dX1_born_32 rfl rfl ?_
      refine z_get kX1 fX1_21 dX1_born_33 ho (by rfl) ?_
      refine z_iconst (v := 4) dX1_born_36 (by decide) ?_
      refine z_imul dX1_born_37 ?_
      refine z_iload_n dX1_born_38 rfl rfl ?_
      refine z_iadd dX1_born_39 ?_
      refine z_iload_n dX1_born_40 rfl rfl ?_
      refine z_iload_n dX1_born_41 rfl rfl ?_
      refine z_ishr dX1_born_42 ?_
      refine z_iconst (v := 1) dX1_born_43 (by decide) ?_
      refine z_iand dX1_born_44 ?_
      refine z_if_eq (tgt := 53) dX1_born_45 (by decide) (fun h2 => ?_) (fun h2 => ?_)
      · refine z_iconst (v := 0) dX1_born_53 (by decide) ?_
        refine z_iast dX1_born_54 hhd hv ?_
        refine z_iinc (v := nI (k + 1)) dX1_born_55 rfl (show nI k + 1 = _ from nI_1 k) (by decide) ?_
        refine z_goto (tgt := 23) dX1_born_58 (by decide) ?_
        refine ih (k + 1) _ (by omega) (by omega) ⟨set_ne (by omega) ho, set_ne (by omega) hk, ?_, set_ne (by omega) hcl, hn⟩ (fun c1 q1 q2 => hP c1 q1 (Fh.tr (Fo.h (Fo.set hhd (by rfl)) (by omega) (by omega)) q2))
        rw [hix] at *
        first
          | (have e : hpB1 refs k = 0 := by rw [hpB1, if_pos h2]
             show _ = some (Sum.inl (_, _, Sum.inl (upd _ _ (hpB1 refs k))))
             rw [e]
             exact set_at hhd)
          | (have e : hpB1 refs k = -2 := by rw [hpB1, if_neg h2]
             show _ = some (Sum.inl (_, _, Sum.inl (upd _ _ (hpB1 refs k))))
             rw [e]
             exact set_at hhd)
      · refine z_bipush (v := (-2)) dX1_born_48 (by decide) ?_
        refine z_goto (tgt := 54) dX1_born_50 (by decide) ?_
        refine z_iast dX1_born_54 hhd hv ?_
        refine z_iinc (v := nI (k + 1)) dX1_born_55 rfl (show nI k + 1 = _ from nI_1 k) (by decide) ?_
        refine z_goto (tgt := 23) dX1_born_58 (by decide) ?_
        refine ih (k + 1) _ (by omega) (by omega) ⟨set_ne (by omega) ho, set_ne (by omega) hk, ?_, set_ne (by omega) hcl, hn⟩ (fun c1 q1 q2 => hP c1 q1 (Fh.tr (Fo.h (Fo.set hhd (by rfl)) (by omega) (by omega)) q2))
        rw [hix] at *
        first
          | (have e : hpB1 refs k = 0 := by rw [hpB1, if_pos h2]
             show _ = some (Sum.inl (_, _, Sum.inl (upd _ _ (hpB1 refs k))))
             rw [e]
             exact set_at hhd)
          | (have e : hpB1 refs k = -2 := by rw [hpB1, if_neg h2]
             show _ = some (Sum.inl (_, _, Sum.inl (upd _ _ (hpB1 refs k))))
             rw [e]
             exact set_at hhd)
set_option maxRecDepth 100000 in
set_option maxHeartbeats 4000000 in
theorem h_born {G : xG} {cs : List va_E} {h n : Nat} {kl hd cl : Nat → Int32} (d : Nat) (hh : Hp G cs h n kl hd cl) (cls refs : Int32) : X G yX1_born cX1_born 4 (some .int) d [.ref (G.1 + h), .int cls, .int refs] cs (fun r cs1 => (n < 30 ∧ r = some (.int (nI n)) ∧ Hp G cs1 h (n + 1) (upd kl n cls) (hpB hd n refs 4) cl ∧ Fh h cs cs1) ∨ (¬ n < 30 ∧ r = some (.int (-1)) ∧ cs1 = cs)) := by
  refine X.of false (by decide +kernel) (by decide) (Nat.le_of_ble_eq_true rfl) ?_
  show Z (RX1, cX1_born, 4, some .int, false) G d _ 0 [(0, .ref (G.1 + h)), (1, .int cls), (2, .int refs)] [] cs
  obtain ⟨ho, hk, hhd, hcl, hn⟩ := hh
  refine z_aload_n dX1_born_0 rfl rfl ?_
  refine z_get kX1 fX1_21 dX1_born_1 ho (by rfl) ?_
  refine z_bipush (v := 30) dX1_born_4 (by decide) ?_
  refine z_icmp_lt (tgt := 11) dX1_born_6 (by decide) (fun h1 => ?_) (fun h1 => ?_)
  · have hn29 : n < 30 := by
      rcases Nat.lt_or_ge n 30 with q | q
      · exact q
      · exact absurd h1 (show ¬ nI n < nI 30 from nI_nlt q (by omega))
    have hv : vp_in (nI n) 30 := vp_in_nI hn29 (by decide)
    have hix : (nI n).toNatClampNeg = n := nI_clamp (by omega)
    refine z_aload_n dX1_born_11 rfl rfl ?_
    refine z_get kX1 fX1_9 dX1_born_12 ho (by rfl) ?_
    refine z_aload_n dX1_born_15 rfl rfl ?_
    refine z_get kX1 fX1_21 dX1_born_16 ho (by rfl) ?_
    refine z_iload_n dX1_born_19 rfl rfl ?_
    refine z_iast dX1_born_20 hk hv ?_
    refine z_iconst (v := 0) dX1_born_21 (by decide) ?_
    refine z_istore_n dX1_born_22 rfl (by decide) ?_
    rw [hix]
    refine lp_born (hd := hd) (by omega) 5 0 _ (by decide) (by decide) ⟨set_ne (by omega) ho, set_at hk, set_ne (by omega) hhd, set_ne (by omega) hcl, hn⟩ (fun c1 q1 q2 => ?_)
    exact Or.inl ⟨hn29, rfl, q1, Fh.tr (Fo.h (Fo.set hk (by rfl)) (by omega) (by omega)) q2⟩
  · refine z_iconst (v := (-1)) dX1_born_9 (by decide) ?_
    exact z_ireturn dX1_born_10 rfl (by rfl) (Or.inr ⟨fun q => h1 (show nI n < nI 30 from nI_lt q (by decide)), rfl, rfl⟩)

def hpT (cl : Nat → Int32) (s : Nat) (t : List Int32) (fr : Int32) : Nat → Nat → Int32
  | 0 => cl
  | k + 1 => upd (hpT cl s t fr k) (s * 20 + k) (sgAt t (fr + nI k))
theorem jMin_20 (y : Int32) : jMin y 20 ≤ 20 := by
  unfold jMin
  by_cases h : (20 : Int32) < y
  · rw [if_pos h]; decide
  · rw [if_neg h]; exact Int32.not_lt.mp h
theorem clamp_20 {v : Int32} (h : v ≤ 20) : v.toNatClampNeg ≤ 20 := by
  have q := Int32.le_iff_toInt_le.mp h
  have e : (20 : Int32).toInt = 20 := by decide
  show v.toInt.toNat ≤ 20
  omega
theorem clamp_le {v : Int32} {k : Nat} (h : v ≤ nI k) (hk : k < 2 ^ 31) : v.toNatClampNeg ≤ k := by
  have q := Int32.le_iff_toInt_le.mp h
  rw [nI_toInt hk] at q
  show v.toInt.toNat ≤ k
  omega
theorem clamp_lt {v : Int32} {k : Nat} (h : ¬ v ≤ nI k) (hk : k < 2 ^ 31) : k < v.toNatClampNeg := by
  have q := Int32.lt_iff_toInt_lt.mp (Int32.not_le.mp h)
  rw [nI_toInt hk] at q
  show k < v.toInt.toNat
  omega
theorem Sg.kept1 {G : xG} {cs c1 : List va_E} {a r n : Nat} {t : List Int32} {ov : Bool} (h : Sg G cs a r n t ov) (ha : c1[a]? = cs[a]?) (hr : c1[r]? = cs[r]?) : Sg G c1 a r n t ov := by
  obtain ⟨f, q1, q2, q3⟩ := h
  exact ⟨f, ha.trans q1, hr.trans q2, q3⟩
set_option maxRecDepth 100000 in
set_option maxHeartbeats 4000000 in
theorem lp_putText {G : xG} {d h n a r nr s : Nat} {kl hd cl : Nat → Int32} {t : List Int32} {ov : Bool} {x f fr to v : Int32} {Post : xP} (hd1 : 1 ≤ d) (hs : s < 120) (hv : hd s = v) (hv20 : v.toNatClampNeg ≤ 20) (ha : a ≠ h + 3) (hr : r ≠ h + 3) : ∀ (m k : Nat) (cs : List va_E), 21 ≤ k + m → k ≤ v.toNatClampNeg → Sg G cs a r nr t ov → Hp G cs h n kl hd (hpT cl s t fr k) → (∀ c1 : List va_E, Hp G c1 h n kl hd (hpT cl s t fr v.toNatClampNeg) → Fh h cs c1 → Post none c1) →
    Z (RX1, cX1_putText, 8, none, false) G d Post 37 [(0, .ref (G.1 + h)), (1, .int x), (2, .int f), (3, .ref (G.1 + a)), (4, .int fr), (5, .int to), (6, .int (nI s)), (7, .int (nI k))] [] cs := by
  have hvs : vp_in (nI s) 120 := vp_in_nI hs (by decide)
  intro m
  induction m with
  | zero =>
    intro k cs hm hk0
    exact absurd hm (by omega)
  | succ m ih =>
    intro k cs hm hk0 hS hh hP
    obtain ⟨ho, hkk, hhd, hcl, hn⟩ := hh
    refine z_iload dX1_putText_37 rfl ?_
    refine z_bipush (v := 20) dX1_putText_39 (by decide) ?_
    refine z_icmp_ge (tgt := 84) dX1_putText_41 (by decide) (fun h1 => ?_) (fun h1 => ?_)
    · first
        | (have q := (nI_leI (a := 20) (by omega) (by omega)).mp h1; exact z_return dX1_putText_84 rfl (hP _ (by rw [show v.toNatClampNeg = k by omega]; exact ⟨ho, hkk, hhd, hcl, hn⟩) Fh.rf))
        | (have q := clamp_le h2 (by omega); exact z_return dX1_putText_84 rfl (hP _ (by rw [show v.toNatClampNeg = k by omega]; exact ⟨ho, hkk, hhd, hcl, hn⟩) Fh.rf))
    · have hk20 : k < 20 := by
        rcases Nat.lt_or_ge k 20 with q | q
        · exact q
        · exact absurd (show nI 20 ≤ nI k from nI_le q (by omega)) h1
      refine z_iload dX1_putText_44 rfl ?_
      refine z_aload_n dX1_putText_46 rfl rfl ?_
      refine z_get kX1 fX1_15 dX1_putText_47 ho (by rfl) ?_
      refine z_iload dX1_putText_50 rfl ?_
      refine z_iald dX1_putText_52 hhd hvs ?_
      refine z_st (st' := [.int v, .int (nI k)]) (by rw [nI_clamp (by omega), hv]) ?_
      refine z_icmp_ge (tgt := 84) dX1_putText_53 (by decide) (fun h2 => ?_) (fun h2 => ?_)
      · first
          | (have q := (nI_leI (a := 20) (by omega) (by omega)).mp h1; exact z_return dX1_putText_84 rfl (hP _ (by rw [show v.toNatClampNeg = k by omega]; exact ⟨ho, hkk, hhd, hcl, hn⟩) Fh.rf))
          | (have q := clamp_le h2 (by omega); exact z_return dX1_putText_84 rfl (hP _ (by rw [show v.toNatClampNeg = k by omega]; exact ⟨ho, hkk, hhd, hcl, hn⟩) Fh.rf))
      · have hkv : k < v.toNatClampNeg := clamp_lt h2 (by omega)
        have hvc : vp_in (nI s * 20 + nI k) 2400 := by rw [show (20 : Int32) = nI 20 from rfl, pk_mul, nI_add]; exact vp_in_nI (by omega) (by omega)
        have hix : (nI s * 20 + nI k).toNatClampNeg = s * 20 + k := by rw [show (20 : Int32) = nI 20 from rfl, pk_mul, nI_add]; exact nI_clamp (by omega)
        refine z_aload_n dX1_putText_56 rfl rfl ?_
        refine z_get kX1 fX1_18 dX1_putText_57 ho (by rfl) ?_
        refine z_iload dX1_putText_60 rfl ?_
        refine z_bipush (v := 20) dX1_putText_62 (by decide) ?_
        refine z_imul dX1_putText_64 ?_
        refine z_iload dX1_putText_65 rfl ?_
        refine z_iadd dX1_putText_67 ?_
        refine z_aload_n dX1_putText_68 rfl rfl ?_
        refine z_iload dX1_putText_69 rfl ?_
        refine z_iload dX1_putText_71 rfl ?_
        refine z_iadd dX1_putText_73 ?_
        refine z_callV (As := [_]) eX5_at sX5_at lX1_54 rfl dX1_putText_74 hS.choose_spec.1 (c_X5_at 0 hS _) (by omega) rfl (Nat.le_of_ble_eq_true rfl) (fun r cs1 hp => ?_)
        obtain ⟨rfl, e1⟩ := hp
        rw [e1]
        refine z_st (st' := [.int (sgAt t (fr + nI k)), .int (nI s * 20 + nI k), .ref (G.1 + (h + 3))]) rfl ?_
        refine z_iast dX1_putText_77 hcl hvc ?_
        refine z_iinc (v := nI (k + 1)) dX1_putText_78 rfl (show nI k + 1 = _ from nI_1 k) (by decide) ?_
        refine z_goto (tgt := 37) dX1_putText_81 (by decide) ?_
        rw [hix]
        refine ih (k + 1) _ (by omega) (by omega) (hS.kept1 (List.getElem?_set_ne (by omega)) (List.getElem?_set_ne (by omega))) ⟨set_ne (by omega) ho, set_ne (by omega) hkk, set_ne (by omega) hhd, set_at hcl, hn⟩ (fun c1 q1 q2 => hP c1 q1 (Fh.tr (Fo.h (Fo.set hcl (by rfl)) (by omega) (by omega)) q2))
def hpTxH (n : Nat) (hd : Nat → Int32) (x f fr to : Int32) : Nat → Int32 := if hpF n x f = true then upd hd (x * 4 + f).toNatClampNeg (jMin (to - fr) 20) else hd
def hpTxC (n : Nat) (cl : Nat → Int32) (x f fr to : Int32) (t : List Int32) : Nat → Int32 := if hpF n x f = true then hpT cl (x * 4 + f).toNatClampNeg t fr (jMin (to - fr) 20).toNatClampNeg else cl
set_option maxRecDepth 100000 in
set_option maxHeartbeats 4000000 in
theorem h_putText {G : xG} {cs : List va_E} {h n : Nat} {kl hd cl : Nat → Int32} (d : Nat) {a r nr : Nat} {t : List Int32} {ov : Bool} (hd1 : 1 ≤ d) (hh : Hp G cs h n kl hd cl) (hS : Sg G cs a r nr t ov) (ha2 : a ≠ h + 2) (hr2 : r ≠ h + 2) (ha3 : a ≠ h + 3) (hr3 : r ≠ h + 3) (x f fr to : Int32) : X G yX1_putText cX1_putText 8 none d [.ref (G.1 + h), .int x, .int f, .ref (G.1 + a), .int fr, .int to] cs (fun r cs1 => r = none ∧ Hp G cs1 h n kl (hpTxH n hd x f fr to) (hpTxC n cl x f fr to t) ∧ Fh h cs cs1) := by
  refine X.of false (by decide +kernel) (by decide) (Nat.le_of_ble_eq_true rfl) ?_
  show Z (RX1, cX1_putText, 8, none, false) G d _ 0 [(0, .ref (G.1 + h)), (1, .int x), (2, .int f), (3, .ref (G.1 + a)), (4, .int fr), (5, .int to)] [] cs
  obtain ⟨ho, hk, hhd, hcl, hn⟩ := hh
  refine z_aload_n dX1_putText_0 rfl rfl ?_
  refine z_iload_n dX1_putText_1 rfl rfl ?_
  refine z_iload_n dX1_putText_2 rfl rfl ?_
  refine z_callV (As := [_, _]) eX1_hasField sX1_hasField lX1_29 rfl dX1_putText_3 ho (h_hasField 0 ⟨ho, hk, hhd, hcl, hn⟩ _ _) (by omega) rfl (Nat.le_of_ble_eq_true rfl) (fun r cs1 hp => ?_)
  obtain ⟨rfl, e1⟩ := hp
  rw [e1]
  refine z_st (st' := [.int (bI (hpF n x f))]) rfl ?_
  refine z_if_ne (tgt := 10) dX1_putText_6 (by decide) (fun h1 => ?_) (fun h1 => ?_)
  · obtain ⟨j, k, hj, hk4, rfl, rfl⟩ := hpF_in (bI_n h1) hn
    have hv : vp_in (nI (j * 4 + k)) 120 := vp_in_nI (by omega) (by omega)
    have hix : (nI (j * 4 + k)).toNatClampNeg = j * 4 + k := nI_clamp (by omega)
    refine z_iload_n dX1_putText_10 rfl rfl ?_
    refine z_iconst (v := 4) dX1_putText_11 (by decide) ?_
    refine z_imul dX1_putText_12 ?_
    refine z_iload_n dX1_putText_13 rfl rfl ?_
    refine z_iadd dX1_putText_14 ?_
    refine z_st (st' := [.int (nI (j * 4 + k))]) (by rw [ix_slot]) ?_
    refine z_istore dX1_putText_15 (by decide) ?_
    refine z_aload_n dX1_putText_17 rfl rfl ?_
    refine z_get kX1 fX1_15 dX1_putText_18 ho (by rfl) ?_
    refine z_iload dX1_putText_21 rfl ?_
    refine z_iload dX1_putText_23 rfl ?_
    refine z_iload dX1_putText_25 rfl ?_
    refine z_isub dX1_putText_27 ?_
    refine z_bipush (v := 20) dX1_putText_28 (by decide) ?_
    refine z_mmin lX1_49 sJ9_min_7cf53 bJ9 dX1_putText_30 (by omega) (Nat.le_of_ble_eq_true rfl) ?_
    refine z_iast dX1_putText_33 hhd hv ?_
    refine z_iconst (v := 0) dX1_putText_34 (by decide) ?_
    refine z_istore dX1_putText_35 (by decide) ?_
    rw [hix]
    refine lp_putText (v := jMin (to - fr) 20) (hd := upd hd (j * 4 + k) (jMin (to - fr) 20)) (cl := cl) (by omega) (by omega) (by simp [upd]) (clamp_20 (jMin_20 _)) ha3 hr3 21 0 _ (by decide) (Nat.zero_le _) (hS.kept1 (List.getElem?_set_ne (by omega)) (List.getElem?_set_ne (by omega))) ⟨set_ne (by omega) ho, set_ne (by omega) hk, set_at hhd, set_ne (by omega) hcl, hn⟩ (fun c1 q1 q2 => ⟨rfl, ?_, Fh.tr (Fo.h (Fo.set hhd (by rfl)) (by omega) (by omega)) q2⟩)
    rw [hpTxH, hpTxC, if_pos (bI_n h1), if_pos (bI_n h1), ix_slot, hix]
    exact q1
  · exact z_return dX1_putText_9 rfl ⟨rfl, by rw [hpTxH, hpTxC, if_neg (by rw [bI_0 h1]; decide), if_neg (by rw [bI_0 h1]; decide)]; exact ⟨ho, hk, hhd, hcl, hn⟩, Fh.rf⟩

