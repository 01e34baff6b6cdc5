/-! HEAP -/
def Hp (G : xG) (cs : List va_E) (h n : Nat) (kl hd cl : Nat → Int32) : Prop := cs[h]? = some (.inr (1, [.ref (G.1 + (h + 1)), .ref (G.1 + (h + 2)), .ref (G.1 + (h + 3)), .int (nI n)])) ∧ cs[h + 1]? = some (.inl (G.2.2.1 0, 30, .inl kl)) ∧ cs[h + 2]? = some (.inl (G.2.2.1 0, 120, .inl hd)) ∧ cs[h + 3]? = some (.inl (G.2.2.1 0, 2400, .inl cl)) ∧ n ≤ 30
def hpF (n : Nat) (x f : Int32) : Bool := if x < 0 then false else if nI n ≤ x then false else if f < 0 then false else if 4 ≤ f then false else true
def hpHas (n : Nat) (x : Int32) : Bool := if x < 0 then false else if nI n ≤ x then false else true
theorem hpHas_in {n : Nat} {x : Int32} (h : hpHas n x = true) (hn : n ≤ 30) : ∃ j : Nat, j < n ∧ x = nI j := by
  unfold hpHas at h
  by_cases h1 : x < 0
  · simp [h1] at h
  · by_cases h2 : nI n ≤ x
    · simp [h1, h2] at h
    · exact vp_in_of (vin_lt h1 h2 (Nat.le_refl _) (by omega)) (by omega)
theorem hpF_in {n : Nat} {x f : Int32} (h : hpF n x f = true) (hn : n ≤ 30) : ∃ j k : Nat, j < n ∧ k < 4 ∧ x = nI j ∧ f = nI k := by
  unfold hpF at h
  by_cases h1 : x < 0
  · simp [h1] at h
  · by_cases h2 : nI n ≤ x
    · simp [h1, h2] at h
    · by_cases h3 : f < 0
      · simp [h1, h2, h3] at h
      · by_cases h4 : 4 ≤ f
        · simp [h1, h2, h3, h4] at h
        · obtain ⟨j, q1, q2⟩ := vp_in_of (vin_lt h1 h2 (Nat.le_refl _) (by omega)) (by omega)
          obtain ⟨k, q3, q4⟩ := vp_in_of (vin_lt (k := 4) (n := 4) h3 h4 (Nat.le_refl _) (by omega)) (by omega)
          exact ⟨j, k, q1, q3, q2, q4⟩
theorem ix_slot (j k : Nat) : nI j * 4 + nI k = nI (j * 4 + k) := by
  rw [show (4 : Int32) = nI 4 from rfl, pk_mul, nI_add]
set_option maxRecDepth 100000 in
set_option maxHeartbeats 4000000 in
theorem h_has {G : xG} {cs : List va_E} {h n : Nat} {kl hd cl : Nat → Int32} (d : Nat) (hh : Hp G cs h n kl hd cl) (x : Int32) : X G yX1_has cX1_has 2 (some .boolean) d [.ref (G.1 + h), .int x] cs (fun r cs1 => r = some (.int (bI (hpHas n x))) ∧ cs1 = cs) := by
  refine X.of false (by decide +kernel) (by decide) (Nat.le_of_ble_eq_true rfl) ?_
  show Z (RX1, cX1_has, 2, some .boolean, false) G d _ 0 [(0, .ref (G.1 + h)), (1, .int x)] [] cs
  obtain ⟨ho, hk, hhd, hcl, hn⟩ := hh
  refine z_iload_n dX1_has_0 rfl rfl ?_
  refine z_if_lt (tgt := 16) dX1_has_1 (by decide) (fun h1 => ?_) (fun h1 => ?_)
  · refine z_iconst (v := 0) dX1_has_16 (by decide) ?_
    exact z_ireturn dX1_has_17 rfl (by decide) ⟨by simp [hpHas, bI, *], rfl⟩
  · refine z_iload_n dX1_has_4 rfl rfl ?_
    refine z_aload_n dX1_has_5 rfl rfl ?_
    refine z_get kX1 fX1_21 dX1_has_6 ho (by rfl) ?_
    refine z_icmp_ge (tgt := 16) dX1_has_9 (by decide) (fun h2 => ?_) (fun h2 => ?_)
    · refine z_iconst (v := 0) dX1_has_16 (by decide) ?_
      exact z_ireturn dX1_has_17 rfl (by decide) ⟨by simp [hpHas, bI, *], rfl⟩
    · refine z_iconst (v := 1) dX1_has_12 (by decide) ?_
      refine z_goto (tgt := 17) dX1_has_13 (by decide) ?_
      exact z_ireturn dX1_has_17 rfl (by decide) ⟨by simp [hpHas, bI, *], rfl⟩

set_option maxRecDepth 100000 in
set_option maxHeartbeats 4000000 in
theorem h_hasField {G : xG} {cs : List va_E} {h n : Nat} {kl hd cl : Nat → Int32} (d : Nat) (hh : Hp G cs h n kl hd cl) (x f : Int32) : X G yX1_hasField cX1_hasField 3 (some .boolean) d [.ref (G.1 + h), .int x, .int f] cs (fun r cs1 => r = some (.int (bI (hpF n x f))) ∧ cs1 = cs) := by
  refine X.of false (by decide +kernel) (by decide) (Nat.le_of_ble_eq_true rfl) ?_
  show Z (RX1, cX1_hasField, 3, some .boolean, false) G d _ 0 [(0, .ref (G.1 + h)), (1, .int x), (2, .int f)] [] cs
  obtain ⟨ho, hk, hhd, hcl, hn⟩ := hh
  refine z_iload_n dX1_hasField_0 rfl rfl ?_
  refine z_if_lt (tgt := 25) dX1_hasField_1 (by decide) (fun h1 => ?_) (fun h1 => ?_)
  · refine z_iconst (v := 0) dX1_hasField_25 (by decide) ?_
    exact z_ireturn dX1_hasField_26 rfl (by decide) ⟨by simp [hpF, bI, *], rfl⟩
  · refine z_iload_n dX1_hasField_4 rfl rfl ?_
    refine z_aload_n dX1_hasField_5 rfl rfl ?_
    refine z_get kX1 fX1_21 dX1_hasField_6 ho (by rfl) ?_
    refine z_icmp_ge (tgt := 25) dX1_hasField_9 (by decide) (fun h2 => ?_) (fun h2 => ?_)
    · refine z_iconst (v := 0) dX1_hasField_25 (by decide) ?_
      exact z_ireturn dX1_hasField_26 rfl (by decide) ⟨by simp [hpF, bI, *], rfl⟩
    · refine z_iload_n dX1_hasField_12 rfl rfl ?_
      refine z_if_lt (tgt := 25) dX1_hasField_13 (by decide) (fun h3 => ?_) (fun h3 => ?_)
      · refine z_iconst (v := 0) dX1_hasField_25 (by decide) ?_
        exact z_ireturn dX1_hasField_26 rfl (by decide) ⟨by simp [hpF, bI, *], rfl⟩
      · refine z_iload_n dX1_hasField_16 rfl rfl ?_
        refine z_iconst (v := 4) dX1_hasField_17 (by decide) ?_
        refine z_icmp_ge (tgt := 25) dX1_hasField_18 (by decide) (fun h4 => ?_) (fun h4 => ?_)
        · refine z_iconst (v := 0) dX1_hasField_25 (by decide) ?_
          exact z_ireturn dX1_hasField_26 rfl (by decide) ⟨by simp [hpF, bI, *], rfl⟩
        · refine z_iconst (v := 1) dX1_hasField_21 (by decide) ?_
          refine z_goto (tgt := 26) dX1_hasField_22 (by decide) ?_
          exact z_ireturn dX1_hasField_26 rfl (by decide) ⟨by simp [hpF, bI, *], rfl⟩

def hpClass (n : Nat) (kl : Nat → Int32) (x : Int32) : Int32 := if hpHas n x = true then kl x.toNatClampNeg else -1
set_option maxRecDepth 100000 in
set_option maxHeartbeats 4000000 in
theorem h_classOf {G : xG} {cs : List va_E} {h n : Nat} {kl hd cl : Nat → Int32} (d : Nat) (hd1 : 1 ≤ d) (hh : Hp G cs h n kl hd cl) (x : Int32) : X G yX1_classOf cX1_classOf 2 (some .int) d [.ref (G.1 + h), .int x] cs (fun r cs1 => r = some (.int (hpClass n kl x)) ∧ cs1 = cs) := by
  refine X.of false (by decide +kernel) (by decide) (Nat.le_of_ble_eq_true rfl) ?_
  show Z (RX1, cX1_classOf, 2, some .int, false) G d _ 0 [(0, .ref (G.1 + h)), (1, .int x)] [] cs
  obtain ⟨ho, hk, hhd, hcl, hn⟩ := hh
  refine z_aload_n dX1_classOf_0 rfl rfl ?_
  refine z_iload_n dX1_classOf_1 rfl rfl ?_
  refine z_callV (As := [_]) eX1_has sX1_has lX1_25 rfl dX1_classOf_2 ho (h_has 0 ⟨ho, hk, hhd, hcl, hn⟩ _) (by omega) rfl (Nat.le_of_ble_eq_true rfl) (fun r cs1 hp => ?_)
  obtain ⟨rfl, e1⟩ := hp
  rw [e1]
  refine z_st (st' := [.int (bI (hpHas n x))]) rfl ?_
  refine z_if_eq (tgt := 17) dX1_classOf_5 (by decide) (fun h1 => ?_) (fun h1 => ?_)
  · refine z_iconst (v := (-1)) dX1_classOf_17 (by decide) ?_
    exact z_ireturn dX1_classOf_18 rfl (by rfl) ⟨by first | (rw [hpClass, if_pos (bI_n h1)]) | (rw [hpClass, if_neg (by rw [bI_0 h1]; decide)]), rfl⟩
  · have q := bI_n h1
    obtain ⟨j, hj, ej⟩ := hpHas_in q hn
    have hv : vp_in x 30 := by rw [ej]; exact vp_in_nI (by omega) (by omega)
    refine z_aload_n dX1_classOf_8 rfl rfl ?_
    refine z_get kX1 fX1_9 dX1_classOf_9 ho (by rfl) ?_
    refine z_iload_n dX1_classOf_12 rfl rfl ?_
    refine z_iald dX1_classOf_13 hk hv ?_
    refine z_goto (tgt := 18) dX1_classOf_14 (by decide) ?_
    exact z_ireturn dX1_classOf_18 rfl (by rfl) ⟨by first | (rw [hpClass, if_pos (bI_n h1)]) | (rw [hpClass, if_neg (by rw [bI_0 h1]; decide)]), rfl⟩

def hpHead (n : Nat) (hd : Nat → Int32) (x f : Int32) : Int32 := if hpF n x f = true then hd (x * 4 + f).toNatClampNeg else 0
set_option maxRecDepth 100000 in
set_option maxHeartbeats 4000000 in
theorem h_head {G : xG} {cs : List va_E} {h n : Nat} {kl hd cl : Nat → Int32} (d : Nat) (hd1 : 1 ≤ d) (hh : Hp G cs h n kl hd cl) (x f : Int32) : X G yX1_head cX1_head 3 (some .int) d [.ref (G.1 + h), .int x, .int f] cs (fun r cs1 => r = some (.int (hpHead n hd x f)) ∧ cs1 = cs) := by
  refine X.of false (by decide +kernel) (by decide) (Nat.le_of_ble_eq_true rfl) ?_
  show Z (RX1, cX1_head, 3, some .int, false) G d _ 0 [(0, .ref (G.1 + h)), (1, .int x), (2, .int f)] [] cs
  obtain ⟨ho, hk, hhd, hcl, hn⟩ := hh
  refine z_aload_n dX1_head_0 rfl rfl ?_
  refine z_iload_n dX1_head_1 rfl rfl ?_
  refine z_iload_n dX1_head_2 rfl rfl ?_
  refine z_callV (As := [_, _]) eX1_hasField sX1_hasField lX1_29 rfl dX1_head_3 ho (h_hasField 0 ⟨ho, hk, hhd, hcl, hn⟩ _ _) (by omega) rfl (Nat.le_of_ble_eq_true rfl) (fun r cs1 hp => ?_)
  obtain ⟨rfl, e1⟩ := hp
  rw [e1]
  refine z_st (st' := [.int (bI (hpF n x f))]) rfl ?_
  refine z_if_eq (tgt := 22) dX1_head_6 (by decide) (fun h1 => ?_) (fun h1 => ?_)
  · refine z_iconst (v := 0) dX1_head_22 (by decide) ?_
    exact z_ireturn dX1_head_23 rfl (by rfl) ⟨by first | (rw [hpHead, if_pos (bI_n h1)]) | (rw [hpHead, if_neg (by rw [bI_0 h1]; decide)]), rfl⟩
  · have q := bI_n h1
    obtain ⟨j, k, hj, hk4, ej, ek⟩ := hpF_in q hn
    have hv : vp_in (x * 4 + f) 120 := by rw [ej, ek, ix_slot]; exact vp_in_nI (by omega) (by omega)
    refine z_aload_n dX1_head_9 rfl rfl ?_
    refine z_get kX1 fX1_15 dX1_head_10 ho (by rfl) ?_
    refine z_iload_n dX1_head_13 rfl rfl ?_
    refine z_iconst (v := 4) dX1_head_14 (by decide) ?_
    refine z_imul dX1_head_15 ?_
    refine z_iload_n dX1_head_16 rfl rfl ?_
    refine z_iadd dX1_head_17 ?_
    refine z_iald dX1_head_18 hhd hv ?_
    refine z_goto (tgt := 23) dX1_head_19 (by decide) ?_
    exact z_ireturn dX1_head_23 rfl (by rfl) ⟨by first | (rw [hpHead, if_pos (bI_n h1)]) | (rw [hpHead, if_neg (by rw [bI_0 h1]; decide)]), rfl⟩

/-- one cell is another one, all else is as it was -/
def Fo (p : Nat) (cs c1 : List va_E) : Prop := c1.length = cs.length ∧ xZ c1 = xZ cs ∧ ∀ k, k ≠ p → c1[k]? = cs[k]?
theorem Fo.rf {p : Nat} {cs : List va_E} : Fo p cs cs := ⟨rfl, rfl, fun _ _ => rfl⟩
theorem Fo.set {p : Nat} {cs : List va_E} {e0 e : va_E} (h : cs[p]? = some e0) (hz : xSzE e = xSzE e0) : Fo p cs (cs.set p e) := ⟨by simp, xZ_set h hz, fun k hk => List.getElem?_set_ne (Ne.symm hk)⟩
def hpPut (n : Nat) (hd : Nat → Int32) (x f v : Int32) : Nat → Int32 := if hpF n x f = true then upd hd (x * 4 + f).toNatClampNeg v else hd
set_option maxRecDepth 100000 in
set_option maxHeartbeats 4000000 in
theorem h_putHead {G : xG} {cs : List va_E} {h n : Nat} {kl hd cl : Nat → Int32} (d : Nat) (hd1 : 1 ≤ d) (hh : Hp G cs h n kl hd cl) (x f v : Int32) : X G yX1_putHead cX1_putHead 4 none d [.ref (G.1 + h), .int x, .int f, .int v] cs (fun r cs1 => r = none ∧ Hp G cs1 h n kl (hpPut n hd x f v) cl ∧ Fo (h + 2) cs cs1) := by
  refine X.of false (by decide +kernel) (by decide) (Nat.le_of_ble_eq_true rfl) ?_
  show Z (RX1, cX1_putHead, 4, none, false) G d _ 0 [(0, .ref (G.1 + h)), (1, .int x), (2, .int f), (3, .int v)] [] cs
  obtain ⟨ho, hk, hhd, hcl, hn⟩ := hh
  refine z_aload_n dX1_putHead_0 rfl rfl ?_
  refine z_iload_n dX1_putHead_1 rfl rfl ?_
  refine z_iload_n dX1_putHead_2 rfl rfl ?_
  refine z_callV (As := [_, _]) eX1_hasField sX1_hasField lX1_29 rfl dX1_putHead_3 ho (h_hasField 0 ⟨ho, hk, hhd, hcl, hn⟩ _ _) (by omega) rfl (Nat.le_of_ble_eq_true rfl) (fun r cs1 hp => ?_)
  obtain ⟨rfl, e1⟩ := hp
  rw [e1]
  refine z_st (st' := [.int (bI (hpF n x f))]) rfl ?_
  refine z_if_eq (tgt := 20) dX1_putHead_6 (by decide) (fun h1 => ?_) (fun h1 => ?_)
  · first
      | exact z_return dX1_putHead_20 rfl ⟨rfl, ⟨ho, hk, by rw [hpPut, if_neg (by rw [bI_0 h1]; decide)]; exact hhd, hcl, hn⟩, Fo.rf⟩
      | exact z_return dX1_putHead_20 rfl ⟨rfl, ⟨set_ne (by omega) ho, set_ne (by omega) hk, by rw [hpPut, if_pos (bI_n h1)]; exact set_at hhd, set_ne (by omega) hcl, hn⟩, Fo.set hhd rfl⟩
  · have q := bI_n h1
    obtain ⟨j, k, hj, hk4, ej, ek⟩ := hpF_in q hn
    have hv : vp_in (x * 4 + f) 120 := by rw [ej, ek, ix_slot]; exact vp_in_nI (by omega) (by omega)
    refine z_aload_n dX1_putHead_9 rfl rfl ?_
    refine z_get kX1 fX1_15 dX1_putHead_10 ho (by rfl) ?_
    refine z_iload_n dX1_putHead_13 rfl rfl ?_
    refine z_iconst (v := 4) dX1_putHead_14 (by decide) ?_
    refine z_imul dX1_putHead_15 ?_
    refine z_iload_n dX1_putHead_16 rfl rfl ?_
    refine z_iadd dX1_putHead_17 ?_
    refine z_iload_n dX1_putHead_18 rfl rfl ?_
    refine z_iast dX1_putHead_19 hhd hv ?_
    first
      | exact z_return dX1_putHead_20 rfl ⟨rfl, ⟨ho, hk, by rw [hpPut, if_neg (by rw [bI_0 h1]; decide)]; exact hhd, hcl, hn⟩, Fo.rf⟩
      | exact z_return dX1_putHead_20 rfl ⟨rfl, ⟨set_ne (by omega) ho, set_ne (by omega) hk, by rw [hpPut, if_pos (bI_n h1)]; exact set_at hhd, set_ne (by omega) hcl, hn⟩, Fo.set hhd rfl⟩

def hpC (n : Nat) (hd : Nat → Int32) (x f i : Int32) : Bool := if x < 0 then false else if nI n ≤ x then false else if f < 0 then false else if 4 ≤ f then false else if i < 0 then false else if 20 ≤ i then false else if hd (x * 4 + f).toNatClampNeg ≤ i then false else true
theorem hpC_F {n : Nat} {hd : Nat → Int32} {x f i : Int32} (h : hpC n hd x f i = true) : hpF n x f = true ∧ vp_in i 20 := by
  unfold hpC at h
  by_cases h1 : x < 0
  · simp [h1] at h
  · by_cases h2 : nI n ≤ x
    · simp [h1, h2] at h
    · by_cases h3 : f < 0
      · simp [h1, h2, h3] at h
      · by_cases h4 : 4 ≤ f
        · simp [h1, h2, h3, h4] at h
        · by_cases h5 : i < 0
          · simp [h1, h2, h3, h4, h5] at h
          · by_cases h6 : 20 ≤ i
            · simp [h1, h2, h3, h4, h5, h6] at h
            · exact ⟨by simp [hpF, h1, h2, h3, h4], vin_lt (k := 20) h5 h6 (Nat.le_refl _) (by omega)⟩
theorem ix_cell (j k i : Nat) : (nI j * 4 + nI k) * 20 + nI i = nI ((j * 4 + k) * 20 + i) := by
  rw [ix_slot, show (20 : Int32) = nI 20 from rfl, pk_mul, nI_add]
set_option maxRecDepth 100000 in
set_option maxHeartbeats 4000000 in
theorem h_hasCell {G : xG} {cs : List va_E} {h n : Nat} {kl hd cl : Nat → Int32} (d : Nat) (hh : Hp G cs h n kl hd cl) (x f i : Int32) : X G yX1_hasCell cX1_hasCell 4 (some .boolean) d [.ref (G.1 + h), .int x, .int f, .int i] cs (fun r cs1 => r = some (.int (bI (hpC n hd x f i))) ∧ cs1 = cs) := by
  refine X.of false (by decide +kernel) (by decide) (Nat.le_of_ble_eq_true rfl) ?_
  show Z (RX1, cX1_hasCell, 4, some .boolean, false) G d _ 0 [(0, .ref (G.1 + h)), (1, .int x), (2, .int f), (3, .int i)] [] cs
  obtain ⟨ho, hk, hhd, hcl, hn⟩ := hh
  refine z_iload_n dX1_hasCell_0 rfl rfl ?_
  refine z_if_lt (tgt := 49) dX1_hasCell_1 (by decide) (fun h1 => ?_) (fun h1 => ?_)
  · refine z_iconst (v := 0) dX1_hasCell_49 (by decide) ?_
    exact z_ireturn dX1_hasCell_50 rfl (by decide) ⟨by simp [hpC, bI, *], rfl⟩
  · refine z_iload_n dX1_hasCell_4 rfl rfl ?_
    refine z_aload_n dX1_hasCell_5 rfl rfl ?_
    refine z_get kX1 fX1_21 dX1_hasCell_6 ho (by rfl) ?_
    refine z_icmp_ge (tgt := 49) dX1_hasCell_9 (by decide) (fun h2 => ?_) (fun h2 => ?_)
    · refine z_iconst (v := 0) dX1_hasCell_49 (by decide) ?_
      exact z_ireturn dX1_hasCell_50 rfl (by decide) ⟨by simp [hpC, bI, *], rfl⟩
    · refine z_iload_n dX1_hasCell_12 rfl rfl ?_
      refine z_if_lt (tgt := 49) dX1_hasCell_13 (by decide) (fun h3 => ?_) (fun h3 => ?_)
      · refine z_iconst (v := 0) dX1_hasCell_49 (by decide) ?_
        exact z_ireturn dX1_hasCell_50 rfl (by decide) ⟨by simp [hpC, bI, *], rfl⟩
      · refine z_iload_n dX1_hasCell_16 rfl rfl ?_
        refine z_iconst (v := 4) dX1_hasCell_17 (by decide) ?_
        refine z_icmp_ge (tgt := 49) dX1_hasCell_18 (by decide) (fun h4 => ?_) (fun h4 => ?_)
        · refine z_iconst (v := 0) dX1_hasCell_49 (by decide) ?_
          exact z_ireturn dX1_hasCell_50 rfl (by decide) ⟨by simp [hpC, bI, *], rfl⟩
        · refine z_iload_n dX1_hasCell_21 rfl rfl ?_
          refine z_if_lt (tgt := 49) dX1_hasCell_22 (by decide) (fun h5 => ?_) (fun h5 => ?_)
          · refine z_iconst (v := 0) dX1_hasCell_49 (by decide) ?_
            exact z_ireturn dX1_hasCell_50 rfl (by decide) ⟨by simp [hpC, bI, *], rfl⟩
          · refine z_iload_n dX1_hasCell_25 rfl rfl ?_
            refine z_bipush (v := 20) dX1_hasCell_26 (by decide) ?_
            refine z_icmp_ge (tgt := 49) dX1_hasCell_28 (by decide) (fun h6 => ?_) (fun h6 => ?_)
            · refine z_iconst (v := 0) dX1_hasCell_49 (by decide) ?_
              exact z_ireturn dX1_hasCell_50 rfl (by decide) ⟨by simp [hpC, bI, *], rfl⟩
            · have hv : vp_in (x * 4 + f) 120 := by
                have q : hpF n x f = true := by simp [hpF, *]
                obtain ⟨j, k, hj, hk4, ej, ek⟩ := hpF_in q hn
                rw [ej, ek, ix_slot]
                exact vp_in_nI (by omega) (by omega)
              refine z_iload_n dX1_hasCell_31 rfl rfl ?_
              refine z_aload_n dX1_hasCell_32 rfl rfl ?_
              refine z_get kX1 fX1_15 dX1_hasCell_33 ho (by rfl) ?_
              refine z_iload_n dX1_hasCell_36 rfl rfl ?_
              refine z_iconst (v := 4) dX1_hasCell_37 (by decide) ?_
              refine z_imul dX1_hasCell_38 ?_
              refine z_iload_n dX1_hasCell_39 rfl rfl ?_
              refine z_iadd dX1_hasCell_40 ?_
              refine z_iald dX1_hasCell_41 hhd hv ?_
              refine z_icmp_ge (tgt := 49) dX1_hasCell_42 (by decide) (fun h7 => ?_) (fun h7 => ?_)
              · refine z_iconst (v := 0) dX1_hasCell_49 (by decide) ?_
                exact z_ireturn dX1_hasCell_50 rfl (by decide) ⟨by simp [hpC, bI, *], rfl⟩
              · refine z_iconst (v := 1) dX1_hasCell_45 (by decide) ?_
                refine z_goto (tgt := 50) dX1_hasCell_46 (by decide) ?_
                exact z_ireturn dX1_hasCell_50 rfl (by decide) ⟨by simp [hpC, bI, *], rfl⟩

def hpCell (n : Nat) (hd cl : Nat → Int32) (x f i : Int32) : Int32 := if hpC n hd x f i = true then cl ((x * 4 + f) * 20 + i).toNatClampNeg else -2
set_option maxRecDepth 100000 in
set_option maxHeartbeats 4000000 in
theorem h_cell {G : xG} {cs : List va_E} {h n : Nat} {kl hd cl : Nat → Int32} (d : Nat) (hd1 : 1 ≤ d) (hh : Hp G cs h n kl hd cl) (x f i : Int32) : X G yX1_cell cX1_cell 4 (some .int) d [.ref (G.1 + h), .int x, .int f, .int i] cs (fun r cs1 => r = some (.int (hpCell n hd cl x f i)) ∧ cs1 = cs) := by
  refine X.of false (by decide +kernel) (by decide) (Nat.le_of_ble_eq_true rfl) ?_
  show Z (RX1, cX1_cell, 4, some .int, false) G d _ 0 [(0, .ref (G.1 + h)), (1, .int x), (2, .int f), (3, .int i)] [] cs
  obtain ⟨ho, hk, hhd, hcl, hn⟩ := hh
  refine z_aload_n dX1_cell_0 rfl rfl ?_
  refine z_iload_n dX1_cell_1 rfl rfl ?_
  refine z_iload_n dX1_cell_2 rfl rfl ?_
  refine z_iload_n dX1_cell_3 rfl rfl ?_
  refine z_callV (As := [_, _, _]) eX1_hasCell sX1_hasCell lX1_33 rfl dX1_cell_4 ho (h_hasCell 0 ⟨ho, hk, hhd, hcl, hn⟩ _ _ _) (by omega) rfl (Nat.le_of_ble_eq_true rfl) (fun r cs1 hp => ?_)
  obtain ⟨rfl, e1⟩ := hp
  rw [e1]
  refine z_st (st' := [.int (bI (hpC n hd x f i))]) rfl ?_
  refine z_if_eq (tgt := 28) dX1_cell_7 (by decide) (fun h1 => ?_) (fun h1 => ?_)
  · refine z_bipush (v := (-2)) dX1_cell_28 (by decide) ?_
    exact z_ireturn dX1_cell_30 rfl (by rfl) ⟨by first | (rw [hpCell, if_pos (bI_n h1)]) | (rw [hpCell, if_neg (by rw [bI_0 h1]; decide)]), rfl⟩
  · obtain ⟨q, qi⟩ := hpC_F (bI_n h1)
    obtain ⟨j, k, hj, hk4, ej, ek⟩ := hpF_in q hn
    obtain ⟨i0, hi0, ei⟩ := vp_in_of qi (by decide)
    have hv : vp_in ((x * 4 + f) * 20 + i) 2400 := by rw [ej, ek, ei, ix_cell]; exact vp_in_nI (by omega) (by omega)
    refine z_aload_n dX1_cell_10 rfl rfl ?_
    refine z_get kX1 fX1_18 dX1_cell_11 ho (by rfl) ?_
    refine z_iload_n dX1_cell_14 rfl rfl ?_
    refine z_iconst (v := 4) dX1_cell_15 (by decide) ?_
    refine z_imul dX1_cell_16 ?_
    refine z_iload_n dX1_cell_17 rfl rfl ?_
    refine z_iadd dX1_cell_18 ?_
    refine z_bipush (v := 20) dX1_cell_19 (by decide) ?_
    refine z_imul dX1_cell_21 ?_
    refine z_iload_n dX1_cell_22 rfl rfl ?_
    refine z_iadd dX1_cell_23 ?_
    refine z_iald dX1_cell_24 hcl hv ?_
    refine z_goto (tgt := 30) dX1_cell_25 (by decide) ?_
    exact z_ireturn dX1_cell_30 rfl (by rfl) ⟨by first | (rw [hpCell, if_pos (bI_n h1)]) | (rw [hpCell, if_neg (by rw [bI_0 h1]; decide)]), rfl⟩

def hpPutC (n : Nat) (hd cl : Nat → Int32) (x f i v : Int32) : Nat → Int32 := if hpC n hd x f i = true then upd cl ((x * 4 + f) * 20 + i).toNatClampNeg v else cl
set_option maxRecDepth 100000 in
set_option maxHeartbeats 4000000 in
theorem h_putCell {G : xG} {cs : List va_E} {h n : Nat} {kl hd cl : Nat → Int32} (d : Nat) (hd1 : 1 ≤ d) (hh : Hp G cs h n kl hd cl) (x f i v : Int32) : X G yX1_putCell cX1_putCell 5 none d [.ref (G.1 + h), .int x, .int f, .int i, .int v] cs (fun r cs1 => r = none ∧ Hp G cs1 h n kl hd (hpPutC n hd cl x f i v) ∧ Fo (h + 3) cs cs1) := by
  refine X.of false (by decide +kernel) (by decide) (Nat.le_of_ble_eq_true rfl) ?_
  show Z (RX1, cX1_putCell, 5, none, false) G d _ 0 [(0, .ref (G.1 + h)), (1, .int x), (2, .int f), (3, .int i), (4, .int v)] [] cs
  obtain ⟨ho, hk, hhd, hcl, hn⟩ := hh
  refine z_aload_n dX1_putCell_0 rfl rfl ?_
  refine z_iload_n dX1_putCell_1 rfl rfl ?_
  refine z_iload_n dX1_putCell_2 rfl rfl ?_
  refine z_iload_n dX1_putCell_3 rfl rfl ?_
  refine z_callV (As := [_, _, _]) eX1_hasCell sX1_hasCell lX1_33 rfl dX1_putCell_4 ho (h_hasCell 0 ⟨ho, hk, hhd, hcl, hn⟩ _ _ _) (by omega) rfl (Nat.le_of_ble_eq_true rfl) (fun r cs1 hp => ?_)
  obtain ⟨rfl, e1⟩ := hp
  rw [e1]
  refine z_st (st' := [.int (bI (hpC n hd x f i))]) rfl ?_
  refine z_if_eq (tgt := 27) dX1_putCell_7 (by decide) (fun h1 => ?_) (fun h1 => ?_)
  · first
      | exact z_return dX1_putCell_27 rfl ⟨rfl, ⟨ho, hk, hhd, by rw [hpPutC, if_neg (by rw [bI_0 h1]; decide)]; exact hcl, hn⟩, Fo.rf⟩
      | exact z_return dX1_putCell_27 rfl ⟨rfl, ⟨set_ne (by omega) ho, set_ne (by omega) hk, set_ne (by omega) hhd, by rw [hpPutC, if_pos (bI_n h1)]; exact set_at hcl, hn⟩, Fo.set hcl rfl⟩
  · obtain ⟨q, qi⟩ := hpC_F (bI_n h1)
    obtain ⟨j, k, hj, hk4, ej, ek⟩ := hpF_in q hn
    obtain ⟨i0, hi0, ei⟩ := vp_in_of qi (by decide)
    have hv : vp_in ((x * 4 + f) * 20 + i) 2400 := by rw [ej, ek, ei, ix_cell]; exact vp_in_nI (by omega) (by omega)
    refine z_aload_n dX1_putCell_10 rfl rfl ?_
    refine z_get kX1 fX1_18 dX1_putCell_11 ho (by rfl) ?_
    refine z_iload_n dX1_putCell_14 rfl rfl ?_
    refine z_iconst (v := 4) dX1_putCell_15 (by decide) ?_
    refine z_imul dX1_putCell_16 ?_
    refine z_iload_n dX1_putCell_17 rfl rfl ?_
    refine z_iadd dX1_putCell_18 ?_
    refine z_bipush (v := 20) dX1_putCell_19 (by decide) ?_
    refine z_imul dX1_putCell_21 ?_
    refine z_iload_n dX1_putCell_22 rfl rfl ?_
    refine z_iadd dX1_putCell_23 ?_
    refine z_iload dX1_putCell_24 rfl ?_
    refine z_iast dX1_putCell_26 hcl hv ?_
    first
      | exact z_return dX1_putCell_27 rfl ⟨rfl, ⟨ho, hk, hhd, by rw [hpPutC, if_neg (by rw [bI_0 h1]; decide)]; exact hcl, hn⟩, Fo.rf⟩
      | exact z_return dX1_putCell_27 rfl ⟨rfl, ⟨set_ne (by omega) ho, set_ne (by omega) hk, set_ne (by omega) hhd, by rw [hpPutC, if_pos (bI_n h1)]; exact set_at hcl, hn⟩, Fo.set hcl rfl⟩

set_option maxRecDepth 100000 in
set_option maxHeartbeats 4000000 in
theorem h_clear {G : xG} {cs : List va_E} {h n : Nat} {kl hd cl : Nat → Int32} (d : Nat) (hh : Hp G cs h n kl hd cl) : X G yX1_clear cX1_clear 1 none d [.ref (G.1 + h)] cs (fun r cs1 => r = none ∧ Hp G cs1 h 0 kl hd cl ∧ Fo h cs cs1) := by
  refine X.of false (by decide +kernel) (by decide) (Nat.le_of_ble_eq_true rfl) ?_
  show Z (RX1, cX1_clear, 1, none, false) G d _ 0 [(0, .ref (G.1 + h))] [] cs
  obtain ⟨ho, hk, hhd, hcl, hn⟩ := hh
  refine z_aload_n dX1_clear_0 rfl rfl ?_
  refine z_iconst (v := 0) dX1_clear_1 (by decide) ?_
  refine z_put kX1 fX1_21 dX1_clear_2 rfl ho (by rfl) (by rfl) (Nat.le_of_ble_eq_true rfl) ?_
  exact z_return dX1_clear_5 rfl ⟨rfl, ⟨set_at ho, set_ne (by omega) hk, set_ne (by omega) hhd, set_ne (by omega) hcl, by omega⟩, Fo.set ho rfl⟩

