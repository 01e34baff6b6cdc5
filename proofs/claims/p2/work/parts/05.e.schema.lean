/-! SCHEMA -/
def Sc (G : xG) (cs : List va_E) (h n : Nat) (le ln sh at1 fc im rf fb : Nat → Int32) : Prop := cs[h]? = some (.inr (4, [.ref (G.1 + (h + 1)), .ref (G.1 + (h + 2)), .ref (G.1 + (h + 3)), .ref (G.1 + (h + 4)), .ref (G.1 + (h + 5)), .ref (G.1 + (h + 6)), .ref (G.1 + (h + 7)), .ref (G.1 + (h + 8)), .int (nI n)])) ∧ cs[h + 1]? = some (.inl (G.2.2.1 1, 480, .inl le)) ∧ cs[h + 2]? = some (.inl (G.2.2.1 0, 30, .inl ln)) ∧ cs[h + 3]? = some (.inl (G.2.2.1 0, 24, .inl sh)) ∧ cs[h + 4]? = some (.inl (G.2.2.1 2, 24, .inl at1)) ∧ cs[h + 5]? = some (.inl (G.2.2.1 0, 6, .inl fc)) ∧ cs[h + 6]? = some (.inl (G.2.2.1 0, 6, .inl im)) ∧ cs[h + 7]? = some (.inl (G.2.2.1 0, 6, .inl rf)) ∧ cs[h + 8]? = some (.inl (G.2.2.1 2, 6, .inl fb)) ∧ n ≤ 6 ∧ (∀ c, c < n → fc c ≤ 4) ∧ (∀ m, m < 30 → ln m ≤ 16)
def scIs (n : Nat) (c : Int32) : Bool := if c < 0 then false else if nI n ≤ c then false else true
theorem scIs_in {n : Nat} {c : Int32} (h : scIs n c = true) (hn : n ≤ 6) : ∃ j : Nat, j < n ∧ c = nI j := by
  unfold scIs at h
  by_cases h1 : c < 0
  · simp [h1] at h
  · by_cases h2 : nI n ≤ c
    · simp [h1, h2] at h
    · exact vp_in_of (vin_lt h1 h2 (Nat.le_refl _) (by omega)) (by omega)
def scF (n : Nat) (fc : Nat → Int32) (c f : Int32) : Bool := if c < 0 then false else if nI n ≤ c then false else if f < 0 then false else if fc c.toNatClampNeg ≤ f then false else true
theorem scF_in {n : Nat} {fc : Nat → Int32} {c f : Int32} (h : scF n fc c f = true) (hn : n ≤ 6) (hf : ∀ c, c < n → fc c ≤ 4) : ∃ j k : Nat, j < n ∧ k < 4 ∧ c = nI j ∧ f = nI k := by
  unfold scF at h
  by_cases h1 : c < 0
  · simp [h1] at h
  · by_cases h2 : nI n ≤ c
    · simp [h1, h2] at h
    · by_cases h3 : f < 0
      · simp [h1, h2, h3] at h
      · by_cases h4 : fc c.toNatClampNeg ≤ f
        · simp [h1, h2, h3, h4] at h
        · obtain ⟨j, q1, q2⟩ := vp_in_of (vin_lt h1 h2 (Nat.le_refl _) (by omega)) (by omega)
          have e : c.toNatClampNeg = j := by rw [q2]; exact nI_clamp (by omega)
          have q5 : ¬ (4 : Int32) ≤ f := fun q => h4 (by rw [e]; exact Int32.le_trans (hf j q1) q)
          obtain ⟨k, q3, q4⟩ := vp_in_of (vin_lt (k := 4) (n := 4) h3 q5 (Nat.le_refl _) (by omega)) (by omega)
          exact ⟨j, k, q1, q3, q2, q4⟩
set_option maxRecDepth 100000 in
set_option maxHeartbeats 4000000 in
theorem s_size {G : xG} {cs : List va_E} {h n : Nat} {le ln sh at1 fc im rf fb : Nat → Int32} (d : Nat) (hh : Sc G cs h n le ln sh at1 fc im rf fb) : X G yX4_size cX4_size 1 (some .int) d [.ref (G.1 + h)] cs (fun r cs1 => r = some (.int (nI n)) ∧ cs1 = cs) := by
  refine X.of false (by decide +kernel) (by decide) (Nat.le_of_ble_eq_true rfl) ?_
  show Z (RX4, cX4_size, 1, some .int, false) G d _ 0 [(0, .ref (G.1 + h))] [] cs
  obtain ⟨ho, h_1, h_2, h_3, h_4, h_5, h_6, h_7, h_8, hn, hfc, hln⟩ := id hh
  refine z_aload_n dX4_size_0 rfl rfl ?_
  refine z_get kX4 fX4_38 dX4_size_1 ho (by rfl) ?_
  exact z_ireturn dX4_size_4 rfl (by rfl) ⟨rfl, rfl⟩

set_option maxRecDepth 100000 in
set_option maxHeartbeats 4000000 in
theorem s_isClass {G : xG} {cs : List va_E} {h n : Nat} {le ln sh at1 fc im rf fb : Nat → Int32} (d : Nat) (hh : Sc G cs h n le ln sh at1 fc im rf fb) (c : Int32) : X G yX4_isClass cX4_isClass 2 (some .boolean) d [.ref (G.1 + h), .int c] cs (fun r cs1 => r = some (.int (bI (scIs n c))) ∧ cs1 = cs) := by
  refine X.of false (by decide +kernel) (by decide) (Nat.le_of_ble_eq_true rfl) ?_
  show Z (RX4, cX4_isClass, 2, some .boolean, false) G d _ 0 [(0, .ref (G.1 + h)), (1, .int c)] [] cs
  obtain ⟨ho, h_1, h_2, h_3, h_4, h_5, h_6, h_7, h_8, hn, hfc, hln⟩ := id hh
  refine z_iload_n dX4_isClass_0 rfl rfl ?_
  refine z_if_lt (tgt := 16) dX4_isClass_1 (by decide) (fun h1 => ?_) (fun h1 => ?_)
  · refine z_iconst (v := 0) dX4_isClass_16 (by decide) ?_
    exact z_ireturn dX4_isClass_17 rfl (by decide) ⟨by simp [scIs, bI, *], rfl⟩
  · refine z_iload_n dX4_isClass_4 rfl rfl ?_
    refine z_aload_n dX4_isClass_5 rfl rfl ?_
    refine z_get kX4 fX4_38 dX4_isClass_6 ho (by rfl) ?_
    refine z_icmp_ge (tgt := 16) dX4_isClass_9 (by decide) (fun h2 => ?_) (fun h2 => ?_)
    · refine z_iconst (v := 0) dX4_isClass_16 (by decide) ?_
      exact z_ireturn dX4_isClass_17 rfl (by decide) ⟨by simp [scIs, bI, *], rfl⟩
    · refine z_iconst (v := 1) dX4_isClass_12 (by decide) ?_
      refine z_goto (tgt := 17) dX4_isClass_13 (by decide) ?_
      exact z_ireturn dX4_isClass_17 rfl (by decide) ⟨by simp [scIs, bI, *], rfl⟩

def scCnt (n : Nat) (fc : Nat → Int32) (c : Int32) : Int32 := if scIs n c = true then fc c.toNatClampNeg else 0
set_option maxRecDepth 100000 in
set_option maxHeartbeats 4000000 in
theorem s_fieldCount {G : xG} {cs : List va_E} {h n : Nat} {le ln sh at1 fc im rf fb : Nat → Int32} (d : Nat) (hd1 : 1 ≤ d) (hh : Sc G cs h n le ln sh at1 fc im rf fb) (c : Int32) : X G yX4_fieldCount cX4_fieldCount 2 (some .int) d [.ref (G.1 + h), .int c] cs (fun r cs1 => r = some (.int (scCnt n fc c)) ∧ cs1 = cs) := by
  refine X.of false (by decide +kernel) (by decide) (Nat.le_of_ble_eq_true rfl) ?_
  show Z (RX4, cX4_fieldCount, 2, some .int, false) G d _ 0 [(0, .ref (G.1 + h)), (1, .int c)] [] cs
  obtain ⟨ho, h_1, h_2, h_3, h_4, h_5, h_6, h_7, h_8, hn, hfc, hln⟩ := id hh
  refine z_aload_n dX4_fieldCount_0 rfl rfl ?_
  refine z_iload_n dX4_fieldCount_1 rfl rfl ?_
  refine z_callV (As := [_]) eX4_isClass sX4_isClass lX4_42 rfl dX4_fieldCount_2 ho (s_isClass 0 hh _) (by omega) rfl (Nat.le_of_ble_eq_true rfl) (fun r cs1 hp => ?_)
  obtain ⟨rfl, e1⟩ := hp
  rw [e1]
  refine z_st (st' := [.int (bI (scIs n c))]) rfl ?_
  refine z_if_eq (tgt := 17) dX4_fieldCount_5 (by decide) (fun h1 => ?_) (fun h1 => ?_)
  · refine z_iconst (v := 0) dX4_fieldCount_17 (by decide) ?_
    exact z_ireturn dX4_fieldCount_18 rfl (by rfl) ⟨by first | (rw [scCnt, if_pos (bI_n h1)]) | (rw [scCnt, if_neg (by rw [bI_0 h1]; decide)]), rfl⟩
  · have hv : vp_in c 6 := by
      obtain ⟨j, hj, ej⟩ := scIs_in (bI_n h1) hn
      rw [ej]
      exact vp_in_nI (by omega) (by omega)
    refine z_aload_n dX4_fieldCount_8 rfl rfl ?_
    refine z_get kX4 fX4_26 dX4_fieldCount_9 ho (by rfl) ?_
    refine z_iload_n dX4_fieldCount_12 rfl rfl ?_
    refine z_iald dX4_fieldCount_13 h_5 hv ?_
    refine z_goto (tgt := 18) dX4_fieldCount_14 (by decide) ?_
    exact z_ireturn dX4_fieldCount_18 rfl (by rfl) ⟨by first | (rw [scCnt, if_pos (bI_n h1)]) | (rw [scCnt, if_neg (by rw [bI_0 h1]; decide)]), rfl⟩

set_option maxRecDepth 100000 in
set_option maxHeartbeats 4000000 in
theorem s_isField {G : xG} {cs : List va_E} {h n : Nat} {le ln sh at1 fc im rf fb : Nat → Int32} (d : Nat) (hh : Sc G cs h n le ln sh at1 fc im rf fb) (c f : Int32) : X G yX4_isField cX4_isField 3 (some .boolean) d [.ref (G.1 + h), .int c, .int f] cs (fun r cs1 => r = some (.int (bI (scF n fc c f))) ∧ cs1 = cs) := by
  refine X.of false (by decide +kernel) (by decide) (Nat.le_of_ble_eq_true rfl) ?_
  show Z (RX4, cX4_isField, 3, some .boolean, false) G d _ 0 [(0, .ref (G.1 + h)), (1, .int c), (2, .int f)] [] cs
  obtain ⟨ho, h_1, h_2, h_3, h_4, h_5, h_6, h_7, h_8, hn, hfc, hln⟩ := id hh
  refine z_iload_n dX4_isField_0 rfl rfl ?_
  refine z_if_lt (tgt := 30) dX4_isField_1 (by decide) (fun h1 => ?_) (fun h1 => ?_)
  · refine z_iconst (v := 0) dX4_isField_30 (by decide) ?_
    exact z_ireturn dX4_isField_31 rfl (by decide) ⟨by simp [scF, bI, *], rfl⟩
  · refine z_iload_n dX4_isField_4 rfl rfl ?_
    refine z_aload_n dX4_isField_5 rfl rfl ?_
    refine z_get kX4 fX4_38 dX4_isField_6 ho (by rfl) ?_
    refine z_icmp_ge (tgt := 30) dX4_isField_9 (by decide) (fun h2 => ?_) (fun h2 => ?_)
    · refine z_iconst (v := 0) dX4_isField_30 (by decide) ?_
      exact z_ireturn dX4_isField_31 rfl (by decide) ⟨by simp [scF, bI, *], rfl⟩
    · refine z_iload_n dX4_isField_12 rfl rfl ?_
      refine z_if_lt (tgt := 30) dX4_isField_13 (by decide) (fun h3 => ?_) (fun h3 => ?_)
      · refine z_iconst (v := 0) dX4_isField_30 (by decide) ?_
        exact z_ireturn dX4_isField_31 rfl (by decide) ⟨by simp [scF, bI, *], rfl⟩
      · have hv : vp_in c 6 := by
          have q : scIs n c = true := by simp [scIs, *]
          obtain ⟨j, hj, ej⟩ := scIs_in q hn
          rw [ej]
          exact vp_in_nI (by omega) (by omega)
        refine z_iload_n dX4_isField_16 rfl rfl ?_
        refine z_aload_n dX4_isField_17 rfl rfl ?_
        refine z_get kX4 fX4_26 dX4_isField_18 ho (by rfl) ?_
        refine z_iload_n dX4_isField_21 rfl rfl ?_
        refine z_iald dX4_isField_22 h_5 hv ?_
        refine z_icmp_ge (tgt := 30) dX4_isField_23 (by decide) (fun h4 => ?_) (fun h4 => ?_)
        · refine z_iconst (v := 0) dX4_isField_30 (by decide) ?_
          exact z_ireturn dX4_isField_31 rfl (by decide) ⟨by simp [scF, bI, *], rfl⟩
        · refine z_iconst (v := 1) dX4_isField_26 (by decide) ?_
          refine z_goto (tgt := 31) dX4_isField_27 (by decide) ?_
          exact z_ireturn dX4_isField_31 rfl (by decide) ⟨by simp [scF, bI, *], rfl⟩

def scShape (n : Nat) (fc sh : Nat → Int32) (c f : Int32) : Int32 := if scF n fc c f = true then sh (c * 4 + f).toNatClampNeg else 0
set_option maxRecDepth 100000 in
set_option maxHeartbeats 4000000 in
theorem s_shape {G : xG} {cs : List va_E} {h n : Nat} {le ln sh at1 fc im rf fb : Nat → Int32} (d : Nat) (hd1 : 1 ≤ d) (hh : Sc G cs h n le ln sh at1 fc im rf fb) (c f : Int32) : X G yX4_shape cX4_shape 3 (some .int) d [.ref (G.1 + h), .int c, .int f] cs (fun r cs1 => r = some (.int (scShape n fc sh c f)) ∧ cs1 = cs) := by
  refine X.of false (by decide +kernel) (by decide) (Nat.le_of_ble_eq_true rfl) ?_
  show Z (RX4, cX4_shape, 3, some .int, false) G d _ 0 [(0, .ref (G.1 + h)), (1, .int c), (2, .int f)] [] cs
  obtain ⟨ho, h_1, h_2, h_3, h_4, h_5, h_6, h_7, h_8, hn, hfc, hln⟩ := id hh
  refine z_aload_n dX4_shape_0 rfl rfl ?_
  refine z_iload_n dX4_shape_1 rfl rfl ?_
  refine z_iload_n dX4_shape_2 rfl rfl ?_
  refine z_callV (As := [_, _]) eX4_isField sX4_isField lX4_46 rfl dX4_shape_3 ho (s_isField 0 hh _ _) (by omega) rfl (Nat.le_of_ble_eq_true rfl) (fun r cs1 hp => ?_)
  obtain ⟨rfl, e1⟩ := hp
  rw [e1]
  refine z_st (st' := [.int (bI (scF n fc c f))]) rfl ?_
  refine z_if_eq (tgt := 22) dX4_shape_6 (by decide) (fun h1 => ?_) (fun h1 => ?_)
  · refine z_iconst (v := 0) dX4_shape_22 (by decide) ?_
    exact z_ireturn dX4_shape_23 rfl (by rfl) ⟨by first | (rw [scShape, if_pos (bI_n h1)]) | (rw [scShape, if_neg (by rw [bI_0 h1]; decide)]), rfl⟩
  · have hv : vp_in (c * 4 + f) 24 := by
      obtain ⟨j, k, hj, hk, ej, ek⟩ := scF_in (bI_n h1) hn hfc
      rw [ej, ek, ix_slot]
      exact vp_in_nI (by omega) (by omega)
    refine z_aload_n dX4_shape_9 rfl rfl ?_
    refine z_get kX4 fX4_19 dX4_shape_10 ho (by rfl) ?_
    refine z_iload_n dX4_shape_13 rfl rfl ?_
    refine z_iconst (v := 4) dX4_shape_14 (by decide) ?_
    refine z_imul dX4_shape_15 ?_
    refine z_iload_n dX4_shape_16 rfl rfl ?_
    refine z_iadd dX4_shape_17 ?_
    refine z_iald dX4_shape_18 h_3 hv ?_
    refine z_goto (tgt := 23) dX4_shape_19 (by decide) ?_
    exact z_ireturn dX4_shape_23 rfl (by rfl) ⟨by first | (rw [scShape, if_pos (bI_n h1)]) | (rw [scShape, if_neg (by rw [bI_0 h1]; decide)]), rfl⟩

def scAttr (n : Nat) (fc at1 : Nat → Int32) (c f : Int32) : Bool := if scF n fc c f = true then decide (¬ at1 (c * 4 + f).toNatClampNeg = 0) else false
set_option maxRecDepth 100000 in
set_option maxHeartbeats 4000000 in
theorem s_isAttribute {G : xG} {cs : List va_E} {h n : Nat} {le ln sh at1 fc im rf fb : Nat → Int32} (d : Nat) (hd1 : 1 ≤ d) (hh : Sc G cs h n le ln sh at1 fc im rf fb) (c f : Int32) : X G yX4_isAttribute cX4_isAttribute 3 (some .boolean) d [.ref (G.1 + h), .int c, .int f] cs (fun r cs1 => r = some (.int (bI (scAttr n fc at1 c f))) ∧ cs1 = cs) := by
  refine X.of false (by decide +kernel) (by decide) (Nat.le_of_ble_eq_true rfl) ?_
  show Z (RX4, cX4_isAttribute, 3, some .boolean, false) G d _ 0 [(0, .ref (G.1 + h)), (1, .int c), (2, .int f)] [] cs
  obtain ⟨ho, h_1, h_2, h_3, h_4, h_5, h_6, h_7, h_8, hn, hfc, hln⟩ := id hh
  refine z_aload_n dX4_isAttribute_0 rfl rfl ?_
  refine z_iload_n dX4_isAttribute_1 rfl rfl ?_
  refine z_iload_n dX4_isAttribute_2 rfl rfl ?_
  refine z_callV (As := [_, _]) eX4_isField sX4_isField lX4_46 rfl dX4_isAttribute_3 ho (s_isField 0 hh _ _) (by omega) rfl (Nat.le_of_ble_eq_true rfl) (fun r cs1 hp => ?_)
  obtain ⟨rfl, e1⟩ := hp
  rw [e1]
  refine z_st (st' := [.int (bI (scF n fc c f))]) rfl ?_
  refine z_if_eq (tgt := 26) dX4_isAttribute_6 (by decide) (fun h1 => ?_) (fun h1 => ?_)
  · refine z_iconst (v := 0) dX4_isAttribute_26 (by decide) ?_
    exact z_ireturn dX4_isAttribute_27 rfl (by decide) ⟨by first | (rw [scAttr, if_neg (by rw [bI_0 h1]; decide)]; rfl) | (rw [scAttr, if_pos (bI_n h1)]; simp [bI, h2]), rfl⟩
  · have hv : vp_in (c * 4 + f) 24 := by
      obtain ⟨j, k, hj, hk, ej, ek⟩ := scF_in (bI_n h1) hn hfc
      rw [ej, ek, ix_slot]
      exact vp_in_nI (by omega) (by omega)
    refine z_aload_n dX4_isAttribute_9 rfl rfl ?_
    refine z_get kX4 fX4_22 dX4_isAttribute_10 ho (by rfl) ?_
    refine z_iload_n dX4_isAttribute_13 rfl rfl ?_
    refine z_iconst (v := 4) dX4_isAttribute_14 (by decide) ?_
    refine z_imul dX4_isAttribute_15 ?_
    refine z_iload_n dX4_isAttribute_16 rfl rfl ?_
    refine z_iadd dX4_isAttribute_17 ?_
    refine z_zald dX4_isAttribute_18 h_4 hv ?_
    refine z_if_eq (tgt := 26) dX4_isAttribute_19 (by decide) (fun h2 => ?_) (fun h2 => ?_)
    · refine z_iconst (v := 0) dX4_isAttribute_26 (by decide) ?_
      exact z_ireturn dX4_isAttribute_27 rfl (by decide) ⟨by first | (rw [scAttr, if_neg (by rw [bI_0 h1]; decide)]; rfl) | (rw [scAttr, if_pos (bI_n h1)]; simp [bI, h2]), rfl⟩
    · refine z_iconst (v := 1) dX4_isAttribute_22 (by decide) ?_
      refine z_goto (tgt := 27) dX4_isAttribute_23 (by decide) ?_
      exact z_ireturn dX4_isAttribute_27 rfl (by decide) ⟨by first | (rw [scAttr, if_neg (by rw [bI_0 h1]; decide)]; rfl) | (rw [scAttr, if_pos (bI_n h1)]; simp [bI, h2]), rfl⟩

def scImp (n : Nat) (im : Nat → Int32) (c : Int32) : Int32 := if scIs n c = true then im c.toNatClampNeg else -1
set_option maxRecDepth 100000 in
set_option maxHeartbeats 4000000 in
theorem s_implicit {G : xG} {cs : List va_E} {h n : Nat} {le ln sh at1 fc im rf fb : Nat → Int32} (d : Nat) (hd1 : 1 ≤ d) (hh : Sc G cs h n le ln sh at1 fc im rf fb) (c : Int32) : X G yX4_implicit cX4_implicit 2 (some .int) d [.ref (G.1 + h), .int c] cs (fun r cs1 => r = some (.int (scImp n im c)) ∧ cs1 = cs) := by
  refine X.of false (by decide +kernel) (by decide) (Nat.le_of_ble_eq_true rfl) ?_
  show Z (RX4, cX4_implicit, 2, some .int, false) G d _ 0 [(0, .ref (G.1 + h)), (1, .int c)] [] cs
  obtain ⟨ho, h_1, h_2, h_3, h_4, h_5, h_6, h_7, h_8, hn, hfc, hln⟩ := id hh
  refine z_aload_n dX4_implicit_0 rfl rfl ?_
  refine z_iload_n dX4_implicit_1 rfl rfl ?_
  refine z_callV (As := [_]) eX4_isClass sX4_isClass lX4_42 rfl dX4_implicit_2 ho (s_isClass 0 hh _) (by omega) rfl (Nat.le_of_ble_eq_true rfl) (fun r cs1 hp => ?_)
  obtain ⟨rfl, e1⟩ := hp
  rw [e1]
  refine z_st (st' := [.int (bI (scIs n c))]) rfl ?_
  refine z_if_eq (tgt := 17) dX4_implicit_5 (by decide) (fun h1 => ?_) (fun h1 => ?_)
  · refine z_iconst (v := (-1)) dX4_implicit_17 (by decide) ?_
    exact z_ireturn dX4_implicit_18 rfl (by rfl) ⟨by first | (rw [scImp, if_pos (bI_n h1)]) | (rw [scImp, if_neg (by rw [bI_0 h1]; decide)]), rfl⟩
  · have hv : vp_in c 6 := by
      obtain ⟨j, hj, ej⟩ := scIs_in (bI_n h1) hn
      rw [ej]
      exact vp_in_nI (by omega) (by omega)
    refine z_aload_n dX4_implicit_8 rfl rfl ?_
    refine z_get kX4 fX4_29 dX4_implicit_9 ho (by rfl) ?_
    refine z_iload_n dX4_implicit_12 rfl rfl ?_
    refine z_iald dX4_implicit_13 h_6 hv ?_
    refine z_goto (tgt := 18) dX4_implicit_14 (by decide) ?_
    exact z_ireturn dX4_implicit_18 rfl (by rfl) ⟨by first | (rw [scImp, if_pos (bI_n h1)]) | (rw [scImp, if_neg (by rw [bI_0 h1]; decide)]), rfl⟩

def scRef (n : Nat) (rf : Nat → Int32) (c : Int32) : Int32 := if scIs n c = true then rf c.toNatClampNeg else 0
set_option maxRecDepth 100000 in
set_option maxHeartbeats 4000000 in
theorem s_references {G : xG} {cs : List va_E} {h n : Nat} {le ln sh at1 fc im rf fb : Nat → Int32} (d : Nat) (hd1 : 1 ≤ d) (hh : Sc G cs h n le ln sh at1 fc im rf fb) (c : Int32) : X G yX4_references cX4_references 2 (some .int) d [.ref (G.1 + h), .int c] cs (fun r cs1 => r = some (.int (scRef n rf c)) ∧ cs1 = cs) := by
  refine X.of false (by decide +kernel) (by decide) (Nat.le_of_ble_eq_true rfl) ?_
  show Z (RX4, cX4_references, 2, some .int, false) G d _ 0 [(0, .ref (G.1 + h)), (1, .int c)] [] cs
  obtain ⟨ho, h_1, h_2, h_3, h_4, h_5, h_6, h_7, h_8, hn, hfc, hln⟩ := id hh
  refine z_aload_n dX4_references_0 rfl rfl ?_
  refine z_iload_n dX4_references_1 rfl rfl ?_
  refine z_callV (As := [_]) eX4_isClass sX4_isClass lX4_42 rfl dX4_references_2 ho (s_isClass 0 hh _) (by omega) rfl (Nat.le_of_ble_eq_true rfl) (fun r cs1 hp => ?_)
  obtain ⟨rfl, e1⟩ := hp
  rw [e1]
  refine z_st (st' := [.int (bI (scIs n c))]) rfl ?_
  refine z_if_eq (tgt := 17) dX4_references_5 (by decide) (fun h1 => ?_) (fun h1 => ?_)
  · refine z_iconst (v := 0) dX4_references_17 (by decide) ?_
    exact z_ireturn dX4_references_18 rfl (by rfl) ⟨by first | (rw [scRef, if_pos (bI_n h1)]) | (rw [scRef, if_neg (by rw [bI_0 h1]; decide)]), rfl⟩
  · have hv : vp_in c 6 := by
      obtain ⟨j, hj, ej⟩ := scIs_in (bI_n h1) hn
      rw [ej]
      exact vp_in_nI (by omega) (by omega)
    refine z_aload_n dX4_references_8 rfl rfl ?_
    refine z_get kX4 fX4_32 dX4_references_9 ho (by rfl) ?_
    refine z_iload_n dX4_references_12 rfl rfl ?_
    refine z_iald dX4_references_13 h_7 hv ?_
    refine z_goto (tgt := 18) dX4_references_14 (by decide) ?_
    exact z_ireturn dX4_references_18 rfl (by rfl) ⟨by first | (rw [scRef, if_pos (bI_n h1)]) | (rw [scRef, if_neg (by rw [bI_0 h1]; decide)]), rfl⟩

def scFb (n : Nat) (fb : Nat → Int32) (c : Int32) : Bool := if scIs n c = true then decide (¬ fb c.toNatClampNeg = 0) else false
set_option maxRecDepth 100000 in
set_option maxHeartbeats 4000000 in
theorem s_isForbidden {G : xG} {cs : List va_E} {h n : Nat} {le ln sh at1 fc im rf fb : Nat → Int32} (d : Nat) (hd1 : 1 ≤ d) (hh : Sc G cs h n le ln sh at1 fc im rf fb) (c : Int32) : X G yX4_isForbidden cX4_isForbidden 2 (some .boolean) d [.ref (G.1 + h), .int c] cs (fun r cs1 => r = some (.int (bI (scFb n fb c))) ∧ cs1 = cs) := by
  refine X.of false (by decide +kernel) (by decide) (Nat.le_of_ble_eq_true rfl) ?_
  show Z (RX4, cX4_isForbidden, 2, some .boolean, false) G d _ 0 [(0, .ref (G.1 + h)), (1, .int c)] [] cs
  obtain ⟨ho, h_1, h_2, h_3, h_4, h_5, h_6, h_7, h_8, hn, hfc, hln⟩ := id hh
  refine z_aload_n dX4_isForbidden_0 rfl rfl ?_
  refine z_iload_n dX4_isForbidden_1 rfl rfl ?_
  refine z_callV (As := [_]) eX4_isClass sX4_isClass lX4_42 rfl dX4_isForbidden_2 ho (s_isClass 0 hh _) (by omega) rfl (Nat.le_of_ble_eq_true rfl) (fun r cs1 hp => ?_)
  obtain ⟨rfl, e1⟩ := hp
  rw [e1]
  refine z_st (st' := [.int (bI (scIs n c))]) rfl ?_
  refine z_if_eq (tgt := 21) dX4_isForbidden_5 (by decide) (fun h1 => ?_) (fun h1 => ?_)
  · refine z_iconst (v := 0) dX4_isForbidden_21 (by decide) ?_
    exact z_ireturn dX4_isForbidden_22 rfl (by decide) ⟨by first | (rw [scFb, if_neg (by rw [bI_0 h1]; decide)]; rfl) | (rw [scFb, if_pos (bI_n h1)]; simp [bI, h2]), rfl⟩
  · have hv : vp_in c 6 := by
      obtain ⟨j, hj, ej⟩ := scIs_in (bI_n h1) hn
      rw [ej]
      exact vp_in_nI (by omega) (by omega)
    refine z_aload_n dX4_isForbidden_8 rfl rfl ?_
    refine z_get kX4 fX4_35 dX4_isForbidden_9 ho (by rfl) ?_
    refine z_iload_n dX4_isForbidden_12 rfl rfl ?_
    refine z_zald dX4_isForbidden_13 h_8 hv ?_
    refine z_if_eq (tgt := 21) dX4_isForbidden_14 (by decide) (fun h2 => ?_) (fun h2 => ?_)
    · refine z_iconst (v := 0) dX4_isForbidden_21 (by decide) ?_
      exact z_ireturn dX4_isForbidden_22 rfl (by decide) ⟨by first | (rw [scFb, if_neg (by rw [bI_0 h1]; decide)]; rfl) | (rw [scFb, if_pos (bI_n h1)]; simp [bI, h2]), rfl⟩
    · refine z_iconst (v := 1) dX4_isForbidden_17 (by decide) ?_
      refine z_goto (tgt := 22) dX4_isForbidden_18 (by decide) ?_
      exact z_ireturn dX4_isForbidden_22 rfl (by decide) ⟨by first | (rw [scFb, if_neg (by rw [bI_0 h1]; decide)]; rfl) | (rw [scFb, if_pos (bI_n h1)]; simp [bI, h2]), rfl⟩

