/-! SIGNS, more: a text is spelt, becomes another, is compared -/
def sgPuts : List Int32 → List Int32 → List Int32
  | t, [] => t
  | t, u :: l => sgPuts (sgPut t u) l
def sgOvs : List Int32 → Bool → List Int32 → Bool
  | _, ov, [] => ov
  | t, ov, u :: l => sgOvs (sgPut t u) (ov || sgFull t) l
theorem drop_cons {l : List Int32} {k : Nat} (h : k < l.length) : l.drop k = l.getD k 0 :: l.drop (k + 1) := by
  rw [List.drop_eq_getElem_cons h, List.getD_eq_getElem?_getD, List.getElem?_eq_getElem h]
  rfl
theorem str_small : ∀ i, i < xN → xLen.getD i 0 < 100 := by decide +kernel
theorem str_blen : ∀ i, i < xN → (xByt.getD i []).length = xLen.getD i 0 := by decide +kernel

set_option maxRecDepth 100000 in
set_option maxHeartbeats 4000000 in
theorem lp_spell {G : xG} {d a i : Nat} {Post : xP} (hd : 4 ≤ d) (hi : i < xN) : ∀ (m k : Nat) (cs : List va_E) (r n : Nat) (t : List Int32) (ov : Bool), xLen.getD i 0 + 1 ≤ k + m → k < 2 ^ 30 → Sg G cs a r n t ov → Rm cs n → (∀ (c1 : List va_E) (r1 n1 : Nat), Sg G c1 a r1 n1 (sgPuts t ((xByt.getD i []).drop k)) (sgOvs t ov ((xByt.getD i []).drop k)) → Fr cs c1 a r r1 n n1 → Post none c1) →
    Z (RX5, cX5_spell, 3, none, false) G d Post 2 [(0, .ref (G.1 + a)), (1, .ref (G.2.2.2.1 i)), (2, .int (nI k))] [] cs := by
  intro m
  induction m with
  | zero =>
    intro k cs r n t ov hm hk0 hS hR hP
    have hLn := str_len i hi
    have ih : True := trivial
    refine z_iload_n dX5_spell_2 rfl rfl ?_
    refine z_aload_n dX5_spell_3 rfl rfl ?_
    refine z_callVS (As := []) hi eJ0_length_8abf5 sJ0_length_8abf5 lX5_35 rfl dX5_spell_4 (c_length 1 (Nat.le_refl _) hi) (by omega) rfl (Nat.le_of_ble_eq_true rfl) (fun r cs1 hp => ?_)
    obtain ⟨rfl, rfl⟩ := hp
    refine z_st (st' := [.int (nI (xLen.getD i 0)), .int (nI k)]) rfl ?_
    refine z_icmp_ge (tgt := 26) dX5_spell_7 (by decide) (fun h1 => ?_) (fun h1 => ?_)
    · exact z_return dX5_spell_26 rfl (hP _ r n (by rw [List.drop_eq_nil_of_le (by rw [str_blen i hi]; exact (nI_leI hLn (by omega)).mp h1)]; exact hS) Fr.rf)
    · exact absurd (nI_le (by omega) (by omega)) h1
  | succ m ih =>
    intro k cs r n t ov hm hk0 hS hR hP
    have hLn := str_len i hi
    refine z_iload_n dX5_spell_2 rfl rfl ?_
    refine z_aload_n dX5_spell_3 rfl rfl ?_
    refine z_callVS (As := []) hi eJ0_length_8abf5 sJ0_length_8abf5 lX5_35 rfl dX5_spell_4 (c_length 1 (Nat.le_refl _) hi) (by omega) rfl (Nat.le_of_ble_eq_true rfl) (fun r cs1 hp => ?_)
    obtain ⟨rfl, rfl⟩ := hp
    refine z_st (st' := [.int (nI (xLen.getD i 0)), .int (nI k)]) rfl ?_
    refine z_icmp_ge (tgt := 26) dX5_spell_7 (by decide) (fun h1 => ?_) (fun h1 => ?_)
    · exact z_return dX5_spell_26 rfl (hP _ r n (by rw [List.drop_eq_nil_of_le (by rw [str_blen i hi]; exact (nI_leI hLn (by omega)).mp h1)]; exact hS) Fr.rf)
    · have hk : k < xLen.getD i 0 := by
        rcases Nat.lt_or_ge k (xLen.getD i 0) with q | q
        · exact q
        · exact absurd (nI_le q (by omega)) h1
      have hj : vp_in (nI k) (xLen.getD i 0) := vp_in_nI hk (str_len i hi)
      refine z_aload_n dX5_spell_10 rfl rfl ?_
      refine z_aload_n dX5_spell_11 rfl rfl ?_
      refine z_iload_n dX5_spell_12 rfl rfl ?_
      refine z_callVS (As := [_]) hi eJ0_charAt_5068e sJ0_charAt_5068e lX5_40 rfl dX5_spell_13 (c_charAt 3 (Nat.le_refl _) hi hj) (by omega) rfl (Nat.le_of_ble_eq_true rfl) (fun r cs1 hp => ?_)
      obtain ⟨rfl, rfl⟩ := hp
      refine z_st (st' := [.int (sxAt i (nI k)), .ref (G.1 + a)]) rfl ?_
      refine z_callV (As := [_]) eX5_put sX5_put lX5_44 rfl dX5_spell_16 hS.choose_spec.1 (c_X5_put 1 (Nat.le_refl _) hS hR _) (by omega) rfl (Nat.le_of_ble_eq_true rfl) (fun r cs1 hp => ?_)
      obtain ⟨rfl, r1, n1, hS1, hF1⟩ := hp
      refine z_st (st' := [.int _]) rfl ?_
      refine z_pop dX5_spell_19 rfl ?_
      refine z_iinc (v := nI (k + 1)) dX5_spell_20 rfl (show nI k + 1 = _ from nI_1 k) (by decide) ?_
      refine z_goto (tgt := 2) dX5_spell_23 (by decide) ?_
      refine ih (k + 1) cs1 r1 n1 _ _ (by omega) (by have := str_small i hi; omega) hS1 (hR.fr hF1) (fun c2 r2 n2 q1 q2 => hP c2 r2 n2 ?_ (hF1.tr q2))
      have e : (xByt.getD i []).drop k = sxAt i (nI k) :: (xByt.getD i []).drop (k + 1) := by
        rw [drop_cons (by rw [str_blen i hi]; exact hk)]
        unfold sxAt
        rw [nI_clamp (by omega)]
      rw [e]
      exact q1
set_option maxRecDepth 100000 in
set_option maxHeartbeats 4000000 in
theorem c_X5_spell {G : xG} {cs : List va_E} {a r n i : Nat} {t : List Int32} {ov : Bool} (d : Nat) (hd : 4 ≤ d) (hi : i < xN) (h : Sg G cs a r n t ov) (hR : Rm cs n) : X G yX5_spell cX5_spell 3 none d [.ref (G.1 + a), .ref (G.2.2.2.1 i)] cs (fun v c1 => v = none ∧ ∃ r1 n1, Sg G c1 a r1 n1 (sgPuts t (xByt.getD i [])) (sgOvs t ov (xByt.getD i [])) ∧ Fr cs c1 a r r1 n n1) := by
  refine X.of false (by decide +kernel) (by decide) (Nat.le_of_ble_eq_true rfl) ?_
  show Z (RX5, cX5_spell, 3, none, false) G d _ 0 [(0, .ref (G.1 + a)), (1, .ref (G.2.2.2.1 i))] [] cs
  refine z_iconst (v := 0) dX5_spell_0 (by decide) ?_
  refine z_istore_n dX5_spell_1 rfl (by decide) ?_
  exact lp_spell hd hi (xLen.getD i 0 + 1) 0 cs r n t ov (by omega) (by decide) h hR (fun c1 r1 n1 q1 q2 => ⟨rfl, r1, n1, q1, q2⟩)

theorem Sg.fr {G : xG} {cs c1 : List va_E} {a r r1 n n1 b rb nb : Nat} {tb : List Int32} {ob : Bool} (h : Sg G cs b rb nb tb ob) (hF : Fr cs c1 a r r1 n n1) (h1 : b ≠ a) (h2 : b ≠ r) (h3 : rb ≠ a) (h4 : rb ≠ r) : Sg G c1 b rb nb tb ob ∧ b ≠ r1 ∧ rb ≠ r1 := by
  obtain ⟨f, q1, q2, q3⟩ := h
  have l1 := at_lt q1
  have l2 := at_lt q2
  refine ⟨⟨f, (hF.2.2.1 b l1 h1 h2).trans q1, (hF.2.2.1 rb l2 h3 h4).trans q2, q3⟩, ?_, ?_⟩
  · rcases hF.1 with e | e <;> omega
  · rcases hF.1 with e | e <;> omega
theorem sgAt_k {t : List Int32} {k : Nat} (h : k < t.length) (ht : t.length < 2 ^ 31) : sgAt t (nI k) = t.getD k 0 := by
  unfold sgAt
  rw [if_neg (nI_pos (by omega)), if_neg (nI_ge h ht), nI_clamp (by omega)]
set_option maxRecDepth 100000 in
set_option maxHeartbeats 4000000 in
theorem lp_become {G : xG} {d a b rb nb : Nat} {tb : List Int32} {ob : Bool} {Post : xP} (hd : 2 ≤ d) (htb : tb.length ≤ 3000) (d1 : b ≠ a) (d3 : rb ≠ a) : ∀ (m k : Nat) (cs : List va_E) (r n : Nat) (t : List Int32) (ov : Bool), tb.length + 1 ≤ k + m → k ≤ tb.length → Sg G cs a r n t ov → Rm cs n → Sg G cs b rb nb tb ob → b ≠ r → rb ≠ r → (∀ (c1 : List va_E) (r1 n1 : Nat), Sg G c1 a r1 n1 (sgPuts t (tb.drop k)) (sgOvs t ov (tb.drop k)) → Fr cs c1 a r r1 n n1 → Post none c1) →
    Z (RX5, cX5_become, 3, none, false) G d Post 6 [(0, .ref (G.1 + a)), (1, .ref (G.1 + b)), (2, .int (nI k))] [] cs := by
  intro m
  induction m with
  | zero =>
    intro k cs r n t ov hm hk0
    exact absurd hm (by omega)
  | succ m ih =>
    intro k cs r n t ov hm hk0 hS hR hb d2 d4 hP
    refine z_iload_n dX5_become_6 rfl rfl ?_
    refine z_aload_n dX5_become_7 rfl rfl ?_
    refine z_callV (As := []) eX5_length sX5_length lX5_51 rfl dX5_become_8 hb.choose_spec.1 (c_X5_length 0 hb) (by omega) rfl (Nat.le_of_ble_eq_true rfl) (fun r cs1 hp => ?_)
    obtain ⟨rfl, e1⟩ := hp
    rw [e1]
    refine z_st (st' := [.int (nI tb.length), .int (nI k)]) rfl ?_
    refine z_icmp_ge (tgt := 30) dX5_become_11 (by decide) (fun h1 => ?_) (fun h1 => ?_)
    · exact z_return dX5_become_30 rfl (hP _ r n (by rw [List.drop_eq_nil_of_le ((nI_leI (by omega) (by omega)).mp h1)]; exact hS) Fr.rf)
    · have hk : k < tb.length := by
        rcases Nat.lt_or_ge k tb.length with q | q
        · exact q
        · exact absurd (nI_le q (by omega)) h1
      refine z_aload_n dX5_become_14 rfl rfl ?_
      refine z_aload_n dX5_become_15 rfl rfl ?_
      refine z_iload_n dX5_become_16 rfl rfl ?_
      refine z_callV (As := [_]) eX5_at sX5_at lX5_52 rfl dX5_become_17 hb.choose_spec.1 (c_X5_at 0 hb _) (by omega) rfl (Nat.le_of_ble_eq_true rfl) (fun r cs1 hp => ?_)
      obtain ⟨rfl, e1⟩ := hp
      rw [e1]
      refine z_st (st' := [.int (sgAt tb (nI k)), .ref (G.1 + a)]) rfl ?_
      refine z_callV (As := [_]) eX5_put sX5_put lX5_44 rfl dX5_become_20 hS.choose_spec.1 (c_X5_put 1 (Nat.le_refl _) hS hR _) (by omega) rfl (Nat.le_of_ble_eq_true rfl) (fun r cs1 hp => ?_)
      obtain ⟨rfl, r1, n1, hS1, hF1⟩ := hp
      obtain ⟨hb1, n2, n4⟩ := hb.fr hF1 d1 d2 d3 d4
      refine z_st (st' := [.int _]) rfl ?_
      refine z_pop dX5_become_23 rfl ?_
      refine z_iinc (v := nI (k + 1)) dX5_become_24 rfl (show nI k + 1 = _ from nI_1 k) (by decide) ?_
      refine z_goto (tgt := 6) dX5_become_27 (by decide) ?_
      refine ih (k + 1) _ r1 n1 _ _ (by omega) (by omega) hS1 (hR.fr hF1) hb1 n2 n4 (fun c2 r2 n2 q1 q2 => hP c2 r2 n2 ?_ (hF1.tr q2))
      rw [drop_cons hk]
      rw [sgAt_k hk (by omega)] at q1
      exact q1
set_option maxRecDepth 100000 in
set_option maxHeartbeats 4000000 in
theorem c_X5_become {G : xG} {cs : List va_E} {a r n b rb nb : Nat} {t tb : List Int32} {ov ob : Bool} (d : Nat) (hd : 2 ≤ d) (h : Sg G cs a r n t ov) (hR : Rm cs n) (hb : Sg G cs b rb nb tb ob) (htb : tb.length ≤ 3000) (d1 : b ≠ a) (d2 : b ≠ r) (d3 : rb ≠ a) (d4 : rb ≠ r) : X G yX5_become cX5_become 3 none d [.ref (G.1 + a), .ref (G.1 + b)] cs (fun v c1 => v = none ∧ ∃ r1 n1, Sg G c1 a r1 n1 (sgPuts [] tb) (sgOvs [] false tb) ∧ Fr cs c1 a r r1 n n1) := by
  refine X.of false (by decide +kernel) (by decide) (Nat.le_of_ble_eq_true rfl) ?_
  show Z (RX5, cX5_become, 3, none, false) G d _ 0 [(0, .ref (G.1 + a)), (1, .ref (G.1 + b))] [] cs
  refine z_aload_n dX5_become_0 rfl rfl ?_
  refine z_callV (As := []) eX5_clear sX5_clear lX5_48 rfl dX5_become_1 h.choose_spec.1 (c_X5_clear 0 h) (by omega) rfl (Nat.le_of_ble_eq_true rfl) (fun r cs1 hp => ?_)
  obtain ⟨rfl, e1⟩ := hp
  have hc := h.cleared
  rw [← e1] at hc
  obtain ⟨hb1, n2, n4⟩ := hb.fr hc.2 d1 d2 d3 d4
  refine z_st (st' := []) rfl ?_
  refine z_iconst (v := 0) dX5_become_4 (by decide) ?_
  refine z_istore_n dX5_become_5 rfl (by decide) ?_
  exact lp_become hd htb d1 d3 (tb.length + 1) 0 _ r n [] false (by omega) (Nat.zero_le _) hc.1 (hR.fr hc.2) hb1 n2 n4 (fun c1 r1 n1 q1 q2 => ⟨rfl, r1, n1, q1, hc.2.tr q2⟩)

