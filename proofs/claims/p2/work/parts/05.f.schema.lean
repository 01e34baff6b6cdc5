/-! SCHEMA, more -/
theorem len_in {v : Int32} {k : Nat} (h : ¬ v ≤ nI k) (hv : v ≤ 16) (hk : k < 2 ^ 31) : k < 16 := by
  have q := Int32.lt_iff_toInt_lt.mp (Int32.not_le.mp h)
  have q2 := Int32.le_iff_toInt_le.mp hv
  rw [nI_toInt hk] at q
  have e : (16 : Int32).toInt = 16 := by decide
  omega
theorem ix_let (m k : Nat) : nI m * 16 + nI k = nI (m * 16 + k) := by
  rw [show (16 : Int32) = nI 16 from rfl, pk_mul, nI_add]
/-- from place k on, m signs of the name s are those of the text from fr on -/
def scEq (le : Nat → Int32) (t : List Int32) (s : Nat) (fr : Int32) : Nat → Nat → Bool
  | 0, _ => true
  | m + 1, k => if le (s * 16 + k) = sgAt t (fr + nI k) then scEq le t s fr m (k + 1) else false
def scSp (ln le : Nat → Int32) (t : List Int32) (s fr to : Int32) : Bool := if s < 0 then false else if 30 ≤ s then false else if ln s.toNatClampNeg = to - fr then scEq le t s.toNatClampNeg fr (ln s.toNatClampNeg).toNatClampNeg 0 else false
set_option maxRecDepth 100000 in
set_option maxHeartbeats 4000000 in
theorem lp_spells {G : xG} {cs : List va_E} {d h n a r nr s : Nat} {le ln sh at1 fc im rf fb : Nat → Int32} {t : List Int32} {ov : Bool} {fr to v : Int32} {Post : xP} (hd1 : 1 ≤ d) (hh : Sc G cs h n le ln sh at1 fc im rf fb) (hS : Sg G cs a r nr t ov) (hs : s < 30) (hv : ln s = v) : ∀ (m k : Nat), 17 ≤ k + m → k ≤ 16 → Post (some (.int (bI (scEq le t s fr (v.toNatClampNeg - k) k)))) cs →
    Z (RX4, cX4_spells, 6, some .boolean, false) G d Post 28 [(0, .ref (G.1 + h)), (1, .int (nI s)), (2, .ref (G.1 + a)), (3, .int fr), (4, .int to), (5, .int (nI k))] [] cs := by
  obtain ⟨ho, h_1, h_2, h_3, h_4, h_5, h_6, h_7, h_8, hn, hfc, hln⟩ := id hh
  have hvs : vp_in (nI s) 30 := vp_in_nI hs (by decide)
  intro m
  induction m with
  | zero =>
    intro k hm hk0
    exact absurd hm (by omega)
  | succ m ih =>
    intro k hm hk0 hP
    refine z_iload dX4_spells_28 rfl ?_
    refine z_aload_n dX4_spells_30 rfl rfl ?_
    refine z_get kX4 fX4_15 dX4_spells_31 ho (by rfl) ?_
    refine z_iload_n dX4_spells_34 rfl rfl ?_
    refine z_iald dX4_spells_35 h_2 hvs ?_
    refine z_st (st' := [.int v, .int (nI k)]) (by rw [nI_clamp (by omega), hv]) ?_
    refine z_icmp_ge (tgt := 70) dX4_spells_36 (by decide) (fun h1 => ?_) (fun h1 => ?_)
    · refine z_iconst (v := 1) dX4_spells_70 (by decide) ?_
      exact z_ireturn dX4_spells_71 rfl (by decide) (by have q := clamp_le h1 (by omega); rw [show v.toNatClampNeg - k = 0 by omega] at hP; exact hP)
    · have hk16 : k < 16 := len_in h1 (by rw [← hv]; exact hln s hs) (by omega)
      have hkv : k < v.toNatClampNeg := clamp_lt h1 (by omega)
      have hvl : vp_in (nI s * 16 + nI k) 480 := by rw [ix_let]; exact vp_in_nI (by omega) (by omega)
      have hix : (nI s * 16 + nI k).toNatClampNeg = s * 16 + k := by rw [ix_let]; exact nI_clamp (by omega)
      have em : v.toNatClampNeg - k = (v.toNatClampNeg - (k + 1)) + 1 := by omega
      refine z_aload_n dX4_spells_39 rfl rfl ?_
      refine z_get kX4 fX4_11 dX4_spells_40 ho (by rfl) ?_
      refine z_iload_n dX4_spells_43 rfl rfl ?_
      refine z_bipush (v := 16) dX4_spells_44 (by decide) ?_
      refine z_imul dX4_spells_46 ?_
      refine z_iload dX4_spells_47 rfl ?_
      refine z_iadd dX4_spells_49 ?_
      refine z_cald dX4_spells_50 h_1 hvl ?_
      refine z_aload_n dX4_spells_51 rfl rfl ?_
      refine z_iload_n dX4_spells_52 rfl rfl ?_
      refine z_iload dX4_spells_53 rfl ?_
      refine z_iadd dX4_spells_55 ?_
      refine z_callV (As := [_]) eX5_at sX5_at lX4_70 rfl dX4_spells_56 hS.choose_spec.1 (c_X5_at 0 hS _) (by omega) rfl (Nat.le_of_ble_eq_true rfl) (fun r cs1 hp => ?_)
      obtain ⟨rfl, e1⟩ := hp
      rw [e1]
      refine z_st (st' := [.int (sgAt t (fr + nI k)), .int (le (s * 16 + k))]) (by rw [hix]; rfl) ?_
      refine z_icmp_eq (tgt := 64) dX4_spells_59 (by decide) (fun h2 => ?_) (fun h2 => ?_)
      · refine z_iinc (v := nI (k + 1)) dX4_spells_64 rfl (show nI k + 1 = _ from nI_1 k) (by decide) ?_
        refine z_goto (tgt := 28) dX4_spells_67 (by decide) ?_
        refine ih (k + 1) (by omega) (by omega) ?_
        rw [em] at hP
        unfold scEq at hP
        rw [if_pos h2] at hP
        exact hP
      · refine z_iconst (v := 0) dX4_spells_62 (by decide) ?_
        exact z_ireturn dX4_spells_63 rfl (by decide) (by rw [em] at hP; unfold scEq at hP; rw [if_neg h2] at hP; exact hP)
set_option maxRecDepth 100000 in
set_option maxHeartbeats 4000000 in
theorem s_spells {G : xG} {cs : List va_E} {h n : Nat} {le ln sh at1 fc im rf fb : Nat → Int32} (d : Nat) {a r nr : Nat} {t : List Int32} {ov : Bool} (hd1 : 1 ≤ d) (hh : Sc G cs h n le ln sh at1 fc im rf fb) (hS : Sg G cs a r nr t ov) (sx fr to : Int32) : X G yX4_spells cX4_spells 6 (some .boolean) d [.ref (G.1 + h), .int sx, .ref (G.1 + a), .int fr, .int to] cs (fun r cs1 => r = some (.int (bI (scSp ln le t sx fr to))) ∧ cs1 = cs) := by
  refine X.of false (by decide +kernel) (by decide) (Nat.le_of_ble_eq_true rfl) ?_
  show Z (RX4, cX4_spells, 6, some .boolean, false) G d _ 0 [(0, .ref (G.1 + h)), (1, .int sx), (2, .ref (G.1 + a)), (3, .int fr), (4, .int to)] [] cs
  obtain ⟨ho, h_1, h_2, h_3, h_4, h_5, h_6, h_7, h_8, hn, hfc, hln⟩ := id hh
  refine z_iload_n dX4_spells_0 rfl rfl ?_
  refine z_if_lt (tgt := 23) dX4_spells_1 (by decide) (fun h1 => ?_) (fun h1 => ?_)
  · refine z_iconst (v := 0) dX4_spells_23 (by decide) ?_
    exact z_ireturn dX4_spells_24 rfl (by decide) ⟨by first | (rw [scSp, if_neg h1, if_neg h2, if_neg h3]; rfl) | simp [scSp, bI, *], rfl⟩
  · refine z_iload_n dX4_spells_4 rfl rfl ?_
    refine z_bipush (v := 30) dX4_spells_5 (by decide) ?_
    refine z_icmp_ge (tgt := 23) dX4_spells_7 (by decide) (fun h2 => ?_) (fun h2 => ?_)
    · refine z_iconst (v := 0) dX4_spells_23 (by decide) ?_
      exact z_ireturn dX4_spells_24 rfl (by decide) ⟨by first | (rw [scSp, if_neg h1, if_neg h2, if_neg h3]; rfl) | simp [scSp, bI, *], rfl⟩
    · obtain ⟨s, hs, rfl⟩ := vp_in_of (vin_lt (k := 30) (n := 30) h1 h2 (Nat.le_refl _) (by decide)) (by decide)
      have hvs : vp_in (nI s) 30 := vp_in_nI hs (by decide)
      have hcl : (nI s).toNatClampNeg = s := nI_clamp (by omega)
      refine z_aload_n dX4_spells_10 rfl rfl ?_
      refine z_get kX4 fX4_15 dX4_spells_11 ho (by rfl) ?_
      refine z_iload_n dX4_spells_14 rfl rfl ?_
      refine z_iald dX4_spells_15 h_2 hvs ?_
      refine z_iload dX4_spells_16 rfl ?_
      refine z_iload_n dX4_spells_18 rfl rfl ?_
      refine z_isub dX4_spells_19 ?_
      refine z_icmp_eq (tgt := 25) dX4_spells_20 (by decide) (fun h3 => ?_) (fun h3 => ?_)
      · refine z_iconst (v := 0) dX4_spells_25 (by decide) ?_
        refine z_istore dX4_spells_26 (by decide) ?_
        exact lp_spells hd1 hh hS hs rfl 17 0 (by decide) (by decide) ⟨by rw [scSp, if_neg h1, if_neg h2, if_pos h3, hcl]; rfl, rfl⟩
      · refine z_iconst (v := 0) dX4_spells_23 (by decide) ?_
        exact z_ireturn dX4_spells_24 rfl (by decide) ⟨by first | (rw [scSp, if_neg h1, if_neg h2, if_neg h3]; rfl) | simp [scSp, bI, *], rfl⟩

