def wX11_leads_105 (l1 l2 l3 : Int) (S : St) (K : Int → St → Prop) : Prop := (rng (l3) ∧ ((l3 = (-2) → K (1) S) ∧ ((¬ (l3 = (-2))) → ((0 : Int) ≤ l1 ∧ l1 < (200 : Int) ∧ (iv (-2) 7 (S.2 101 (l1)) → ((0 : Int) ≤ l2 ∧ l2 < (200 : Int) ∧ (iv 0 29 (S.2 99 (l2)) → ((0 : Int) ≤ ((20 * l3) + S.2 101 (l1)) ∧ ((20 * l3) + S.2 101 (l1)) < (7200 : Int) ∧ (iv (-2147483648) 2147483647 (S.2 99 (l2)) ∧ (∀ S8, S8 = pA S 70 (((20 * l3) + S.2 101 (l1))) (S.2 99 (l2)) → K (1) S8))))))))))
set_option maxRecDepth 100000 in
set_option maxHeartbeats 4000000 in
theorem bX11_leads_105 {G : xG} {sh : Nat → Option Sh} {J : St → List va_E → Prop} {d : Nat} {Post : xP} {l1 l2 l3 : Int} {S : St} {cs : List va_E} {K : Int → St → Prop} (hd : 6 ≤ d) (hJ : Stb sh J) (hT : isM sh) (hW : Wd G sh mT J S cs) (hP : ∀ (v : Int) (S : St) (cs : List va_E), K v S → Wd G sh mT J S cs → Post (some (.int (Int32.ofInt v))) cs)  (hw : wX11_leads_105 l1 l2 l3 S K ) : Z (RX11, cX11_leads, 4, some .boolean, false) G d Post 105 [(0, .ref (G.1 + 54)), (1, .int (Int32.ofInt (l1))), (2, .int (Int32.ofInt (l2))), (3, .int (Int32.ofInt (l3)))] [] cs := by
  unfold wX11_leads_105 at hw
  refine z_iload_n dX11_leads_105 rfl rfl ?_
  refine z_bipush (v := Int32.ofInt (-2)) dX11_leads_106 (by decide) ?_
  obtain ⟨q2, hw⟩ := hw
  refine i_icmp_eq (tgt := 133) dX11_leads_108 (by decide) q2 ⟨by decide, by decide⟩ (fun h1 => ?_) (fun h1 => ?_)
  · have hw := hw.1 h1
    refine z_iconst (v := Int32.ofInt 1) dX11_leads_133 rfl ?_
    exact z_ireturn dX11_leads_134 rfl (nar01 (by decide)) (hP _ _ _ hw hW)
  · have hw := hw.2 h1
    refine z_aload_n dX11_leads_111 rfl rfl ?_
    refine g_getR hW hT.1 mr17 kX11 fX11_56 dX11_leads_112 ?_
    refine z_bipush (v := Int32.ofInt 20) dX11_leads_115 (by decide) ?_
    refine z_iload_n dX11_leads_117 rfl rfl ?_
    refine i_imul dX11_leads_118 ?_
    refine z_aload_n dX11_leads_119 rfl rfl ?_
    refine g_getR hW hT.1 mr64 kX11 fX11_153 dX11_leads_120 ?_
    refine z_iload_n dX11_leads_123 rfl rfl ?_
    obtain ⟨q3a, q3b, hw⟩ := hw
    have q4 : iv (-2) 7 (S.2 101 (l1)) := mA101 hW _
    have hw := hw q4
    refine g_iald hW (ma101 hT) q3a q3b (by decide) dX11_leads_124 ?_
    refine i_iadd dX11_leads_125 ?_
    refine z_aload_n dX11_leads_126 rfl rfl ?_
    refine g_getR hW hT.1 mr62 kX11 fX11_147 dX11_leads_127 ?_
    refine z_iload_n dX11_leads_130 rfl rfl ?_
    obtain ⟨q5a, q5b, hw⟩ := hw
    have q6 : iv 0 29 (S.2 99 (l2)) := mA99 hW _
    have hw := hw q6
    refine g_iald hW (ma99 hT) q5a q5b (by decide) dX11_leads_131 ?_
    obtain ⟨q7a, q7b, hw⟩ := hw
    obtain ⟨q9, hw⟩ := hw
    refine g_iast hJ hW (ma70 hT) q7a q7b (by decide) q9 dX11_leads_132 (fun cs hW => ?_)
    obtain ⟨S8, hS8⟩ : ∃ x, x = pA S 70 (((20 * l3) + S.2 101 (l1))) (S.2 99 (l2)) := ⟨_, rfl⟩
    rw [← hS8] at hW
    have hw := hw S8 hS8
    refine z_iconst (v := Int32.ofInt 1) dX11_leads_133 rfl ?_
    exact z_ireturn dX11_leads_134 rfl (nar01 (by decide)) (hP _ _ _ hw hW)
def wX11_leads_73 (l1 l2 l3 : Int) (S : St) (K : Int → St → Prop) : Prop := (rng (l3) ∧ ((l3 = (-2) → wX11_leads_105 (l1) (l2) (l3) S K) ∧ ((¬ (l3 = (-2))) → ((0 : Int) ≤ l1 ∧ l1 < (200 : Int) ∧ (iv (-2) 7 (S.2 101 (l1)) → ((¬ S.2 101 (l1) = (-2) → wX11_leads_105 (l1) (l2) (l3) S K) ∧ ((¬ (¬ S.2 101 (l1) = (-2))) → ((0 : Int) ≤ l2 ∧ l2 < (200 : Int) ∧ (iv 0 29 (S.2 99 (l2)) → ((0 : Int) ≤ l3 ∧ l3 < (360 : Int) ∧ (iv (-2147483648) 2147483647 (S.2 99 (l2)) ∧ (∀ S9, S9 = pA S 69 (l3) (S.2 99 (l2)) → K (1) S9))))))))))))
set_option maxRecDepth 100000 in
set_option maxHeartbeats 4000000 in
theorem bX11_leads_73 {G : xG} {sh : Nat → Option Sh} {J : St → List va_E → Prop} {d : Nat} {Post : xP} {l1 l2 l3 : Int} {S : St} {cs : List va_E} {K : Int → St → Prop} (hd : 6 ≤ d) (hJ : Stb sh J) (hT : isM sh) (hW : Wd G sh mT J S cs) (hP : ∀ (v : Int) (S : St) (cs : List va_E), K v S → Wd G sh mT J S cs → Post (some (.int (Int32.ofInt v))) cs)  (hw : wX11_leads_73 l1 l2 l3 S K ) : Z (RX11, cX11_leads, 4, some .boolean, false) G d Post 73 [(0, .ref (G.1 + 54)), (1, .int (Int32.ofInt (l1))), (2, .int (Int32.ofInt (l2))), (3, .int (Int32.ofInt (l3)))] [] cs := by
  unfold wX11_leads_73 at hw
  refine z_iload_n dX11_leads_73 rfl rfl ?_
  refine z_bipush (v := Int32.ofInt (-2)) dX11_leads_74 (by decide) ?_
  obtain ⟨q2, hw⟩ := hw
  refine i_icmp_eq (tgt := 105) dX11_leads_76 (by decide) q2 ⟨by decide, by decide⟩ (fun h1 => ?_) (fun h1 => ?_)
  · have hw := hw.1 h1
    refine z_loc (L' := [(0, .ref (G.1 + 54)), (1, .int (Int32.ofInt (l1))), (2, .int (Int32.ofInt (l2))), (3, .int (Int32.ofInt (l3)))]) (List.forall_mem_cons.mpr ⟨rfl, (List.forall_mem_cons.mpr ⟨rfl, (List.forall_mem_cons.mpr ⟨rfl, (List.forall_mem_cons.mpr ⟨rfl, (fun _ h => nomatch h)⟩)⟩)⟩)⟩) ?_
    exact bX11_leads_105 hd hJ hT hW hP  hw
  · have hw := hw.2 h1
    refine z_aload_n dX11_leads_79 rfl rfl ?_
    refine g_getR hW hT.1 mr64 kX11 fX11_153 dX11_leads_80 ?_
    refine z_iload_n dX11_leads_83 rfl rfl ?_
    obtain ⟨q3a, q3b, hw⟩ := hw
    have q4 : iv (-2) 7 (S.2 101 (l1)) := mA101 hW _
    have hw := hw q4
    refine g_iald hW (ma101 hT) q3a q3b (by decide) dX11_leads_84 ?_
    refine z_bipush (v := Int32.ofInt (-2)) dX11_leads_85 (by decide) ?_
    refine i_icmp_ne (tgt := 105) dX11_leads_87 (by decide) (rngq q4 (by decide) (by decide)) ⟨by decide, by decide⟩ (fun h5 => ?_) (fun h5 => ?_)
    · have hw := hw.1 h5
      refine z_loc (L' := [(0, .ref (G.1 + 54)), (1, .int (Int32.ofInt (l1))), (2, .int (Int32.ofInt (l2))), (3, .int (Int32.ofInt (l3)))]) (List.forall_mem_cons.mpr ⟨rfl, (List.forall_mem_cons.mpr ⟨rfl, (List.forall_mem_cons.mpr ⟨rfl, (List.forall_mem_cons.mpr ⟨rfl, (fun _ h => nomatch h)⟩)⟩)⟩)⟩) ?_
      exact bX11_leads_105 hd hJ hT hW hP  hw
    · have hw := hw.2 h5
      refine z_aload_n dX11_leads_90 rfl rfl ?_
      refine g_getR hW hT.1 mr16 kX11 fX11_53 dX11_leads_91 ?_
      refine z_iload_n dX11_leads_94 rfl rfl ?_
      refine z_aload_n dX11_leads_95 rfl rfl ?_
      refine g_getR hW hT.1 mr62 kX11 fX11_147 dX11_leads_96 ?_
      refine z_iload_n dX11_leads_99 rfl rfl ?_
      obtain ⟨q6a, q6b, hw⟩ := hw
      have q7 : iv 0 29 (S.2 99 (l2)) := mA99 hW _
      have hw := hw q7
      refine g_iald hW (ma99 hT) q6a q6b (by decide) dX11_leads_100 ?_
      obtain ⟨q8a, q8b, hw⟩ := hw
      obtain ⟨q10, hw⟩ := hw
      refine g_iast hJ hW (ma69 hT) q8a q8b (by decide) q10 dX11_leads_101 (fun cs hW => ?_)
      obtain ⟨S9, hS9⟩ : ∃ x, x = pA S 69 (l3) (S.2 99 (l2)) := ⟨_, rfl⟩
      rw [← hS9] at hW
      have hw := hw S9 hS9
      refine z_goto (tgt := 133) dX11_leads_102 (by decide) ?_
      refine z_iconst (v := Int32.ofInt 1) dX11_leads_133 rfl ?_
      exact z_ireturn dX11_leads_134 rfl (nar01 (by decide)) (hP _ _ _ hw hW)
def wX11_leads (a1 : Int) (S : St) (K : Int → St → Prop) : Prop := rng a1 → (wX11_target (a1) S (fun r1 S2 => (rng (r1) ∧ ((¬ r1 = (-2) → ((0 : Int) ≤ a1 ∧ a1 < (200 : Int) ∧ (iv (-2) 359 (S2.2 100 (a1)) → (∀ x7 : Int, x7 = S2.2 100 (a1) → ((x7 = (-2) → wX11_leads_73 (a1) (r1) (x7) S2 K) ∧ ((¬ (x7 = (-2))) → ((0 : Int) ≤ a1 ∧ a1 < (200 : Int) ∧ (iv (-2) 7 (S2.2 101 (a1)) → ((S2.2 101 (a1) = (-2) → wX11_leads_73 (a1) (r1) (x7) S2 K) ∧ ((¬ (S2.2 101 (a1) = (-2))) → ((0 : Int) ≤ a1 ∧ a1 < (200 : Int) ∧ (iv 0 3000 (S2.2 86 (a1)) → ((0 : Int) ≤ a1 ∧ a1 < (200 : Int) ∧ (iv 0 3000 (S2.2 87 (a1)) → (wX11_classNamed (S2.2 86 (a1)) (S2.2 87 (a1)) S2 (fun r18 S19 => ((0 : Int) ≤ r1 ∧ r1 < (200 : Int) ∧ (iv 0 29 (S19.2 99 (r1)) → ((0 : Int) ≤ (60 + S19.2 99 (r1)) ∧ (60 + S19.2 99 (r1)) < (90 : Int) ∧ (iv 0 5 (S19.2 68 ((60 + S19.2 99 (r1)))) → (rng (r18) ∧ ((r18 = S19.2 68 ((60 + S19.2 99 (r1))) → wX11_leads_73 (a1) (r1) (x7) S19 K) ∧ ((¬ (r18 = S19.2 68 ((60 + S19.2 99 (r1))))) → K (0) S19))))))))))))))))))))))) ∧ ((¬ (¬ r1 = (-2))) → K (0) S2)))))
set_option maxRecDepth 100000 in
set_option maxHeartbeats 4000000 in
theorem lX11_leads {G : xG} {sh : Nat → Option Sh} {J : St → List va_E → Prop} {a1 : Int} {S : St} {cs : List va_E} {K : Int → St → Prop} (d : Nat) (hd : 6 ≤ d) (hJ : Stb sh J) (hT : isM sh) (hW : Wd G sh mT J S cs) (g1 : rng a1) (hw : wX11_leads a1 S K) : X G yX11_leads cX11_leads 4 (some .boolean) d [.ref (G.1 + 54), .int (Int32.ofInt a1)] cs (qI G sh mT J K) := by
  refine X.of false (by decide +kernel) (by decide) (Nat.le_of_ble_eq_true rfl) ?_
  show Z (RX11, cX11_leads, 4, some .boolean, false) G d _ 0 [(0, .ref (G.1 + 54)), (1, .int (Int32.ofInt a1))] [] cs
  have hP : ∀ (v : Int) (S : St) (cs : List va_E), K v S → Wd G sh mT J S cs → qI G sh mT J K (some (.int (Int32.ofInt v))) cs := fun v S cs a b => ⟨v, S, rfl, a, b⟩
  unfold wX11_leads at hw
  have hw := hw g1
  refine z_aload_n dX11_leads_0 rfl rfl ?_
  refine z_iload_n dX11_leads_1 rfl rfl ?_
  have hX := lX11_target 5 (Nat.le_refl _) hJ hT hW g1 hw
  refine z_callV (As := [_]) eX11_target sX11_target lX11_490 rfl dX11_leads_2 (hW.1 _ _ hT.1) hX (Nat.le_trans (by decide) hd) rfl (Nat.le_of_ble_eq_true rfl) (fun r cs hp => ?_)
  obtain ⟨r1, S2, rfl, hw, hW⟩ := hp
  refine z_st (st' := [.int (Int32.ofInt (r1))]) rfl ?_
  refine z_istore_n dX11_leads_5 rfl (by decide) ?_
  refine z_loc (L' := [(0, .ref (G.1 + 54)), (1, .int (Int32.ofInt (a1))), (2, .int (Int32.ofInt (r1)))]) (List.forall_mem_cons.mpr ⟨rfl, (List.forall_mem_cons.mpr ⟨rfl, (List.forall_mem_cons.mpr ⟨rfl, (fun _ h => nomatch h)⟩)⟩)⟩) ?_
  refine z_iload_n dX11_leads_6 rfl rfl ?_
  refine z_bipush (v := Int32.ofInt (-2)) dX11_leads_7 (by decide) ?_
  obtain ⟨q4, hw⟩ := hw
  refine i_icmp_ne (tgt := 14) dX11_leads_9 (by decide) q4 ⟨by decide, by decide⟩ (fun h3 => ?_) (fun h3 => ?_)
  · have hw := hw.1 h3
    refine z_aload_n dX11_leads_14 rfl rfl ?_
    refine g_getR hW hT.1 mr63 kX11 fX11_150 dX11_leads_15 ?_
    refine z_iload_n dX11_leads_18 rfl rfl ?_
    obtain ⟨q5a, q5b, hw⟩ := hw
    have q6 : iv (-2) 359 (S2.2 100 (a1)) := mA100 hW _
    have hw := hw q6
    refine g_iald hW (ma100 hT) q5a q5b (by decide) dX11_leads_19 ?_
    obtain ⟨x7, hx7⟩ : ∃ x : Int, x = S2.2 100 (a1) := ⟨_, rfl⟩
    have hw := hw x7 hx7
    refine z_st (st' := [.int (Int32.ofInt x7)]) (by rw [hx7]) ?_
    have q8 : rng x7 := by rw [hx7]; exact (rngq q6 (by decide) (by decide))
    have q9 : iv (-2) 359 x7 := by rw [hx7]; exact q6
    refine z_istore_n dX11_leads_20 rfl (by decide) ?_
    refine z_loc (L' := [(0, .ref (G.1 + 54)), (1, .int (Int32.ofInt (a1))), (2, .int (Int32.ofInt (r1))), (3, .int (Int32.ofInt (x7)))]) (List.forall_mem_cons.mpr ⟨rfl, (List.forall_mem_cons.mpr ⟨rfl, (List.forall_mem_cons.mpr ⟨rfl, (List.forall_mem_cons.mpr ⟨rfl, (fun _ h => nomatch h)⟩)⟩)⟩)⟩) ?_
    refine z_iload_n dX11_leads_21 rfl rfl ?_
    refine z_bipush (v := Int32.ofInt (-2)) dX11_leads_22 (by decide) ?_
    refine i_icmp_eq (tgt := 73) dX11_leads_24 (by decide) q8 ⟨by decide, by decide⟩ (fun h10 => ?_) (fun h10 => ?_)
    · have hw := hw.1 h10
      refine z_loc (L' := [(0, .ref (G.1 + 54)), (1, .int (Int32.ofInt (a1))), (2, .int (Int32.ofInt (r1))), (3, .int (Int32.ofInt (x7)))]) (List.forall_mem_cons.mpr ⟨rfl, (List.forall_mem_cons.mpr ⟨rfl, (List.forall_mem_cons.mpr ⟨rfl, (List.forall_mem_cons.mpr ⟨rfl, (fun _ h => nomatch h)⟩)⟩)⟩)⟩) ?_
      exact bX11_leads_73 hd hJ hT hW hP  hw
    · have hw := hw.2 h10
      refine z_aload_n dX11_leads_27 rfl rfl ?_
      refine g_getR hW hT.1 mr64 kX11 fX11_153 dX11_leads_28 ?_
      refine z_iload_n dX11_leads_31 rfl rfl ?_
      obtain ⟨q11a, q11b, hw⟩ := hw
      have q12 : iv (-2) 7 (S2.2 101 (a1)) := mA101 hW _
      have hw := hw q12
      refine g_iald hW (ma101 hT) q11a q11b (by decide) dX11_leads_32 ?_
      refine z_bipush (v := Int32.ofInt (-2)) dX11_leads_33 (by decide) ?_
      refine i_icmp_eq (tgt := 73) dX11_leads_35 (by decide) (rngq q12 (by decide) (by decide)) ⟨by decide, by decide⟩ (fun h13 => ?_) (fun h13 => ?_)
      · have hw := hw.1 h13
        refine z_loc (L' := [(0, .ref (G.1 + 54)), (1, .int (Int32.ofInt (a1))), (2, .int (Int32.ofInt (r1))), (3, .int (Int32.ofInt (x7)))]) (List.forall_mem_cons.mpr ⟨rfl, (List.forall_mem_cons.mpr ⟨rfl, (List.forall_mem_cons.mpr ⟨rfl, (List.forall_mem_cons.mpr ⟨rfl, (fun _ h => nomatch h)⟩)⟩)⟩)⟩) ?_
        exact bX11_leads_73 hd hJ hT hW hP  hw
      · have hw := hw.2 h13
        refine z_aload_n dX11_leads_38 rfl rfl ?_
        refine z_aload_n dX11_leads_39 rfl rfl ?_
        refine g_getR hW hT.1 mr45 kX11 fX11_108 dX11_leads_40 ?_
        refine z_iload_n dX11_leads_43 rfl rfl ?_
        obtain ⟨q14a, q14b, hw⟩ := hw
        have q15 : iv 0 3000 (S2.2 86 (a1)) := mA86 hW _
        have hw := hw q15
        refine g_iald hW (ma86 hT) q14a q14b (by decide) dX11_leads_44 ?_
        refine z_aload_n dX11_leads_45 rfl rfl ?_
        refine g_getR hW hT.1 mr46 kX11 fX11_111 dX11_leads_46 ?_
        refine z_iload_n dX11_leads_49 rfl rfl ?_
        obtain ⟨q16a, q16b, hw⟩ := hw
        have q17 : iv 0 3000 (S2.2 87 (a1)) := mA87 hW _
        have hw := hw q17
        refine g_iald hW (ma87 hT) q16a q16b (by decide) dX11_leads_50 ?_
        have hX := lX11_classNamed 2 (Nat.le_refl _) hJ hT hW (rngq q15 (by decide) (by decide)) (rngq q17 (by decide) (by decide)) hw
        refine z_callV (As := [_, _]) eX11_classNamed sX11_classNamed lX11_438 rfl dX11_leads_51 (hW.1 _ _ hT.1) hX (Nat.le_trans (by decide) hd) rfl (Nat.le_of_ble_eq_true rfl) (fun r cs hp => ?_)
        obtain ⟨r18, S19, rfl, hw, hW⟩ := hp
        refine z_st (st' := [.int (Int32.ofInt (r18))]) rfl ?_
        refine z_aload_n dX11_leads_54 rfl rfl ?_
        refine g_getR hW hT.1 mr15 kX11 fX11_50 dX11_leads_55 ?_
        refine z_bipush (v := Int32.ofInt 60) dX11_leads_58 (by decide) ?_
        refine z_aload_n dX11_leads_60 rfl rfl ?_
        refine g_getR hW hT.1 mr62 kX11 fX11_147 dX11_leads_61 ?_
        refine z_iload_n dX11_leads_64 rfl rfl ?_
        obtain ⟨q20a, q20b, hw⟩ := hw
        have q21 : iv 0 29 (S19.2 99 (r1)) := mA99 hW _
        have hw := hw q21
        refine g_iald hW (ma99 hT) q20a q20b (by decide) dX11_leads_65 ?_
        refine i_iadd dX11_leads_66 ?_
        obtain ⟨q22a, q22b, hw⟩ := hw
        have q23 : iv 0 5 (S19.2 68 ((60 + S19.2 99 (r1)))) := mA68 hW _
        have hw := hw q23
        refine g_iald hW (ma68 hT) q22a q22b (by decide) dX11_leads_67 ?_
        obtain ⟨q25, hw⟩ := hw
        refine i_icmp_eq (tgt := 73) dX11_leads_68 (by decide) q25 (rngq q23 (by decide) (by decide)) (fun h24 => ?_) (fun h24 => ?_)
        · have hw := hw.1 h24
          refine z_loc (L' := [(0, .ref (G.1 + 54)), (1, .int (Int32.ofInt (a1))), (2, .int (Int32.ofInt (r1))), (3, .int (Int32.ofInt (x7)))]) (List.forall_mem_cons.mpr ⟨rfl, (List.forall_mem_cons.mpr ⟨rfl, (List.forall_mem_cons.mpr ⟨rfl, (List.forall_mem_cons.mpr ⟨rfl, (fun _ h => nomatch h)⟩)⟩)⟩)⟩) ?_
          exact bX11_leads_73 hd hJ hT hW hP  hw
        · have hw := hw.2 h24
          refine z_iconst (v := Int32.ofInt 0) dX11_leads_71 rfl ?_
          exact z_ireturn dX11_leads_72 rfl (nar01 (by decide)) (hP _ _ _ hw hW)
  · have hw := hw.2 h3
    refine z_iconst (v := Int32.ofInt 0) dX11_leads_12 rfl ?_
    exact z_ireturn dX11_leads_13 rfl (nar01 (by decide)) (hP _ _ _ hw hW)

def wX11_limit (a1 : Int) (S : St) (K : Int → St → Prop) : Prop := rng a1 → (wX11_in (a1) (1) (20) S (fun r1 S2 => (rng (r1) ∧ ((¬ r1 = 0 → (iv 1 20 (S2.1 54 19) → (iv 1 20 (a1) ∧ (∀ S6, S6 = pI S2 54 19 (a1) → K (S2.1 54 19) S6)))) ∧ ((¬ (¬ r1 = 0)) → K ((-1)) S2)))))
set_option maxRecDepth 100000 in
set_option maxHeartbeats 4000000 in
theorem lX11_limit {G : xG} {sh : Nat → Option Sh} {J : St → List va_E → Prop} {a1 : Int} {S : St} {cs : List va_E} {K : Int → St → Prop} (d : Nat) (hd : 1 ≤ d) (hJ : Stb sh J) (hT : isM sh) (hW : Wd G sh mT J S cs) (g1 : rng a1) (hw : wX11_limit a1 S K) : X G yX11_limit cX11_limit 3 (some .int) d [.ref (G.1 + 54), .int (Int32.ofInt a1)] cs (qI G sh mT J K) := by
  refine X.of false (by decide +kernel) (by decide) (Nat.le_of_ble_eq_true rfl) ?_
  show Z (RX11, cX11_limit, 3, some .int, false) G d _ 0 [(0, .ref (G.1 + 54)), (1, .int (Int32.ofInt a1))] [] cs
  have hP : ∀ (v : Int) (S : St) (cs : List va_E), K v S → Wd G sh mT J S cs → qI G sh mT J K (some (.int (Int32.ofInt v))) cs := fun v S cs a b => ⟨v, S, rfl, a, b⟩
  unfold wX11_limit at hw
  have hw := hw g1
  refine z_iload_n dX11_limit_0 rfl rfl ?_
  refine z_iconst (v := Int32.ofInt 1) dX11_limit_1 rfl ?_
  refine z_bipush (v := Int32.ofInt 20) dX11_limit_2 (by decide) ?_
  have hX := lX11_in 0 (Nat.le_refl _) hJ hT hW g1 ⟨by decide, by decide⟩ ⟨by decide, by decide⟩ hw
  refine z_callS (As := [_, _, _]) eX11_in sX11_in lX11_174 dX11_limit_4 hX (Nat.le_trans (by decide) hd) rfl (Nat.le_of_ble_eq_true rfl) (fun r cs hp => ?_)
  obtain ⟨r1, S2, rfl, hw, hW⟩ := hp
  refine z_st (st' := [.int (Int32.ofInt (r1))]) rfl ?_
  obtain ⟨q4, hw⟩ := hw
  refine i_if_ne (tgt := 12) dX11_limit_7 (by decide) q4 (fun h3 => ?_) (fun h3 => ?_)
  · have hw := hw.1 h3
    refine z_aload_n dX11_limit_12 rfl rfl ?_
    have q5 : iv 1 20 (S2.1 54 19) := mI19 hW
    have hw := hw q5
    refine g_getI hW hT.1 mr19 kX11 fX11_59 dX11_limit_13 ?_
    refine z_istore_n dX11_limit_16 rfl (by decide) ?_
    refine z_loc (L' := [(0, .ref (G.1 + 54)), (1, .int (Int32.ofInt (a1))), (2, .int (Int32.ofInt (S2.1 54 19)))]) (List.forall_mem_cons.mpr ⟨rfl, (List.forall_mem_cons.mpr ⟨rfl, (List.forall_mem_cons.mpr ⟨rfl, (fun _ h => nomatch h)⟩)⟩)⟩) ?_
    refine z_aload_n dX11_limit_17 rfl rfl ?_
    refine z_iload_n dX11_limit_18 rfl rfl ?_
    obtain ⟨q7, hw⟩ := hw
    refine g_putI hJ hW hT.1 mr19 kX11 fX11_59 dX11_limit_19 rfl rfl rfl q7 (fun cs hW => ?_)
    obtain ⟨S6, hS6⟩ : ∃ x, x = pI S2 54 19 (a1) := ⟨_, rfl⟩
    rw [← hS6] at hW
    have hw := hw S6 hS6
    refine z_iload_n dX11_limit_22 rfl rfl ?_
    exact z_ireturn dX11_limit_23 rfl rfl (hP _ _ _ hw hW)
  · have hw := hw.2 h3
    refine z_iconst (v := Int32.ofInt (-1)) dX11_limit_10 rfl ?_
    exact z_ireturn dX11_limit_11 rfl rfl (hP _ _ _ hw hW)

def wX11_make (a1 : Int) (S : St) (K : Int → St → Prop) : Prop := rng a1 → (iv 0 6 (S.1 54 2) → (rng ((S.1 54 2 - 1)) ∧ (wX11_in (a1) (0) ((S.1 54 2 - 1)) S (fun r3 S4 => (rng (r3) ∧ ((r3 = 0 → K ((-1)) S4) ∧ ((¬ (r3 = 0)) → ((0 : Int) ≤ 0 ∧ 0 < (3 : Int) ∧ (iv 0 30 (S4.2 67 (0)) → ((¬ S4.2 67 (0) = 30 → (wX11_object (0) (a1) S4 (fun r10 S11 => K (r10) S11))) ∧ ((¬ (¬ S4.2 67 (0) = 30)) → K ((-1)) S4)))))))))))
set_option maxRecDepth 100000 in
set_option maxHeartbeats 4000000 in
theorem lX11_make {G : xG} {sh : Nat → Option Sh} {J : St → List va_E → Prop} {a1 : Int} {S : St} {cs : List va_E} {K : Int → St → Prop} (d : Nat) (hd : 1 ≤ d) (hJ : Stb sh J) (hT : isM sh) (hW : Wd G sh mT J S cs) (g1 : rng a1) (hw : wX11_make a1 S K) : X G yX11_make cX11_make 2 (some .int) d [.ref (G.1 + 54), .int (Int32.ofInt a1)] cs (qI G sh mT J K) := by
  refine X.of false (by decide +kernel) (by decide) (Nat.le_of_ble_eq_true rfl) ?_
  show Z (RX11, cX11_make, 2, some .int, false) G d _ 0 [(0, .ref (G.1 + 54)), (1, .int (Int32.ofInt a1))] [] cs
  have hP : ∀ (v : Int) (S : St) (cs : List va_E), K v S → Wd G sh mT J S cs → qI G sh mT J K (some (.int (Int32.ofInt v))) cs := fun v S cs a b => ⟨v, S, rfl, a, b⟩
  unfold wX11_make at hw
  have hw := hw g1
  refine z_iload_n dX11_make_0 rfl rfl ?_
  refine z_iconst (v := Int32.ofInt 0) dX11_make_1 rfl ?_
  refine z_aload_n dX11_make_2 rfl rfl ?_
  have q1 : iv 0 6 (S.1 54 2) := mI2 hW
  have hw := hw q1
  refine g_getI hW hT.1 mr2 kX11 fX11_238 dX11_make_3 ?_
  refine z_iconst (v := Int32.ofInt 1) dX11_make_6 rfl ?_
  refine i_isub dX11_make_7 ?_
  obtain ⟨q2, hw⟩ := hw
  have hX := lX11_in 0 (Nat.le_refl _) hJ hT hW g1 ⟨by decide, by decide⟩ q2 hw
  refine z_callS (As := [_, _, _]) eX11_in sX11_in lX11_174 dX11_make_8 hX (Nat.le_trans (by decide) hd) rfl (Nat.le_of_ble_eq_true rfl) (fun r cs hp => ?_)
  obtain ⟨r3, S4, rfl, hw, hW⟩ := hp
  refine z_st (st' := [.int (Int32.ofInt (r3))]) rfl ?_
  obtain ⟨q6, hw⟩ := hw
  refine i_if_eq (tgt := 25) dX11_make_11 (by decide) q6 (fun h5 => ?_) (fun h5 => ?_)
  · have hw := hw.1 h5
    refine z_iconst (v := Int32.ofInt (-1)) dX11_make_25 rfl ?_
    exact z_ireturn dX11_make_26 rfl rfl (hP _ _ _ hw hW)
  · have hw := hw.2 h5
    refine z_aload_n dX11_make_14 rfl rfl ?_
    refine g_getR hW hT.1 mr14 kX11 fX11_47 dX11_make_15 ?_
    refine z_iconst (v := Int32.ofInt 0) dX11_make_18 rfl ?_
    obtain ⟨q7a, q7b, hw⟩ := hw
    have q8 : iv 0 30 (S4.2 67 (0)) := mA67 hW _
    have hw := hw q8
    refine g_iald hW (ma67 hT) q7a q7b (by decide) dX11_make_19 ?_
    refine z_bipush (v := Int32.ofInt 30) dX11_make_20 (by decide) ?_
    refine i_icmp_ne (tgt := 27) dX11_make_22 (by decide) (rngq q8 (by decide) (by decide)) ⟨by decide, by decide⟩ (fun h9 => ?_) (fun h9 => ?_)
    · have hw := hw.1 h9
      refine z_aload_n dX11_make_27 rfl rfl ?_
      refine z_iconst (v := Int32.ofInt 0) dX11_make_28 rfl ?_
      refine z_iload_n dX11_make_29 rfl rfl ?_
      have hX := lX11_object 0 (Nat.le_refl _) hJ hT hW ⟨by decide, by decide⟩ g1 hw
      refine z_callV (As := [_, _]) eX11_object sX11_object lX11_250 rfl dX11_make_30 (hW.1 _ _ hT.1) hX (Nat.le_trans (by decide) hd) rfl (Nat.le_of_ble_eq_true rfl) (fun r cs hp => ?_)
      obtain ⟨r10, S11, rfl, hw, hW⟩ := hp
      refine z_st (st' := [.int (Int32.ofInt (r10))]) rfl ?_
      exact z_ireturn dX11_make_33 rfl rfl (hP _ _ _ hw hW)
    · have hw := hw.2 h9
      refine z_iconst (v := Int32.ofInt (-1)) dX11_make_25 rfl ?_
      exact z_ireturn dX11_make_26 rfl rfl (hP _ _ _ hw hW)

def wX11_meaningless_63 (l1 : Int) (S : St) (K : Int → St → Prop) (B35 : Int → St → Prop) : Prop := B35 ((l1 + 1)) S
set_option maxRecDepth 100000 in
set_option maxHeartbeats 4000000 in
theorem bX11_meaningless_63 {G : xG} {sh : Nat → Option Sh} {J : St → List va_E → Prop} {d : Nat} {Post : xP} {l1 : Int} {S : St} {cs : List va_E} {K : Int → St → Prop} {B35 : Int → St → Prop} (hd : 7 ≤ d) (hJ : Stb sh J) (hT : isM sh) (hW : Wd G sh mT J S cs) (hP : ∀ (v : Int) (S : St) (cs : List va_E), K v S → Wd G sh mT J S cs → Post (some (.int (Int32.ofInt v))) cs) (hB35 : ∀ (l1 : Int) (S : St) (cs : List va_E), B35 l1 S → Wd G sh mT J S cs → Z (RX11, cX11_meaningless, 2, some .int, false) G d Post 35 [(0, .ref (G.1 + 54)), (1, .int (Int32.ofInt (l1)))] [] cs) (hw : wX11_meaningless_63 l1 S K B35) : Z (RX11, cX11_meaningless, 2, some .int, false) G d Post 63 [(0, .ref (G.1 + 54)), (1, .int (Int32.ofInt (l1)))] [] cs := by
  unfold wX11_meaningless_63 at hw
  refine i_iinc (l := l1) dX11_meaningless_63 rfl (by decide) ?_
  refine z_loc (L' := [(0, .ref (G.1 + 54)), (1, .int (Int32.ofInt ((l1 + 1))))]) (List.forall_mem_cons.mpr ⟨rfl, (List.forall_mem_cons.mpr ⟨rfl, (fun _ h => nomatch h)⟩)⟩) ?_
  refine z_goto (tgt := 35) dX11_meaningless_66 (by decide) ?_
  refine z_loc (L' := [(0, .ref (G.1 + 54)), (1, .int (Int32.ofInt ((l1 + 1))))]) (List.forall_mem_cons.mpr ⟨rfl, (List.forall_mem_cons.mpr ⟨rfl, (fun _ h => nomatch h)⟩)⟩) ?_
  exact hB35 _ _ _ hw hW
def wX11_meaningless_35' (l1 : Int) (S : St) (K : Int → St → Prop) (B35 : Int → St → Prop) : Prop := (iv 0 200 (S.1 54 43) → (rng (l1) ∧ ((S.1 54 43 ≤ l1 → K ((-2)) S) ∧ ((¬ (S.1 54 43 ≤ l1)) → ((0 : Int) ≤ l1 ∧ l1 < (200 : Int) ∧ (iv (-2) 5 (S.2 98 (l1)) → ((¬ S.2 98 (l1) = 5 → wX11_meaningless_63 (l1) S K B35) ∧ ((¬ (¬ S.2 98 (l1) = 5)) → (wX11_leads (l1) S (fun r7 S8 => (rng (r7) ∧ ((¬ r7 = 0 → wX11_meaningless_63 (l1) S8 K B35) ∧ ((¬ (¬ r7 = 0)) → K (l1) S8)))))))))))))
set_option maxRecDepth 100000 in
set_option maxHeartbeats 4000000 in
theorem bX11_meaningless_35' {G : xG} {sh : Nat → Option Sh} {J : St → List va_E → Prop} {d : Nat} {Post : xP} {l1 : Int} {S : St} {cs : List va_E} {K : Int → St → Prop} {B35 : Int → St → Prop} (hd : 7 ≤ d) (hJ : Stb sh J) (hT : isM sh) (hW : Wd G sh mT J S cs) (hP : ∀ (v : Int) (S : St) (cs : List va_E), K v S → Wd G sh mT J S cs → Post (some (.int (Int32.ofInt v))) cs) (hB35 : ∀ (l1 : Int) (S : St) (cs : List va_E), B35 l1 S → Wd G sh mT J S cs → Z (RX11, cX11_meaningless, 2, some .int, false) G d Post 35 [(0, .ref (G.1 + 54)), (1, .int (Int32.ofInt (l1)))] [] cs) (hw : wX11_meaningless_35' l1 S K B35) : Z (RX11, cX11_meaningless, 2, some .int, false) G d Post 35 [(0, .ref (G.1 + 54)), (1, .int (Int32.ofInt (l1)))] [] cs := by
  unfold wX11_meaningless_35' at hw
  refine z_iload_n dX11_meaningless_35 rfl rfl ?_
  refine z_aload_n dX11_meaningless_36 rfl rfl ?_
  have q1 : iv 0 200 (S.1 54 43) := mI43 hW
  have hw := hw q1
  refine g_getI hW hT.1 mr43 kX11 fX11_386 dX11_meaningless_37 ?_
  obtain ⟨q3, hw⟩ := hw
  refine i_icmp_ge (tgt := 69) dX11_meaningless_40 (by decide) q3 (rngq q1 (by decide) (by decide)) (fun h2 => ?_) (fun h2 => ?_)
  · have hw := hw.1 h2
    refine z_bipush (v := Int32.ofInt (-2)) dX11_meaningless_69 (by decide) ?_
    exact z_ireturn dX11_meaningless_71 rfl rfl (hP _ _ _ hw hW)
  · have hw := hw.2 h2
    refine z_aload_n dX11_meaningless_43 rfl rfl ?_
    refine g_getR hW hT.1 mr61 kX11 fX11_144 dX11_meaningless_44 ?_
    refine z_iload_n dX11_meaningless_47 rfl rfl ?_
    obtain ⟨q4a, q4b, hw⟩ := hw
    have q5 : iv (-2) 5 (S.2 98 (l1)) := mA98 hW _
    have hw := hw q5
    refine g_iald hW (ma98 hT) q4a q4b (by decide) dX11_meaningless_48 ?_
    refine z_iconst (v := Int32.ofInt 5) dX11_meaningless_49 rfl ?_
    refine i_icmp_ne (tgt := 63) dX11_meaningless_50 (by decide) (rngq q5 (by decide) (by decide)) ⟨by decide, by decide⟩ (fun h6 => ?_) (fun h6 => ?_)
    · have hw := hw.1 h6
      refine z_loc (L' := [(0, .ref (G.1 + 54)), (1, .int (Int32.ofInt (l1)))]) (List.forall_mem_cons.mpr ⟨rfl, (List.forall_mem_cons.mpr ⟨rfl, (fun _ h => nomatch h)⟩)⟩) ?_
      exact bX11_meaningless_63 hd hJ hT hW hP hB35 hw
    · have hw := hw.2 h6
      refine z_aload_n dX11_meaningless_53 rfl rfl ?_
      refine z_iload_n dX11_meaningless_54 rfl rfl ?_
      have hX := lX11_leads 6 (Nat.le_refl _) hJ hT hW q3 hw
      refine z_callV (As := [_]) eX11_leads sX11_leads lX11_496 rfl dX11_meaningless_55 (hW.1 _ _ hT.1) hX (Nat.le_trans (by decide) hd) rfl (Nat.le_of_ble_eq_true rfl) (fun r cs hp => ?_)
      obtain ⟨r7, S8, rfl, hw, hW⟩ := hp
      refine z_st (st' := [.int (Int32.ofInt (r7))]) rfl ?_
      obtain ⟨q10, hw⟩ := hw
      refine i_if_ne (tgt := 63) dX11_meaningless_58 (by decide) q10 (fun h9 => ?_) (fun h9 => ?_)
      · have hw := hw.1 h9
        refine z_loc (L' := [(0, .ref (G.1 + 54)), (1, .int (Int32.ofInt (l1)))]) (List.forall_mem_cons.mpr ⟨rfl, (List.forall_mem_cons.mpr ⟨rfl, (fun _ h => nomatch h)⟩)⟩) ?_
        exact bX11_meaningless_63 hd hJ hT hW hP hB35 hw
      · have hw := hw.2 h9
        refine z_iload_n dX11_meaningless_61 rfl rfl ?_
        exact z_ireturn dX11_meaningless_62 rfl rfl (hP _ _ _ hw hW)
def wX11_meaningless_35 (l1 : Int) (S : St) (K : Int → St → Prop) : Prop := ∃ (Iv : Int → St → Prop) (mu : Int → St → Nat), Iv l1 S ∧ ∀ (l1 : Int) (S : St), Iv l1 S → wX11_meaningless_35' l1 S K  (fun ml1 T => Iv ml1 T ∧ mu ml1 T < mu l1 S)
set_option maxRecDepth 100000 in
set_option maxHeartbeats 4000000 in
theorem bX11_meaningless_35 {G : xG} {sh : Nat → Option Sh} {J : St → List va_E → Prop} {d : Nat} {Post : xP} {l1 : Int} {S : St} {cs : List va_E} {K : Int → St → Prop} (hd : 7 ≤ d) (hJ : Stb sh J) (hT : isM sh) (hW : Wd G sh mT J S cs) (hP : ∀ (v : Int) (S : St) (cs : List va_E), K v S → Wd G sh mT J S cs → Post (some (.int (Int32.ofInt v))) cs)  (hw : wX11_meaningless_35 l1 S K ) : Z (RX11, cX11_meaningless, 2, some .int, false) G d Post 35 [(0, .ref (G.1 + 54)), (1, .int (Int32.ofInt (l1)))] [] cs := by
  unfold wX11_meaningless_35 at hw
  obtain ⟨Iv, mu, h0, hs⟩ := hw
  have key : ∀ (n : Nat) (l1 : Int) (S : St) (cs : List va_E), mu l1 S < n → Iv l1 S → Wd G sh mT J S cs → Z (RX11, cX11_meaningless, 2, some .int, false) G d Post 35 [(0, .ref (G.1 + 54)), (1, .int (Int32.ofInt (l1)))] [] cs := by
    intro n
    induction n with
    | zero => intro l1 S cs hn; exact absurd hn (Nat.not_lt_zero _)
    | succ n ih =>
      intro l1 S cs hn hI hW
      exact bX11_meaningless_35' hd hJ hT hW hP  (fun l1 S cs hb hW => ih l1 S cs (Nat.lt_of_lt_of_le hb.2 (Nat.le_of_lt_succ hn)) hb.1 hW) (hs l1 S hI)
  exact key _ _ _ _ (Nat.lt_succ_self _) h0 hW
def wX11_meaningless_9' (l1 : Int) (S : St) (K : Int → St → Prop) (B9 : Int → St → Prop) : Prop := (iv 0 200 (S.1 54 43) → (rng (l1) ∧ ((S.1 54 43 ≤ l1 → wX11_meaningless_35 (0) S K) ∧ ((¬ (S.1 54 43 ≤ l1)) → (wX11_hasMeaning (l1) S (fun r4 S5 => (rng (r4) ∧ ((¬ r4 = 0 → B9 ((l1 + 1)) S5) ∧ ((¬ (¬ r4 = 0)) → K (l1) S5)))))))))
set_option maxRecDepth 100000 in
set_option maxHeartbeats 4000000 in
theorem bX11_meaningless_9' {G : xG} {sh : Nat → Option Sh} {J : St → List va_E → Prop} {d : Nat} {Post : xP} {l1 : Int} {S : St} {cs : List va_E} {K : Int → St → Prop} {B9 : Int → St → Prop} (hd : 7 ≤ d) (hJ : Stb sh J) (hT : isM sh) (hW : Wd G sh mT J S cs) (hP : ∀ (v : Int) (S : St) (cs : List va_E), K v S → Wd G sh mT J S cs → Post (some (.int (Int32.ofInt v))) cs) (hB9 : ∀ (l1 : Int) (S : St) (cs : List va_E), B9 l1 S → Wd G sh mT J S cs → Z (RX11, cX11_meaningless, 2, some .int, false) G d Post 9 [(0, .ref (G.1 + 54)), (1, .int (Int32.ofInt (l1)))] [] cs) (hw : wX11_meaningless_9' l1 S K B9) : Z (RX11, cX11_meaningless, 2, some .int, false) G d Post 9 [(0, .ref (G.1 + 54)), (1, .int (Int32.ofInt (l1)))] [] cs := by
  unfold wX11_meaningless_9' at hw
  refine z_iload_n dX11_meaningless_9 rfl rfl ?_
  refine z_aload_n dX11_meaningless_10 rfl rfl ?_
  have q1 : iv 0 200 (S.1 54 43) := mI43 hW
  have hw := hw q1
  refine g_getI hW hT.1 mr43 kX11 fX11_386 dX11_meaningless_11 ?_
  obtain ⟨q3, hw⟩ := hw
  refine i_icmp_ge (tgt := 33) dX11_meaningless_14 (by decide) q3 (rngq q1 (by decide) (by decide)) (fun h2 => ?_) (fun h2 => ?_)
  · have hw := hw.1 h2
    refine z_iconst (v := Int32.ofInt 0) dX11_meaningless_33 rfl ?_
    refine z_istore_n dX11_meaningless_34 rfl (by decide) ?_
    refine z_loc (L' := [(0, .ref (G.1 + 54)), (1, .int (Int32.ofInt (0)))]) (List.forall_mem_cons.mpr ⟨rfl, (List.forall_mem_cons.mpr ⟨rfl, (fun _ h => nomatch h)⟩)⟩) ?_
    refine z_loc (L' := [(0, .ref (G.1 + 54)), (1, .int (Int32.ofInt (0)))]) (List.forall_mem_cons.mpr ⟨rfl, (List.forall_mem_cons.mpr ⟨rfl, (fun _ h => nomatch h)⟩)⟩) ?_
    exact bX11_meaningless_35 hd hJ hT hW hP  hw
  · have hw := hw.2 h2
    refine z_aload_n dX11_meaningless_17 rfl rfl ?_
    refine z_iload_n dX11_meaningless_18 rfl rfl ?_
    have hX := lX11_hasMeaning 5 (Nat.le_refl _) hJ hT hW q3 hw
    refine z_callV (As := [_]) eX11_hasMeaning sX11_hasMeaning lX11_493 rfl dX11_meaningless_19 (hW.1 _ _ hT.1) hX (Nat.le_trans (by decide) hd) rfl (Nat.le_of_ble_eq_true rfl) (fun r cs hp => ?_)
    obtain ⟨r4, S5, rfl, hw, hW⟩ := hp
    refine z_st (st' := [.int (Int32.ofInt (r4))]) rfl ?_
    obtain ⟨q7, hw⟩ := hw
    refine i_if_ne (tgt := 27) dX11_meaningless_22 (by decide) q7 (fun h6 => ?_) (fun h6 => ?_)
    · have hw := hw.1 h6
      refine i_iinc (l := l1) dX11_meaningless_27 rfl (by decide) ?_
      refine z_loc (L' := [(0, .ref (G.1 + 54)), (1, .int (Int32.ofInt ((l1 + 1))))]) (List.forall_mem_cons.mpr ⟨rfl, (List.forall_mem_cons.mpr ⟨rfl, (fun _ h => nomatch h)⟩)⟩) ?_
      refine z_goto (tgt := 9) dX11_meaningless_30 (by decide) ?_
      refine z_loc (L' := [(0, .ref (G.1 + 54)), (1, .int (Int32.ofInt ((l1 + 1))))]) (List.forall_mem_cons.mpr ⟨rfl, (List.forall_mem_cons.mpr ⟨rfl, (fun _ h => nomatch h)⟩)⟩) ?_
      exact hB9 _ _ _ hw hW
    · have hw := hw.2 h6
      refine z_iload_n dX11_meaningless_25 rfl rfl ?_
      exact z_ireturn dX11_meaningless_26 rfl rfl (hP _ _ _ hw hW)
def wX11_meaningless_9 (l1 : Int) (S : St) (K : Int → St → Prop) : Prop := ∃ (Iv : Int → St → Prop) (mu : Int → St → Nat), Iv l1 S ∧ ∀ (l1 : Int) (S : St), Iv l1 S → wX11_meaningless_9' l1 S K  (fun ml1 T => Iv ml1 T ∧ mu ml1 T < mu l1 S)
set_option maxRecDepth 100000 in
set_option maxHeartbeats 4000000 in
theorem bX11_meaningless_9 {G : xG} {sh : Nat → Option Sh} {J : St → List va_E → Prop} {d : Nat} {Post : xP} {l1 : Int} {S : St} {cs : List va_E} {K : Int → St → Prop} (hd : 7 ≤ d) (hJ : Stb sh J) (hT : isM sh) (hW : Wd G sh mT J S cs) (hP : ∀ (v : Int) (S : St) (cs : List va_E), K v S → Wd G sh mT J S cs → Post (some (.int (Int32.ofInt v))) cs)  (hw : wX11_meaningless_9 l1 S K ) : Z (RX11, cX11_meaningless, 2, some .int, false) G d Post 9 [(0, .ref (G.1 + 54)), (1, .int (Int32.ofInt (l1)))] [] cs := by
  unfold wX11_meaningless_9 at hw
  obtain ⟨Iv, mu, h0, hs⟩ := hw
  have key : ∀ (n : Nat) (l1 : Int) (S : St) (cs : List va_E), mu l1 S < n → Iv l1 S → Wd G sh mT J S cs → Z (RX11, cX11_meaningless, 2, some .int, false) G d Post 9 [(0, .ref (G.1 + 54)), (1, .int (Int32.ofInt (l1)))] [] cs := by
    intro n
    induction n with
    | zero => intro l1 S cs hn; exact absurd hn (Nat.not_lt_zero _)
    | succ n ih =>
      intro l1 S cs hn hI hW
      exact bX11_meaningless_9' hd hJ hT hW hP  (fun l1 S cs hb hW => ih l1 S cs (Nat.lt_of_lt_of_le hb.2 (Nat.le_of_lt_succ hn)) hb.1 hW) (hs l1 S hI)
  exact key _ _ _ _ (Nat.lt_succ_self _) h0 hW
def wX11_meaningless (S : St) (K : Int → St → Prop) : Prop := ((0 : Int) ≤ 2 ∧ 2 < (3 : Int) ∧ (∀ S2, S2 = pA S 67 (2) (0) → wX11_meaningless_9 (0) S2 K))
set_option maxRecDepth 100000 in
set_option maxHeartbeats 4000000 in
theorem lX11_meaningless {G : xG} {sh : Nat → Option Sh} {J : St → List va_E → Prop} {S : St} {cs : List va_E} {K : Int → St → Prop} (d : Nat) (hd : 7 ≤ d) (hJ : Stb sh J) (hT : isM sh) (hW : Wd G sh mT J S cs)  (hw : wX11_meaningless  S K) : X G yX11_meaningless cX11_meaningless 2 (some .int) d [.ref (G.1 + 54)] cs (qI G sh mT J K) := by
  refine X.of false (by decide +kernel) (by decide) (Nat.le_of_ble_eq_true rfl) ?_
  show Z (RX11, cX11_meaningless, 2, some .int, false) G d _ 0 [(0, .ref (G.1 + 54))] [] cs
  have hP : ∀ (v : Int) (S : St) (cs : List va_E), K v S → Wd G sh mT J S cs → qI G sh mT J K (some (.int (Int32.ofInt v))) cs := fun v S cs a b => ⟨v, S, rfl, a, b⟩
  unfold wX11_meaningless at hw
  refine z_aload_n dX11_meaningless_0 rfl rfl ?_
  refine g_getR hW hT.1 mr14 kX11 fX11_47 dX11_meaningless_1 ?_
  refine z_iconst (v := Int32.ofInt 2) dX11_meaningless_4 rfl ?_
  refine z_iconst (v := Int32.ofInt 0) dX11_meaningless_5 rfl ?_
  obtain ⟨q1a, q1b, hw⟩ := hw
  refine g_iast hJ hW (ma67 hT) q1a q1b (by decide) ⟨by decide, by decide⟩ dX11_meaningless_6 (fun cs hW => ?_)
  obtain ⟨S2, hS2⟩ : ∃ x, x = pA S 67 (2) (0) := ⟨_, rfl⟩
  rw [← hS2] at hW
  have hw := hw S2 hS2
  refine z_iconst (v := Int32.ofInt 0) dX11_meaningless_7 rfl ?_
  refine z_istore_n dX11_meaningless_8 rfl (by decide) ?_
  refine z_loc (L' := [(0, .ref (G.1 + 54)), (1, .int (Int32.ofInt (0)))]) (List.forall_mem_cons.mpr ⟨rfl, (List.forall_mem_cons.mpr ⟨rfl, (fun _ h => nomatch h)⟩)⟩) ?_
  refine z_loc (L' := [(0, .ref (G.1 + 54)), (1, .int (Int32.ofInt (0)))]) (List.forall_mem_cons.mpr ⟨rfl, (List.forall_mem_cons.mpr ⟨rfl, (fun _ h => nomatch h)⟩)⟩) ?_
  exact bX11_meaningless_9 hd hJ hT hW hP  hw

def wX11_openerSign (a1 a2 : Int) (S : St) (K : Int → St → Prop) : Prop := rng a1 → rng a2 → ((¬ a1 = 0 → ((¬ (0 ≤ a2 ∧ a2 ≤ 7) → K (0) S) ∧ ((a2 = 0 → K (33) S) ∧ ((a2 = 1 → K (91) S) ∧ ((a2 = 2 → K (67) S) ∧ ((a2 = 3 → K (68) S) ∧ ((a2 = 4 → K (65) S) ∧ ((a2 = 5 → K (84) S) ∧ ((a2 = 6 → K (65) S) ∧ (a2 = 7 → K (91) S)))))))))) ∧ ((¬ (¬ a1 = 0)) → ((¬ a2 = 0 → ((3 ≤ a2 → K (0) S) ∧ ((¬ (3 ≤ a2)) → K (45) S))) ∧ ((¬ (¬ a2 = 0)) → K (33) S))))
set_option maxRecDepth 100000 in
set_option maxHeartbeats 4000000 in
theorem lX11_openerSign {G : xG} {sh : Nat → Option Sh} {J : St → List va_E → Prop} {a1 a2 : Int} {S : St} {cs : List va_E} {K : Int → St → Prop} (d : Nat) (hd : 0 ≤ d) (hJ : Stb sh J) (hT : isM sh) (hW : Wd G sh mT J S cs) (g1 : rng a1) (g2 : rng a2) (hw : wX11_openerSign a1 a2 S K) : X G yX11_openerSign cX11_openerSign 2 (some .int) d [.int (Int32.ofInt a1), .int (Int32.ofInt a2)] cs (qI G sh mT J K) := by
  refine X.of false (by decide +kernel) (by decide) (Nat.le_of_ble_eq_true rfl) ?_
  show Z (RX11, cX11_openerSign, 2, some .int, false) G d _ 0 [(0, .int (Int32.ofInt a1)), (1, .int (Int32.ofInt a2))] [] cs
  have hP : ∀ (v : Int) (S : St) (cs : List va_E), K v S → Wd G sh mT J S cs → qI G sh mT J K (some (.int (Int32.ofInt v))) cs := fun v S cs a b => ⟨v, S, rfl, a, b⟩
  unfold wX11_openerSign at hw
  have hw := hw g1 g2
  refine z_iload_n dX11_openerSign_0 rfl rfl ?_
  refine i_if_ne (tgt := 25) dX11_openerSign_1 (by decide) g1 (fun h1 => ?_) (fun h1 => ?_)
  · have hw := hw.1 h1
    refine z_iload_n dX11_openerSign_25 rfl rfl ?_
    rcases (show (¬ (0 ≤ a2 ∧ a2 ≤ 7)) ∨ a2 = 0 ∨ a2 = 1 ∨ a2 = 2 ∨ a2 = 3 ∨ a2 = 4 ∨ a2 = 5 ∨ a2 = 6 ∨ a2 = 7 by omega) with h2 | h2 | h2 | h2 | h2 | h2 | h2 | h2 | h2
    · have hw := hw.1 h2
      refine i_tableOut (tgt := 96) dX11_openerSign_26 g2 h2 (by decide) ?_
      refine z_iconst (v := Int32.ofInt 0) dX11_openerSign_96 rfl ?_
      exact z_ireturn dX11_openerSign_97 rfl rfl (hP _ _ _ hw hW)
    · have hw := hw.2.1 h2
      refine i_tableIn (c := 0) (off := 46) (tgt := 72) dX11_openerSign_26 h2 ⟨by decide, by decide⟩ (by decide) (by decide) rfl (by decide) ?_
      refine z_bipush (v := Int32.ofInt 33) dX11_openerSign_72 (by decide) ?_
      exact z_ireturn dX11_openerSign_74 rfl rfl (hP _ _ _ hw hW)
    · have hw := hw.2.2.1 h2
      refine i_tableIn (c := 1) (off := 49) (tgt := 75) dX11_openerSign_26 h2 ⟨by decide, by decide⟩ (by decide) (by decide) rfl (by decide) ?_
      refine z_bipush (v := Int32.ofInt 91) dX11_openerSign_75 (by decide) ?_
      exact z_ireturn dX11_openerSign_77 rfl rfl (hP _ _ _ hw hW)
    · have hw := hw.2.2.2.1 h2
      refine i_tableIn (c := 2) (off := 52) (tgt := 78) dX11_openerSign_26 h2 ⟨by decide, by decide⟩ (by decide) (by decide) rfl (by decide) ?_
      refine z_bipush (v := Int32.ofInt 67) dX11_openerSign_78 (by decide) ?_
      exact z_ireturn dX11_openerSign_80 rfl rfl (hP _ _ _ hw hW)
    · have hw := hw.2.2.2.2.1 h2
      refine i_tableIn (c := 3) (off := 55) (tgt := 81) dX11_openerSign_26 h2 ⟨by decide, by decide⟩ (by decide) (by decide) rfl (by decide) ?_
      refine z_bipush (v := Int32.ofInt 68) dX11_openerSign_81 (by decide) ?_
      exact z_ireturn dX11_openerSign_83 rfl rfl (hP _ _ _ hw hW)
    · have hw := hw.2.2.2.2.2.1 h2
      refine i_tableIn (c := 4) (off := 58) (tgt := 84) dX11_openerSign_26 h2 ⟨by decide, by decide⟩ (by decide) (by decide) rfl (by decide) ?_
      refine z_bipush (v := Int32.ofInt 65) dX11_openerSign_84 (by decide) ?_
      exact z_ireturn dX11_openerSign_86 rfl rfl (hP _ _ _ hw hW)
    · have hw := hw.2.2.2.2.2.2.1 h2
      refine i_tableIn (c := 5) (off := 61) (tgt := 87) dX11_openerSign_26 h2 ⟨by decide, by decide⟩ (by decide) (by decide) rfl (by decide) ?_
      refine z_bipush (v := Int32.ofInt 84) dX11_openerSign_87 (by decide) ?_
      exact z_ireturn dX11_openerSign_89 rfl rfl (hP _ _ _ hw hW)
    · have hw := hw.2.2.2.2.2.2.2.1 h2
      refine i_tableIn (c := 6) (off := 64) (tgt := 90) dX11_openerSign_26 h2 ⟨by decide, by decide⟩ (by decide) (by decide) rfl (by decide) ?_
      refine z_bipush (v := Int32.ofInt 65) dX11_openerSign_90 (by decide) ?_
      exact z_ireturn dX11_openerSign_92 rfl rfl (hP _ _ _ hw hW)
    · have hw := hw.2.2.2.2.2.2.2.2 h2
      refine i_tableIn (c := 7) (off := 67) (tgt := 93) dX11_openerSign_26 h2 ⟨by decide, by decide⟩ (by decide) (by decide) rfl (by decide) ?_
      refine z_bipush (v := Int32.ofInt 91) dX11_openerSign_93 (by decide) ?_
      exact z_ireturn dX11_openerSign_95 rfl rfl (hP _ _ _ hw hW)
  · have hw := hw.2 h1
    refine z_iload_n dX11_openerSign_4 rfl rfl ?_
    refine i_if_ne (tgt := 13) dX11_openerSign_5 (by decide) g2 (fun h3 => ?_) (fun h3 => ?_)
    · have hw := hw.1 h3
      refine z_iload_n dX11_openerSign_13 rfl rfl ?_
      refine z_iconst (v := Int32.ofInt 3) dX11_openerSign_14 rfl ?_
      refine i_icmp_ge (tgt := 23) dX11_openerSign_15 (by decide) g2 ⟨by decide, by decide⟩ (fun h4 => ?_) (fun h4 => ?_)
      · have hw := hw.1 h4
        refine z_iconst (v := Int32.ofInt 0) dX11_openerSign_23 rfl ?_
        exact z_ireturn dX11_openerSign_24 rfl rfl (hP _ _ _ hw hW)
      · have hw := hw.2 h4
        refine z_bipush (v := Int32.ofInt 45) dX11_openerSign_18 (by decide) ?_
        refine z_goto (tgt := 24) dX11_openerSign_20 (by decide) ?_
        exact z_ireturn dX11_openerSign_24 rfl rfl (hP _ _ _ hw hW)
    · have hw := hw.2 h3
      refine z_bipush (v := Int32.ofInt 33) dX11_openerSign_8 (by decide) ?_
      refine z_goto (tgt := 24) dX11_openerSign_10 (by decide) ?_
      exact z_ireturn dX11_openerSign_24 rfl rfl (hP _ _ _ hw hW)

def wX11_section_283 (l6 : Int) (S : St) (K : Int → St → Prop) : Prop := (rng (l6) ∧ (wX11_docAt (l6) S (fun r2 S3 => (rng (r2) ∧ ((0 ≤ r2 → K ((l6 + 3)) S3) ∧ ((¬ (0 ≤ r2)) → (iv 0 3000 (S3.1 54 41) → (wX11_fail (S3.1 54 41) S3 (fun r7 S8 => K ((l6 + 3)) S8)))))))))
set_option maxRecDepth 100000 in
set_option maxHeartbeats 4000000 in
theorem bX11_section_283 {G : xG} {sh : Nat → Option Sh} {J : St → List va_E → Prop} {d : Nat} {Post : xP} {l6 : Int} {S : St} {cs : List va_E} {K : Int → St → Prop} (hd : 1 ≤ d) (hJ : Stb sh J) (hT : isM sh) (hW : Wd G sh mT J S cs) (hP : ∀ (v : Int) (S : St) (cs : List va_E), K v S → Wd G sh mT J S cs → Post (some (.int (Int32.ofInt v))) cs)  (hw : wX11_section_283 l6 S K ) : Z (RX11, cX11_section, 8, some .int, false) G d Post 283 [(0, .ref (G.1 + 54)), (6, .int (Int32.ofInt (l6)))] [] cs := by
  unfold wX11_section_283 at hw
  refine z_aload_n dX11_section_283 rfl rfl ?_
  refine z_iload dX11_section_284 rfl ?_
  obtain ⟨q1, hw⟩ := hw
  have hX := lX11_docAt 0 (Nat.le_refl _) hJ hT hW q1 hw
  refine z_callV (As := [_]) eX11_docAt sX11_docAt lX11_349 rfl dX11_section_286 (hW.1 _ _ hT.1) hX (Nat.le_trans (by decide) hd) rfl (Nat.le_of_ble_eq_true rfl) (fun r cs hp => ?_)
  obtain ⟨r2, S3, rfl, hw, hW⟩ := hp
  refine z_st (st' := [.int (Int32.ofInt (r2))]) rfl ?_
  obtain ⟨q5, hw⟩ := hw
  refine i_if_ge (tgt := 300) dX11_section_289 (by decide) q5 (fun h4 => ?_) (fun h4 => ?_)
  · have hw := hw.1 h4
    refine z_iload dX11_section_300 rfl ?_
    refine z_iconst (v := Int32.ofInt 3) dX11_section_302 rfl ?_
    refine i_iadd dX11_section_303 ?_
    exact z_ireturn dX11_section_304 rfl rfl (hP _ _ _ hw hW)
  · have hw := hw.2 h4
    refine z_aload_n dX11_section_292 rfl rfl ?_
    refine z_aload_n dX11_section_293 rfl rfl ?_
    have q6 : iv 0 3000 (S3.1 54 41) := mI41 hW
    have hw := hw q6
    refine g_getI hW hT.1 mr41 kX11 fX11_340 dX11_section_294 ?_
    have hX := lX11_fail 0 (Nat.le_refl _) hJ hT hW (rngq q6 (by decide) (by decide)) hw
    refine z_callV (As := [_]) eX11_fail sX11_fail lX11_362 rfl dX11_section_297 (hW.1 _ _ hT.1) hX (Nat.le_trans (by decide) hd) rfl (Nat.le_of_ble_eq_true rfl) (fun r cs hp => ?_)
    obtain ⟨r7, S8, rfl, hw, hW⟩ := hp
    refine z_st (st' := []) rfl ?_
    refine z_iload dX11_section_300 rfl ?_
    refine z_iconst (v := Int32.ofInt 3) dX11_section_302 rfl ?_
    refine i_iadd dX11_section_303 ?_
    exact z_ireturn dX11_section_304 rfl rfl (hP _ _ _ hw hW)
def wX11_section_265 (l2 l6 : Int) (S : St) (K : Int → St → Prop) (B219 : Int → Int → St → Prop) : Prop := ((0 : Int) ≤ l6 ∧ l6 < (3000 : Int) ∧ (iv (-2147483648) 2147483647 (S.2 84 (l6)) → (rng (l2) ∧ (wX11_keep (S.2 84 (l6)) (l2) S (fun r4 S5 => B219 (l2) ((l6 + 1)) S5)))))
set_option maxRecDepth 100000 in
set_option maxHeartbeats 4000000 in
theorem bX11_section_265 {G : xG} {sh : Nat → Option Sh} {J : St → List va_E → Prop} {d : Nat} {Post : xP} {l2 l6 : Int} {S : St} {cs : List va_E} {K : Int → St → Prop} {B219 : Int → Int → St → Prop} (hd : 1 ≤ d) (hJ : Stb sh J) (hT : isM sh) (hW : Wd G sh mT J S cs) (hP : ∀ (v : Int) (S : St) (cs : List va_E), K v S → Wd G sh mT J S cs → Post (some (.int (Int32.ofInt v))) cs) (hB219 : ∀ (l2 : Int) (l6 : Int) (S : St) (cs : List va_E), B219 l2 l6 S → Wd G sh mT J S cs → Z (RX11, cX11_section, 8, some .int, false) G d Post 219 [(0, .ref (G.1 + 54)), (2, .int (Int32.ofInt (l2))), (6, .int (Int32.ofInt (l6)))] [] cs) (hw : wX11_section_265 l2 l6 S K B219) : Z (RX11, cX11_section, 8, some .int, false) G d Post 265 [(0, .ref (G.1 + 54)), (2, .int (Int32.ofInt (l2))), (6, .int (Int32.ofInt (l6)))] [] cs := by
  unfold wX11_section_265 at hw
  refine z_aload_n dX11_section_265 rfl rfl ?_
  refine z_aload_n dX11_section_266 rfl rfl ?_
  refine g_getR hW hT.1 mr42 kX11 fX11_102 dX11_section_267 ?_
  refine z_iload dX11_section_270 rfl ?_
  obtain ⟨q1a, q1b, hw⟩ := hw
  have q2 : iv (-2147483648) 2147483647 (S.2 84 (l6)) := mA84 hW _
  have hw := hw q2
  refine g_iald hW (ma84 hT) q1a q1b (by decide) dX11_section_272 ?_
  refine z_iload_n dX11_section_273 rfl rfl ?_
  obtain ⟨q3, hw⟩ := hw
  have hX := lX11_keep 0 (Nat.le_refl _) hJ hT hW (rngq q2 (by decide) (by decide)) q3 hw
  refine z_callV (As := [_, _]) eX11_keep sX11_keep lX11_365 rfl dX11_section_274 (hW.1 _ _ hT.1) hX (Nat.le_trans (by decide) hd) rfl (Nat.le_of_ble_eq_true rfl) (fun r cs hp => ?_)
  obtain ⟨r4, S5, rfl, hw, hW⟩ := hp
  refine z_st (st' := []) rfl ?_
  refine i_iinc (l := l6) dX11_section_277 rfl (by decide) ?_
  refine z_loc (L' := [(0, .ref (G.1 + 54)), (2, .int (Int32.ofInt (l2))), (6, .int (Int32.ofInt ((l6 + 1))))]) (List.forall_mem_cons.mpr ⟨rfl, (List.forall_mem_cons.mpr ⟨rfl, (List.forall_mem_cons.mpr ⟨rfl, (fun _ h => nomatch h)⟩)⟩)⟩) ?_
  refine z_goto (tgt := 219) dX11_section_280 (by decide) ?_
  refine z_loc (L' := [(0, .ref (G.1 + 54)), (2, .int (Int32.ofInt (l2))), (6, .int (Int32.ofInt ((l6 + 1))))]) (List.forall_mem_cons.mpr ⟨rfl, (List.forall_mem_cons.mpr ⟨rfl, (List.forall_mem_cons.mpr ⟨rfl, (fun _ h => nomatch h)⟩)⟩)⟩) ?_
  exact hB219 _ _ _ _ hw hW
def wX11_section_219' (l2 l6 : Int) (S : St) (K : Int → St → Prop) (B219 : Int → Int → St → Prop) : Prop := (rng (l6) ∧ (wX11_docAt (l6) S (fun r2 S3 => (rng (r2) ∧ ((r2 < 0 → wX11_section_283 (l6) S3 K) ∧ ((¬ (r2 < 0)) → (wX11_docAt (l6) S3 (fun r6 S7 => (rng (r6) ∧ ((¬ r6 = 93 → wX11_section_265 (l2) (l6) S7 K B219) ∧ ((¬ (¬ r6 = 93)) → (rng ((l6 + 1)) ∧ (wX11_docAt ((l6 + 1)) S7 (fun r11 S12 => (rng (r11) ∧ ((¬ r11 = 93 → wX11_section_265 (l2) (l6) S12 K B219) ∧ ((¬ (¬ r11 = 93)) → (rng ((l6 + 2)) ∧ (wX11_docAt ((l6 + 2)) S12 (fun r16 S17 => (rng (r16) ∧ ((r16 = 62 → wX11_section_283 (l6) S17 K) ∧ ((¬ (r16 = 62)) → wX11_section_265 (l2) (l6) S17 K B219)))))))))))))))))))))))
set_option maxRecDepth 100000 in
set_option maxHeartbeats 4000000 in
theorem bX11_section_219' {G : xG} {sh : Nat → Option Sh} {J : St → List va_E → Prop} {d : Nat} {Post : xP} {l2 l6 : Int} {S : St} {cs : List va_E} {K : Int → St → Prop} {B219 : Int → Int → St → Prop} (hd : 1 ≤ d) (hJ : Stb sh J) (hT : isM sh) (hW : Wd G sh mT J S cs) (hP : ∀ (v : Int) (S : St) (cs : List va_E), K v S → Wd G sh mT J S cs → Post (some (.int (Int32.ofInt v))) cs) (hB219 : ∀ (l2 : Int) (l6 : Int) (S : St) (cs : List va_E), B219 l2 l6 S → Wd G sh mT J S cs → Z (RX11, cX11_section, 8, some .int, false) G d Post 219 [(0, .ref (G.1 + 54)), (2, .int (Int32.ofInt (l2))), (6, .int (Int32.ofInt (l6)))] [] cs) (hw : wX11_section_219' l2 l6 S K B219) : Z (RX11, cX11_section, 8, some .int, false) G d Post 219 [(0, .ref (G.1 + 54)), (2, .int (Int32.ofInt (l2))), (6, .int (Int32.ofInt (l6)))] [] cs := by
  unfold wX11_section_219' at hw
  refine z_aload_n dX11_section_219 rfl rfl ?_
  refine z_iload dX11_section_220 rfl ?_
  obtain ⟨q1, hw⟩ := hw
  have hX := lX11_docAt 0 (Nat.le_refl _) hJ hT hW q1 hw
  refine z_callV (As := [_]) eX11_docAt sX11_docAt lX11_349 rfl dX11_section_222 (hW.1 _ _ hT.1) hX (Nat.le_trans (by decide) hd) rfl (Nat.le_of_ble_eq_true rfl) (fun r cs hp => ?_)
  obtain ⟨r2, S3, rfl, hw, hW⟩ := hp
  refine z_st (st' := [.int (Int32.ofInt (r2))]) rfl ?_
  obtain ⟨q5, hw⟩ := hw
  refine i_if_lt (tgt := 283) dX11_section_225 (by decide) q5 (fun h4 => ?_) (fun h4 => ?_)
  · have hw := hw.1 h4
    refine z_loc (L' := [(0, .ref (G.1 + 54)), (6, .int (Int32.ofInt (l6)))]) (List.forall_mem_cons.mpr ⟨rfl, (List.forall_mem_cons.mpr ⟨rfl, (fun _ h => nomatch h)⟩)⟩) ?_
    exact bX11_section_283 hd hJ hT hW hP  hw
  · have hw := hw.2 h4
    refine z_aload_n dX11_section_228 rfl rfl ?_
    refine z_iload dX11_section_229 rfl ?_
    have hX := lX11_docAt 0 (Nat.le_refl _) hJ hT hW q1 hw
    refine z_callV (As := [_]) eX11_docAt sX11_docAt lX11_349 rfl dX11_section_231 (hW.1 _ _ hT.1) hX (Nat.le_trans (by decide) hd) rfl (Nat.le_of_ble_eq_true rfl) (fun r cs hp => ?_)
    obtain ⟨r6, S7, rfl, hw, hW⟩ := hp
    refine z_st (st' := [.int (Int32.ofInt (r6))]) rfl ?_
    refine z_bipush (v := Int32.ofInt 93) dX11_section_234 (by decide) ?_
    obtain ⟨q9, hw⟩ := hw
    refine i_icmp_ne (tgt := 265) dX11_section_236 (by decide) q9 ⟨by decide, by decide⟩ (fun h8 => ?_) (fun h8 => ?_)
    · have hw := hw.1 h8
      refine z_loc (L' := [(0, .ref (G.1 + 54)), (2, .int (Int32.ofInt (l2))), (6, .int (Int32.ofInt (l6)))]) (List.forall_mem_cons.mpr ⟨rfl, (List.forall_mem_cons.mpr ⟨rfl, (List.forall_mem_cons.mpr ⟨rfl, (fun _ h => nomatch h)⟩)⟩)⟩) ?_
      exact bX11_section_265 hd hJ hT hW hP hB219 hw
    · have hw := hw.2 h8
      refine z_aload_n dX11_section_239 rfl rfl ?_
      refine z_iload dX11_section_240 rfl ?_
      refine z_iconst (v := Int32.ofInt 1) dX11_section_242 rfl ?_
      refine i_iadd dX11_section_243 ?_
      obtain ⟨q10, hw⟩ := hw
      have hX := lX11_docAt 0 (Nat.le_refl _) hJ hT hW q10 hw
      refine z_callV (As := [_]) eX11_docAt sX11_docAt lX11_349 rfl dX11_section_244 (hW.1 _ _ hT.1) hX (Nat.le_trans (by decide) hd) rfl (Nat.le_of_ble_eq_true rfl) (fun r cs hp => ?_)
      obtain ⟨r11, S12, rfl, hw, hW⟩ := hp
      refine z_st (st' := [.int (Int32.ofInt (r11))]) rfl ?_
      refine z_bipush (v := Int32.ofInt 93) dX11_section_247 (by decide) ?_
      obtain ⟨q14, hw⟩ := hw
      refine i_icmp_ne (tgt := 265) dX11_section_249 (by decide) q14 ⟨by decide, by decide⟩ (fun h13 => ?_) (fun h13 => ?_)
      · have hw := hw.1 h13
        refine z_loc (L' := [(0, .ref (G.1 + 54)), (2, .int (Int32.ofInt (l2))), (6, .int (Int32.ofInt (l6)))]) (List.forall_mem_cons.mpr ⟨rfl, (List.forall_mem_cons.mpr ⟨rfl, (List.forall_mem_cons.mpr ⟨rfl, (fun _ h => nomatch h)⟩)⟩)⟩) ?_
        exact bX11_section_265 hd hJ hT hW hP hB219 hw
      · have hw := hw.2 h13
        refine z_aload_n dX11_section_252 rfl rfl ?_
        refine z_iload dX11_section_253 rfl ?_
        refine z_iconst (v := Int32.ofInt 2) dX11_section_255 rfl ?_
        refine i_iadd dX11_section_256 ?_
        obtain ⟨q15, hw⟩ := hw
        have hX := lX11_docAt 0 (Nat.le_refl _) hJ hT hW q15 hw
        refine z_callV (As := [_]) eX11_docAt sX11_docAt lX11_349 rfl dX11_section_257 (hW.1 _ _ hT.1) hX (Nat.le_trans (by decide) hd) rfl (Nat.le_of_ble_eq_true rfl) (fun r cs hp => ?_)
        obtain ⟨r16, S17, rfl, hw, hW⟩ := hp
        refine z_st (st' := [.int (Int32.ofInt (r16))]) rfl ?_
        refine z_bipush (v := Int32.ofInt 62) dX11_section_260 (by decide) ?_
        obtain ⟨q19, hw⟩ := hw
        refine i_icmp_eq (tgt := 283) dX11_section_262 (by decide) q19 ⟨by decide, by decide⟩ (fun h18 => ?_) (fun h18 => ?_)
        · have hw := hw.1 h18
          refine z_loc (L' := [(0, .ref (G.1 + 54)), (6, .int (Int32.ofInt (l6)))]) (List.forall_mem_cons.mpr ⟨rfl, (List.forall_mem_cons.mpr ⟨rfl, (fun _ h => nomatch h)⟩)⟩) ?_
          exact bX11_section_283 hd hJ hT hW hP  hw
        · have hw := hw.2 h18
          refine z_loc (L' := [(0, .ref (G.1 + 54)), (2, .int (Int32.ofInt (l2))), (6, .int (Int32.ofInt (l6)))]) (List.forall_mem_cons.mpr ⟨rfl, (List.forall_mem_cons.mpr ⟨rfl, (List.forall_mem_cons.mpr ⟨rfl, (fun _ h => nomatch h)⟩)⟩)⟩) ?_
          exact bX11_section_265 hd hJ hT hW hP hB219 hw
def wX11_section_219 (l2 l6 : Int) (S : St) (K : Int → St → Prop) : Prop := ∃ (Iv : Int → Int → St → Prop) (mu : Int → Int → St → Nat), Iv l2 l6 S ∧ ∀ (l2 l6 : Int) (S : St), Iv l2 l6 S → wX11_section_219' l2 l6 S K  (fun ml2 ml6 T => Iv ml2 ml6 T ∧ mu ml2 ml6 T < mu l2 l6 S)
set_option maxRecDepth 100000 in
set_option maxHeartbeats 4000000 in
theorem bX11_section_219 {G : xG} {sh : Nat → Option Sh} {J : St → List va_E → Prop} {d : Nat} {Post : xP} {l2 l6 : Int} {S : St} {cs : List va_E} {K : Int → St → Prop} (hd : 1 ≤ d) (hJ : Stb sh J) (hT : isM sh) (hW : Wd G sh mT J S cs) (hP : ∀ (v : Int) (S : St) (cs : List va_E), K v S → Wd G sh mT J S cs → Post (some (.int (Int32.ofInt v))) cs)  (hw : wX11_section_219 l2 l6 S K ) : Z (RX11, cX11_section, 8, some .int, false) G d Post 219 [(0, .ref (G.1 + 54)), (2, .int (Int32.ofInt (l2))), (6, .int (Int32.ofInt (l6)))] [] cs := by
  unfold wX11_section_219 at hw
  obtain ⟨Iv, mu, h0, hs⟩ := hw
  have key : ∀ (n : Nat) (l2 l6 : Int) (S : St) (cs : List va_E), mu l2 l6 S < n → Iv l2 l6 S → Wd G sh mT J S cs → Z (RX11, cX11_section, 8, some .int, false) G d Post 219 [(0, .ref (G.1 + 54)), (2, .int (Int32.ofInt (l2))), (6, .int (Int32.ofInt (l6)))] [] cs := by
    intro n
    induction n with
    | zero => intro l2 l6 S cs hn; exact absurd hn (Nat.not_lt_zero _)
    | succ n ih =>
      intro l2 l6 S cs hn hI hW
      exact bX11_section_219' hd hJ hT hW hP  (fun l2 l6 S cs hb hW => ih l2 l6 S cs (Nat.lt_of_lt_of_le hb.2 (Nat.le_of_lt_succ hn)) hb.1 hW) (hs l2 l6 S hI)
  exact key _ _ _ _ _ (Nat.lt_succ_self _) h0 hW
def wX11_section_173 (l6 : Int) (S : St) (K : Int → St → Prop) : Prop := (rng (l6) ∧ (wX11_docAt (l6) S (fun r2 S3 => (rng (r2) ∧ ((0 ≤ r2 → (rng ((l6 + 2)) ∧ (wX11_docAt ((l6 + 2)) S3 (fun r7 S8 => (rng (r7) ∧ ((r7 = 62 → K ((l6 + 3)) S8) ∧ ((¬ (r7 = 62)) → (wX11_fail ((l6 + 2)) S8 (fun r11 S12 => K ((l6 + 3)) S12))))))))) ∧ ((¬ (0 ≤ r2)) → (iv 0 3000 (S3.1 54 41) → (wX11_fail (S3.1 54 41) S3 (fun r14 S15 => K ((l6 + 3)) S15)))))))))
set_option maxRecDepth 100000 in
set_option maxHeartbeats 4000000 in
theorem bX11_section_173 {G : xG} {sh : Nat → Option Sh} {J : St → List va_E → Prop} {d : Nat} {Post : xP} {l6 : Int} {S : St} {cs : List va_E} {K : Int → St → Prop} (hd : 1 ≤ d) (hJ : Stb sh J) (hT : isM sh) (hW : Wd G sh mT J S cs) (hP : ∀ (v : Int) (S : St) (cs : List va_E), K v S → Wd G sh mT J S cs → Post (some (.int (Int32.ofInt v))) cs)  (hw : wX11_section_173 l6 S K ) : Z (RX11, cX11_section, 8, some .int, false) G d Post 173 [(0, .ref (G.1 + 54)), (6, .int (Int32.ofInt (l6)))] [] cs := by
  unfold wX11_section_173 at hw
  refine z_aload_n dX11_section_173 rfl rfl ?_
  refine z_iload dX11_section_174 rfl ?_
  obtain ⟨q1, hw⟩ := hw
  have hX := lX11_docAt 0 (Nat.le_refl _) hJ hT hW q1 hw
  refine z_callV (As := [_]) eX11_docAt sX11_docAt lX11_349 rfl dX11_section_176 (hW.1 _ _ hT.1) hX (Nat.le_trans (by decide) hd) rfl (Nat.le_of_ble_eq_true rfl) (fun r cs hp => ?_)
  obtain ⟨r2, S3, rfl, hw, hW⟩ := hp
  refine z_st (st' := [.int (Int32.ofInt (r2))]) rfl ?_
  obtain ⟨q5, hw⟩ := hw
  refine i_if_ge (tgt := 193) dX11_section_179 (by decide) q5 (fun h4 => ?_) (fun h4 => ?_)
  · have hw := hw.1 h4
    refine z_aload_n dX11_section_193 rfl rfl ?_
    refine z_iload dX11_section_194 rfl ?_
    refine z_iconst (v := Int32.ofInt 2) dX11_section_196 rfl ?_
    refine i_iadd dX11_section_197 ?_
    obtain ⟨q6, hw⟩ := hw
    have hX := lX11_docAt 0 (Nat.le_refl _) hJ hT hW q6 hw
    refine z_callV (As := [_]) eX11_docAt sX11_docAt lX11_349 rfl dX11_section_198 (hW.1 _ _ hT.1) hX (Nat.le_trans (by decide) hd) rfl (Nat.le_of_ble_eq_true rfl) (fun r cs hp => ?_)
    obtain ⟨r7, S8, rfl, hw, hW⟩ := hp
    refine z_st (st' := [.int (Int32.ofInt (r7))]) rfl ?_
    refine z_bipush (v := Int32.ofInt 62) dX11_section_201 (by decide) ?_
    obtain ⟨q10, hw⟩ := hw
    refine i_icmp_eq (tgt := 214) dX11_section_203 (by decide) q10 ⟨by decide, by decide⟩ (fun h9 => ?_) (fun h9 => ?_)
    · have hw := hw.1 h9
      refine z_iload dX11_section_214 rfl ?_
      refine z_iconst (v := Int32.ofInt 3) dX11_section_216 rfl ?_
      refine i_iadd dX11_section_217 ?_
      exact z_ireturn dX11_section_218 rfl rfl (hP _ _ _ hw hW)
    · have hw := hw.2 h9
      refine z_aload_n dX11_section_206 rfl rfl ?_
      refine z_iload dX11_section_207 rfl ?_
      refine z_iconst (v := Int32.ofInt 2) dX11_section_209 rfl ?_
      refine i_iadd dX11_section_210 ?_
      have hX := lX11_fail 0 (Nat.le_refl _) hJ hT hW q6 hw
      refine z_callV (As := [_]) eX11_fail sX11_fail lX11_362 rfl dX11_section_211 (hW.1 _ _ hT.1) hX (Nat.le_trans (by decide) hd) rfl (Nat.le_of_ble_eq_true rfl) (fun r cs hp => ?_)
      obtain ⟨r11, S12, rfl, hw, hW⟩ := hp
      refine z_st (st' := []) rfl ?_
      refine z_iload dX11_section_214 rfl ?_
      refine z_iconst (v := Int32.ofInt 3) dX11_section_216 rfl ?_
      refine i_iadd dX11_section_217 ?_
      exact z_ireturn dX11_section_218 rfl rfl (hP _ _ _ hw hW)
  · have hw := hw.2 h4
    refine z_aload_n dX11_section_182 rfl rfl ?_
    refine z_aload_n dX11_section_183 rfl rfl ?_
    have q13 : iv 0 3000 (S3.1 54 41) := mI41 hW
    have hw := hw q13
    refine g_getI hW hT.1 mr41 kX11 fX11_340 dX11_section_184 ?_
    have hX := lX11_fail 0 (Nat.le_refl _) hJ hT hW (rngq q13 (by decide) (by decide)) hw
    refine z_callV (As := [_]) eX11_fail sX11_fail lX11_362 rfl dX11_section_187 (hW.1 _ _ hT.1) hX (Nat.le_trans (by decide) hd) rfl (Nat.le_of_ble_eq_true rfl) (fun r cs hp => ?_)
    obtain ⟨r14, S15, rfl, hw, hW⟩ := hp
    refine z_st (st' := []) rfl ?_
    refine z_goto (tgt := 214) dX11_section_190 (by decide) ?_
    refine z_iload dX11_section_214 rfl ?_
    refine z_iconst (v := Int32.ofInt 3) dX11_section_216 rfl ?_
    refine i_iadd dX11_section_217 ?_
    exact z_ireturn dX11_section_218 rfl rfl (hP _ _ _ hw hW)
def wX11_section_167 (l6 : Int) (S : St) (K : Int → St → Prop) (B134 : Int → St → Prop) : Prop := B134 ((l6 + 1)) S
set_option maxRecDepth 100000 in
set_option maxHeartbeats 4000000 in
theorem bX11_section_167 {G : xG} {sh : Nat → Option Sh} {J : St → List va_E → Prop} {d : Nat} {Post : xP} {l6 : Int} {S : St} {cs : List va_E} {K : Int → St → Prop} {B134 : Int → St → Prop} (hd : 1 ≤ d) (hJ : Stb sh J) (hT : isM sh) (hW : Wd G sh mT J S cs) (hP : ∀ (v : Int) (S : St) (cs : List va_E), K v S → Wd G sh mT J S cs → Post (some (.int (Int32.ofInt v))) cs) (hB134 : ∀ (l6 : Int) (S : St) (cs : List va_E), B134 l6 S → Wd G sh mT J S cs → Z (RX11, cX11_section, 8, some .int, false) G d Post 134 [(0, .ref (G.1 + 54)), (6, .int (Int32.ofInt (l6)))] [] cs) (hw : wX11_section_167 l6 S K B134) : Z (RX11, cX11_section, 8, some .int, false) G d Post 167 [(0, .ref (G.1 + 54)), (6, .int (Int32.ofInt (l6)))] [] cs := by
  unfold wX11_section_167 at hw
  refine i_iinc (l := l6) dX11_section_167 rfl (by decide) ?_
  refine z_loc (L' := [(0, .ref (G.1 + 54)), (6, .int (Int32.ofInt ((l6 + 1))))]) (List.forall_mem_cons.mpr ⟨rfl, (List.forall_mem_cons.mpr ⟨rfl, (fun _ h => nomatch h)⟩)⟩) ?_
  refine z_goto (tgt := 134) dX11_section_170 (by decide) ?_
  refine z_loc (L' := [(0, .ref (G.1 + 54)), (6, .int (Int32.ofInt ((l6 + 1))))]) (List.forall_mem_cons.mpr ⟨rfl, (List.forall_mem_cons.mpr ⟨rfl, (fun _ h => nomatch h)⟩)⟩) ?_
  exact hB134 _ _ _ hw hW
def wX11_section_134' (l6 : Int) (S : St) (K : Int → St → Prop) (B134 : Int → St → Prop) : Prop := (rng (l6) ∧ (wX11_docAt (l6) S (fun r2 S3 => (rng (r2) ∧ ((r2 < 0 → wX11_section_173 (l6) S3 K) ∧ ((¬ (r2 < 0)) → (wX11_docAt (l6) S3 (fun r6 S7 => (rng (r6) ∧ ((¬ r6 = 45 → wX11_section_167 (l6) S7 K B134) ∧ ((¬ (¬ r6 = 45)) → (rng ((l6 + 1)) ∧ (wX11_docAt ((l6 + 1)) S7 (fun r11 S12 => (rng (r11) ∧ ((r11 = 45 → wX11_section_173 (l6) S12 K) ∧ ((¬ (r11 = 45)) → wX11_section_167 (l6) S12 K B134)))))))))))))))))
set_option maxRecDepth 100000 in
set_option maxHeartbeats 4000000 in
theorem bX11_section_134' {G : xG} {sh : Nat → Option Sh} {J : St → List va_E → Prop} {d : Nat} {Post : xP} {l6 : Int} {S : St} {cs : List va_E} {K : Int → St → Prop} {B134 : Int → St → Prop} (hd : 1 ≤ d) (hJ : Stb sh J) (hT : isM sh) (hW : Wd G sh mT J S cs) (hP : ∀ (v : Int) (S : St) (cs : List va_E), K v S → Wd G sh mT J S cs → Post (some (.int (Int32.ofInt v))) cs) (hB134 : ∀ (l6 : Int) (S : St) (cs : List va_E), B134 l6 S → Wd G sh mT J S cs → Z (RX11, cX11_section, 8, some .int, false) G d Post 134 [(0, .ref (G.1 + 54)), (6, .int (Int32.ofInt (l6)))] [] cs) (hw : wX11_section_134' l6 S K B134) : Z (RX11, cX11_section, 8, some .int, false) G d Post 134 [(0, .ref (G.1 + 54)), (6, .int (Int32.ofInt (l6)))] [] cs := by
  unfold wX11_section_134' at hw
  refine z_aload_n dX11_section_134 rfl rfl ?_
  refine z_iload dX11_section_135 rfl ?_
  obtain ⟨q1, hw⟩ := hw
  have hX := lX11_docAt 0 (Nat.le_refl _) hJ hT hW q1 hw
  refine z_callV (As := [_]) eX11_docAt sX11_docAt lX11_349 rfl dX11_section_137 (hW.1 _ _ hT.1) hX (Nat.le_trans (by decide) hd) rfl (Nat.le_of_ble_eq_true rfl) (fun r cs hp => ?_)
  obtain ⟨r2, S3, rfl, hw, hW⟩ := hp
  refine z_st (st' := [.int (Int32.ofInt (r2))]) rfl ?_
  obtain ⟨q5, hw⟩ := hw
  refine i_if_lt (tgt := 173) dX11_section_140 (by decide) q5 (fun h4 => ?_) (fun h4 => ?_)
  · have hw := hw.1 h4
    refine z_loc (L' := [(0, .ref (G.1 + 54)), (6, .int (Int32.ofInt (l6)))]) (List.forall_mem_cons.mpr ⟨rfl, (List.forall_mem_cons.mpr ⟨rfl, (fun _ h => nomatch h)⟩)⟩) ?_
    exact bX11_section_173 hd hJ hT hW hP  hw
  · have hw := hw.2 h4
    refine z_aload_n dX11_section_143 rfl rfl ?_
    refine z_iload dX11_section_144 rfl ?_
    have hX := lX11_docAt 0 (Nat.le_refl _) hJ hT hW q1 hw
    refine z_callV (As := [_]) eX11_docAt sX11_docAt lX11_349 rfl dX11_section_146 (hW.1 _ _ hT.1) hX (Nat.le_trans (by decide) hd) rfl (Nat.le_of_ble_eq_true rfl) (fun r cs hp => ?_)
    obtain ⟨r6, S7, rfl, hw, hW⟩ := hp
    refine z_st (st' := [.int (Int32.ofInt (r6))]) rfl ?_
    refine z_bipush (v := Int32.ofInt 45) dX11_section_149 (by decide) ?_
    obtain ⟨q9, hw⟩ := hw
    refine i_icmp_ne (tgt := 167) dX11_section_151 (by decide) q9 ⟨by decide, by decide⟩ (fun h8 => ?_) (fun h8 => ?_)
    · have hw := hw.1 h8
      refine z_loc (L' := [(0, .ref (G.1 + 54)), (6, .int (Int32.ofInt (l6)))]) (List.forall_mem_cons.mpr ⟨rfl, (List.forall_mem_cons.mpr ⟨rfl, (fun _ h => nomatch h)⟩)⟩) ?_
      exact bX11_section_167 hd hJ hT hW hP hB134 hw
    · have hw := hw.2 h8
      refine z_aload_n dX11_section_154 rfl rfl ?_
      refine z_iload dX11_section_155 rfl ?_
      refine z_iconst (v := Int32.ofInt 1) dX11_section_157 rfl ?_
      refine i_iadd dX11_section_158 ?_
      obtain ⟨q10, hw⟩ := hw
      have hX := lX11_docAt 0 (Nat.le_refl _) hJ hT hW q10 hw
      refine z_callV (As := [_]) eX11_docAt sX11_docAt lX11_349 rfl dX11_section_159 (hW.1 _ _ hT.1) hX (Nat.le_trans (by decide) hd) rfl (Nat.le_of_ble_eq_true rfl) (fun r cs hp => ?_)
      obtain ⟨r11, S12, rfl, hw, hW⟩ := hp
      refine z_st (st' := [.int (Int32.ofInt (r11))]) rfl ?_
      refine z_bipush (v := Int32.ofInt 45) dX11_section_162 (by decide) ?_
      obtain ⟨q14, hw⟩ := hw
      refine i_icmp_eq (tgt := 173) dX11_section_164 (by decide) q14 ⟨by decide, by decide⟩ (fun h13 => ?_) (fun h13 => ?_)
      · have hw := hw.1 h13
        refine z_loc (L' := [(0, .ref (G.1 + 54)), (6, .int (Int32.ofInt (l6)))]) (List.forall_mem_cons.mpr ⟨rfl, (List.forall_mem_cons.mpr ⟨rfl, (fun _ h => nomatch h)⟩)⟩) ?_
        exact bX11_section_173 hd hJ hT hW hP  hw
      · have hw := hw.2 h13
        refine z_loc (L' := [(0, .ref (G.1 + 54)), (6, .int (Int32.ofInt (l6)))]) (List.forall_mem_cons.mpr ⟨rfl, (List.forall_mem_cons.mpr ⟨rfl, (fun _ h => nomatch h)⟩)⟩) ?_
        exact bX11_section_167 hd hJ hT hW hP hB134 hw
def wX11_section_134 (l6 : Int) (S : St) (K : Int → St → Prop) : Prop := ∃ (Iv : Int → St → Prop) (mu : Int → St → Nat), Iv l6 S ∧ ∀ (l6 : Int) (S : St), Iv l6 S → wX11_section_134' l6 S K  (fun ml6 T => Iv ml6 T ∧ mu ml6 T < mu l6 S)
set_option maxRecDepth 100000 in
set_option maxHeartbeats 4000000 in
theorem bX11_section_134 {G : xG} {sh : Nat → Option Sh} {J : St → List va_E → Prop} {d : Nat} {Post : xP} {l6 : Int} {S : St} {cs : List va_E} {K : Int → St → Prop} (hd : 1 ≤ d) (hJ : Stb sh J) (hT : isM sh) (hW : Wd G sh mT J S cs) (hP : ∀ (v : Int) (S : St) (cs : List va_E), K v S → Wd G sh mT J S cs → Post (some (.int (Int32.ofInt v))) cs)  (hw : wX11_section_134 l6 S K ) : Z (RX11, cX11_section, 8, some .int, false) G d Post 134 [(0, .ref (G.1 + 54)), (6, .int (Int32.ofInt (l6)))] [] cs := by
  unfold wX11_section_134 at hw
  obtain ⟨Iv, mu, h0, hs⟩ := hw
  have key : ∀ (n : Nat) (l6 : Int) (S : St) (cs : List va_E), mu l6 S < n → Iv l6 S → Wd G sh mT J S cs → Z (RX11, cX11_section, 8, some .int, false) G d Post 134 [(0, .ref (G.1 + 54)), (6, .int (Int32.ofInt (l6)))] [] cs := by
    intro n
    induction n with
    | zero => intro l6 S cs hn; exact absurd hn (Nat.not_lt_zero _)
    | succ n ih =>
      intro l6 S cs hn hI hW
      exact bX11_section_134' hd hJ hT hW hP  (fun l6 S cs hb hW => ih l6 S cs (Nat.lt_of_lt_of_le hb.2 (Nat.le_of_lt_succ hn)) hb.1 hW) (hs l6 S hI)
  exact key _ _ _ _ (Nat.lt_succ_self _) h0 hW
def wX11_section_123 (l6 s0 : Int) (S : St) (K : Int → St → Prop) : Prop := (rng (s0) ∧ (wX11_fail (s0) S (fun r2 S3 => K (l6) S3)))
set_option maxRecDepth 100000 in
set_option maxHeartbeats 4000000 in
theorem bX11_section_123 {G : xG} {sh : Nat → Option Sh} {J : St → List va_E → Prop} {d : Nat} {Post : xP} {l6 s0 : Int} {S : St} {cs : List va_E} {K : Int → St → Prop} (hd : 1 ≤ d) (hJ : Stb sh J) (hT : isM sh) (hW : Wd G sh mT J S cs) (hP : ∀ (v : Int) (S : St) (cs : List va_E), K v S → Wd G sh mT J S cs → Post (some (.int (Int32.ofInt v))) cs)  (hw : wX11_section_123 l6 s0 S K ) : Z (RX11, cX11_section, 8, some .int, false) G d Post 123 [(0, .ref (G.1 + 54)), (6, .int (Int32.ofInt (l6)))] [.int (Int32.ofInt (s0)), .ref (G.1 + 54)] cs := by
  unfold wX11_section_123 at hw
  obtain ⟨q1, hw⟩ := hw
  have hX := lX11_fail 0 (Nat.le_refl _) hJ hT hW q1 hw
  refine z_callV (As := [_]) eX11_fail sX11_fail lX11_362 rfl dX11_section_123 (hW.1 _ _ hT.1) hX (Nat.le_trans (by decide) hd) rfl (Nat.le_of_ble_eq_true rfl) (fun r cs hp => ?_)
  obtain ⟨r2, S3, rfl, hw, hW⟩ := hp
  refine z_st (st' := []) rfl ?_
  refine z_iload dX11_section_126 rfl ?_
  exact z_ireturn dX11_section_128 rfl rfl (hP _ _ _ hw hW)
def wX11_section_88 (l1 l2 l3 l5 l6 s0 : Int) (S : St) (K : Int → St → Prop) (B10 : Int → Int → Int → Int → Int → Int → St → Prop) : Prop := B10 (l1) (l2) (l3) (s0) (l5) ((l6 + 1)) S
set_option maxRecDepth 100000 in
set_option maxHeartbeats 4000000 in
theorem bX11_section_88 {G : xG} {sh : Nat → Option Sh} {J : St → List va_E → Prop} {d : Nat} {Post : xP} {l1 l2 l3 l5 l6 s0 : Int} {S : St} {cs : List va_E} {K : Int → St → Prop} {B10 : Int → Int → Int → Int → Int → Int → St → Prop} (hd : 1 ≤ d) (hJ : Stb sh J) (hT : isM sh) (hW : Wd G sh mT J S cs) (hP : ∀ (v : Int) (S : St) (cs : List va_E), K v S → Wd G sh mT J S cs → Post (some (.int (Int32.ofInt v))) cs) (hB10 : ∀ (l1 : Int) (l2 : Int) (l3 : Int) (l4 : Int) (l5 : Int) (l6 : Int) (S : St) (cs : List va_E), B10 l1 l2 l3 l4 l5 l6 S → Wd G sh mT J S cs → Z (RX11, cX11_section, 8, some .int, false) G d Post 10 [(0, .ref (G.1 + 54)), (1, .int (Int32.ofInt (l1))), (2, .int (Int32.ofInt (l2))), (3, .int (Int32.ofInt (l3))), (4, .int (Int32.ofInt (l4))), (5, .int (Int32.ofInt (l5))), (6, .int (Int32.ofInt (l6)))] [] cs) (hw : wX11_section_88 l1 l2 l3 l5 l6 s0 S K B10) : Z (RX11, cX11_section, 8, some .int, false) G d Post 88 [(0, .ref (G.1 + 54)), (1, .int (Int32.ofInt (l1))), (2, .int (Int32.ofInt (l2))), (3, .int (Int32.ofInt (l3))), (5, .int (Int32.ofInt (l5))), (6, .int (Int32.ofInt (l6)))] [.int (Int32.ofInt (s0))] cs := by
  unfold wX11_section_88 at hw
  refine z_istore dX11_section_88 (by decide) ?_
  refine z_loc (L' := [(0, .ref (G.1 + 54)), (1, .int (Int32.ofInt (l1))), (2, .int (Int32.ofInt (l2))), (3, .int (Int32.ofInt (l3))), (4, .int (Int32.ofInt (s0))), (5, .int (Int32.ofInt (l5))), (6, .int (Int32.ofInt (l6)))]) (List.forall_mem_cons.mpr ⟨rfl, (List.forall_mem_cons.mpr ⟨rfl, (List.forall_mem_cons.mpr ⟨rfl, (List.forall_mem_cons.mpr ⟨rfl, (List.forall_mem_cons.mpr ⟨rfl, (List.forall_mem_cons.mpr ⟨rfl, (List.forall_mem_cons.mpr ⟨rfl, (fun _ h => nomatch h)⟩)⟩)⟩)⟩)⟩)⟩)⟩) ?_
  refine i_iinc (l := l6) dX11_section_90 rfl (by decide) ?_
  refine z_loc (L' := [(0, .ref (G.1 + 54)), (1, .int (Int32.ofInt (l1))), (2, .int (Int32.ofInt (l2))), (3, .int (Int32.ofInt (l3))), (4, .int (Int32.ofInt (s0))), (5, .int (Int32.ofInt (l5))), (6, .int (Int32.ofInt ((l6 + 1))))]) (List.forall_mem_cons.mpr ⟨rfl, (List.forall_mem_cons.mpr ⟨rfl, (List.forall_mem_cons.mpr ⟨rfl, (List.forall_mem_cons.mpr ⟨rfl, (List.forall_mem_cons.mpr ⟨rfl, (List.forall_mem_cons.mpr ⟨rfl, (List.forall_mem_cons.mpr ⟨rfl, (fun _ h => nomatch h)⟩)⟩)⟩)⟩)⟩)⟩)⟩) ?_
  refine z_goto (tgt := 10) dX11_section_93 (by decide) ?_
  refine z_loc (L' := [(0, .ref (G.1 + 54)), (1, .int (Int32.ofInt (l1))), (2, .int (Int32.ofInt (l2))), (3, .int (Int32.ofInt (l3))), (4, .int (Int32.ofInt (s0))), (5, .int (Int32.ofInt (l5))), (6, .int (Int32.ofInt ((l6 + 1))))]) (List.forall_mem_cons.mpr ⟨rfl, (List.forall_mem_cons.mpr ⟨rfl, (List.forall_mem_cons.mpr ⟨rfl, (List.forall_mem_cons.mpr ⟨rfl, (List.forall_mem_cons.mpr ⟨rfl, (List.forall_mem_cons.mpr ⟨rfl, (List.forall_mem_cons.mpr ⟨rfl, (fun _ h => nomatch h)⟩)⟩)⟩)⟩)⟩)⟩)⟩) ?_
  exact hB10 _ _ _ _ _ _ _ _ hw hW
def wX11_section_72 (l1 l2 l3 l4 l6 l7 s0 : Int) (S : St) (K : Int → St → Prop) (B10 : Int → Int → Int → Int → Int → Int → St → Prop) : Prop := (rng (l7) ∧ (rng (l4) ∧ ((l7 ≤ l4 → wX11_section_88 (l1) (l2) (l3) (s0) (l6) (l4) S K B10) ∧ ((¬ (l7 ≤ l4)) → wX11_section_88 (l1) (l2) (l3) (s0) (l6) (l7) S K B10))))
set_option maxRecDepth 100000 in
set_option maxHeartbeats 4000000 in
theorem bX11_section_72 {G : xG} {sh : Nat → Option Sh} {J : St → List va_E → Prop} {d : Nat} {Post : xP} {l1 l2 l3 l4 l6 l7 s0 : Int} {S : St} {cs : List va_E} {K : Int → St → Prop} {B10 : Int → Int → Int → Int → Int → Int → St → Prop} (hd : 1 ≤ d) (hJ : Stb sh J) (hT : isM sh) (hW : Wd G sh mT J S cs) (hP : ∀ (v : Int) (S : St) (cs : List va_E), K v S → Wd G sh mT J S cs → Post (some (.int (Int32.ofInt v))) cs) (hB10 : ∀ (l1 : Int) (l2 : Int) (l3 : Int) (l4 : Int) (l5 : Int) (l6 : Int) (S : St) (cs : List va_E), B10 l1 l2 l3 l4 l5 l6 S → Wd G sh mT J S cs → Z (RX11, cX11_section, 8, some .int, false) G d Post 10 [(0, .ref (G.1 + 54)), (1, .int (Int32.ofInt (l1))), (2, .int (Int32.ofInt (l2))), (3, .int (Int32.ofInt (l3))), (4, .int (Int32.ofInt (l4))), (5, .int (Int32.ofInt (l5))), (6, .int (Int32.ofInt (l6)))] [] cs) (hw : wX11_section_72 l1 l2 l3 l4 l6 l7 s0 S K B10) : Z (RX11, cX11_section, 8, some .int, false) G d Post 72 [(0, .ref (G.1 + 54)), (1, .int (Int32.ofInt (l1))), (2, .int (Int32.ofInt (l2))), (3, .int (Int32.ofInt (l3))), (4, .int (Int32.ofInt (l4))), (6, .int (Int32.ofInt (l6))), (7, .int (Int32.ofInt (l7)))] [.int (Int32.ofInt (s0))] cs := by
  unfold wX11_section_72 at hw
  refine z_istore dX11_section_72 (by decide) ?_
  refine z_loc (L' := [(0, .ref (G.1 + 54)), (1, .int (Int32.ofInt (l1))), (2, .int (Int32.ofInt (l2))), (3, .int (Int32.ofInt (l3))), (4, .int (Int32.ofInt (l4))), (5, .int (Int32.ofInt (s0))), (6, .int (Int32.ofInt (l6))), (7, .int (Int32.ofInt (l7)))]) (List.forall_mem_cons.mpr ⟨rfl, (List.forall_mem_cons.mpr ⟨rfl, (List.forall_mem_cons.mpr ⟨rfl, (List.forall_mem_cons.mpr ⟨rfl, (List.forall_mem_cons.mpr ⟨rfl, (List.forall_mem_cons.mpr ⟨rfl, (List.forall_mem_cons.mpr ⟨rfl, (List.forall_mem_cons.mpr ⟨rfl, (fun _ h => nomatch h)⟩)⟩)⟩)⟩)⟩)⟩)⟩)⟩) ?_
  refine z_iload dX11_section_74 rfl ?_
  refine z_iload dX11_section_76 rfl ?_
  obtain ⟨q2, hw⟩ := hw
  obtain ⟨q3, hw⟩ := hw
  refine i_icmp_le (tgt := 86) dX11_section_78 (by decide) q2 q3 (fun h1 => ?_) (fun h1 => ?_)
  · have hw := hw.1 h1
    refine z_iload dX11_section_86 rfl ?_
    refine z_loc (L' := [(0, .ref (G.1 + 54)), (1, .int (Int32.ofInt (l1))), (2, .int (Int32.ofInt (l2))), (3, .int (Int32.ofInt (l3))), (5, .int (Int32.ofInt (s0))), (6, .int (Int32.ofInt (l6)))]) (List.forall_mem_cons.mpr ⟨rfl, (List.forall_mem_cons.mpr ⟨rfl, (List.forall_mem_cons.mpr ⟨rfl, (List.forall_mem_cons.mpr ⟨rfl, (List.forall_mem_cons.mpr ⟨rfl, (List.forall_mem_cons.mpr ⟨rfl, (fun _ h => nomatch h)⟩)⟩)⟩)⟩)⟩)⟩) ?_
    exact bX11_section_88 hd hJ hT hW hP hB10 hw
  · have hw := hw.2 h1
    refine z_iload dX11_section_81 rfl ?_
    refine z_goto (tgt := 88) dX11_section_83 (by decide) ?_
    refine z_loc (L' := [(0, .ref (G.1 + 54)), (1, .int (Int32.ofInt (l1))), (2, .int (Int32.ofInt (l2))), (3, .int (Int32.ofInt (l3))), (5, .int (Int32.ofInt (s0))), (6, .int (Int32.ofInt (l6)))]) (List.forall_mem_cons.mpr ⟨rfl, (List.forall_mem_cons.mpr ⟨rfl, (List.forall_mem_cons.mpr ⟨rfl, (List.forall_mem_cons.mpr ⟨rfl, (List.forall_mem_cons.mpr ⟨rfl, (List.forall_mem_cons.mpr ⟨rfl, (fun _ h => nomatch h)⟩)⟩)⟩)⟩)⟩)⟩) ?_
    exact bX11_section_88 hd hJ hT hW hP hB10 hw
def wX11_section_55 (l1 l2 l3 l4 l5 l6 l7 : Int) (S : St) (K : Int → St → Prop) (B10 : Int → Int → Int → Int → Int → Int → St → Prop) : Prop := (rng (l6) ∧ (rng (l7) ∧ (wX11_openerSign (l6) (l7) S (fun r3 S4 => (rng (r3) ∧ ((¬ r3 = 0 → wX11_section_72 (l1) (l2) (l3) (l4) (l6) (l7) (l5) S4 K B10) ∧ ((¬ (¬ r3 = 0)) → wX11_section_72 (l1) (l2) (l3) (l4) (l6) (l7) (l6) S4 K B10)))))))
set_option maxRecDepth 100000 in
set_option maxHeartbeats 4000000 in
theorem bX11_section_55 {G : xG} {sh : Nat → Option Sh} {J : St → List va_E → Prop} {d : Nat} {Post : xP} {l1 l2 l3 l4 l5 l6 l7 : Int} {S : St} {cs : List va_E} {K : Int → St → Prop} {B10 : Int → Int → Int → Int → Int → Int → St → Prop} (hd : 1 ≤ d) (hJ : Stb sh J) (hT : isM sh) (hW : Wd G sh mT J S cs) (hP : ∀ (v : Int) (S : St) (cs : List va_E), K v S → Wd G sh mT J S cs → Post (some (.int (Int32.ofInt v))) cs) (hB10 : ∀ (l1 : Int) (l2 : Int) (l3 : Int) (l4 : Int) (l5 : Int) (l6 : Int) (S : St) (cs : List va_E), B10 l1 l2 l3 l4 l5 l6 S → Wd G sh mT J S cs → Z (RX11, cX11_section, 8, some .int, false) G d Post 10 [(0, .ref (G.1 + 54)), (1, .int (Int32.ofInt (l1))), (2, .int (Int32.ofInt (l2))), (3, .int (Int32.ofInt (l3))), (4, .int (Int32.ofInt (l4))), (5, .int (Int32.ofInt (l5))), (6, .int (Int32.ofInt (l6)))] [] cs) (hw : wX11_section_55 l1 l2 l3 l4 l5 l6 l7 S K B10) : Z (RX11, cX11_section, 8, some .int, false) G d Post 55 [(0, .ref (G.1 + 54)), (1, .int (Int32.ofInt (l1))), (2, .int (Int32.ofInt (l2))), (3, .int (Int32.ofInt (l3))), (4, .int (Int32.ofInt (l4))), (5, .int (Int32.ofInt (l5))), (6, .int (Int32.ofInt (l6))), (7, .int (Int32.ofInt (l7)))] [] cs := by
  unfold wX11_section_55 at hw
  refine z_iload dX11_section_55 rfl ?_
  refine z_iload dX11_section_57 rfl ?_
  obtain ⟨q1, hw⟩ := hw
  obtain ⟨q2, hw⟩ := hw
  have hX := lX11_openerSign 0 (Nat.le_refl _) hJ hT hW q1 q2 hw
  refine z_callS (As := [_, _]) eX11_openerSign sX11_openerSign lX11_398 dX11_section_59 hX (Nat.le_trans (by decide) hd) rfl (Nat.le_of_ble_eq_true rfl) (fun r cs hp => ?_)
  obtain ⟨r3, S4, rfl, hw, hW⟩ := hp
  refine z_st (st' := [.int (Int32.ofInt (r3))]) rfl ?_
  obtain ⟨q6, hw⟩ := hw
  refine i_if_ne (tgt := 70) dX11_section_62 (by decide) q6 (fun h5 => ?_) (fun h5 => ?_)
  · have hw := hw.1 h5
    refine z_iload dX11_section_70 rfl ?_
    refine z_loc (L' := [(0, .ref (G.1 + 54)), (1, .int (Int32.ofInt (l1))), (2, .int (Int32.ofInt (l2))), (3, .int (Int32.ofInt (l3))), (4, .int (Int32.ofInt (l4))), (6, .int (Int32.ofInt (l6))), (7, .int (Int32.ofInt (l7)))]) (List.forall_mem_cons.mpr ⟨rfl, (List.forall_mem_cons.mpr ⟨rfl, (List.forall_mem_cons.mpr ⟨rfl, (List.forall_mem_cons.mpr ⟨rfl, (List.forall_mem_cons.mpr ⟨rfl, (List.forall_mem_cons.mpr ⟨rfl, (List.forall_mem_cons.mpr ⟨rfl, (fun _ h => nomatch h)⟩)⟩)⟩)⟩)⟩)⟩)⟩) ?_
    exact bX11_section_72 hd hJ hT hW hP hB10 hw
  · have hw := hw.2 h5
    refine z_iload dX11_section_65 rfl ?_
    refine z_goto (tgt := 72) dX11_section_67 (by decide) ?_
    refine z_loc (L' := [(0, .ref (G.1 + 54)), (1, .int (Int32.ofInt (l1))), (2, .int (Int32.ofInt (l2))), (3, .int (Int32.ofInt (l3))), (4, .int (Int32.ofInt (l4))), (6, .int (Int32.ofInt (l6))), (7, .int (Int32.ofInt (l7)))]) (List.forall_mem_cons.mpr ⟨rfl, (List.forall_mem_cons.mpr ⟨rfl, (List.forall_mem_cons.mpr ⟨rfl, (List.forall_mem_cons.mpr ⟨rfl, (List.forall_mem_cons.mpr ⟨rfl, (List.forall_mem_cons.mpr ⟨rfl, (List.forall_mem_cons.mpr ⟨rfl, (fun _ h => nomatch h)⟩)⟩)⟩)⟩)⟩)⟩)⟩) ?_
    exact bX11_section_72 hd hJ hT hW hP hB10 hw
def wX11_section_19' (l1 l2 l3 l4 l5 l6 l7 : Int) (S : St) (K : Int → St → Prop) (B10 : Int → Int → Int → Int → Int → Int → St → Prop) (B19 : Int → Int → Int → Int → Int → Int → Int → St → Prop) : Prop := (rng (l6) ∧ (rng (l7) ∧ (wX11_openerSign (l6) (l7) S (fun r3 S4 => (rng (r3) ∧ ((r3 = 0 → wX11_section_55 (l1) (l2) (l3) (l4) (l5) (l6) (l7) S4 K B10) ∧ ((¬ (r3 = 0)) → (wX11_openerSign (l6) (l7) S4 (fun r7 S8 => (rng (((l1 + 1) + l7)) ∧ (wX11_docAt (((l1 + 1) + l7)) S8 (fun r10 S11 => (rng (r7) ∧ (rng (r10) ∧ ((¬ r7 = r10 → wX11_section_55 (l1) (l2) (l3) (l4) (l5) (l6) (l7) S11 K B10) ∧ ((¬ (¬ r7 = r10)) → B19 (l1) (l2) (l3) (l4) (l5) (l6) ((l7 + 1)) S11))))))))))))))))
set_option maxRecDepth 100000 in
set_option maxHeartbeats 4000000 in
theorem bX11_section_19' {G : xG} {sh : Nat → Option Sh} {J : St → List va_E → Prop} {d : Nat} {Post : xP} {l1 l2 l3 l4 l5 l6 l7 : Int} {S : St} {cs : List va_E} {K : Int → St → Prop} {B10 : Int → Int → Int → Int → Int → Int → St → Prop} {B19 : Int → Int → Int → Int → Int → Int → Int → St → Prop} (hd : 1 ≤ d) (hJ : Stb sh J) (hT : isM sh) (hW : Wd G sh mT J S cs) (hP : ∀ (v : Int) (S : St) (cs : List va_E), K v S → Wd G sh mT J S cs → Post (some (.int (Int32.ofInt v))) cs) (hB10 : ∀ (l1 : Int) (l2 : Int) (l3 : Int) (l4 : Int) (l5 : Int) (l6 : Int) (S : St) (cs : List va_E), B10 l1 l2 l3 l4 l5 l6 S → Wd G sh mT J S cs → Z (RX11, cX11_section, 8, some .int, false) G d Post 10 [(0, .ref (G.1 + 54)), (1, .int (Int32.ofInt (l1))), (2, .int (Int32.ofInt (l2))), (3, .int (Int32.ofInt (l3))), (4, .int (Int32.ofInt (l4))), (5, .int (Int32.ofInt (l5))), (6, .int (Int32.ofInt (l6)))] [] cs) (hB19 : ∀ (l1 : Int) (l2 : Int) (l3 : Int) (l4 : Int) (l5 : Int) (l6 : Int) (l7 : Int) (S : St) (cs : List va_E), B19 l1 l2 l3 l4 l5 l6 l7 S → Wd G sh mT J S cs → Z (RX11, cX11_section, 8, some .int, false) G d Post 19 [(0, .ref (G.1 + 54)), (1, .int (Int32.ofInt (l1))), (2, .int (Int32.ofInt (l2))), (3, .int (Int32.ofInt (l3))), (4, .int (Int32.ofInt (l4))), (5, .int (Int32.ofInt (l5))), (6, .int (Int32.ofInt (l6))), (7, .int (Int32.ofInt (l7)))] [] cs) (hw : wX11_section_19' l1 l2 l3 l4 l5 l6 l7 S K B10 B19) : Z (RX11, cX11_section, 8, some .int, false) G d Post 19 [(0, .ref (G.1 + 54)), (1, .int (Int32.ofInt (l1))), (2, .int (Int32.ofInt (l2))), (3, .int (Int32.ofInt (l3))), (4, .int (Int32.ofInt (l4))), (5, .int (Int32.ofInt (l5))), (6, .int (Int32.ofInt (l6))), (7, .int (Int32.ofInt (l7)))] [] cs := by
  unfold wX11_section_19' at hw
  refine z_iload dX11_section_19 rfl ?_
  refine z_iload dX11_section_21 rfl ?_
  obtain ⟨q1, hw⟩ := hw
  obtain ⟨q2, hw⟩ := hw
  have hX := lX11_openerSign 0 (Nat.le_refl _) hJ hT hW q1 q2 hw
  refine z_callS (As := [_, _]) eX11_openerSign sX11_openerSign lX11_398 dX11_section_23 hX (Nat.le_trans (by decide) hd) rfl (Nat.le_of_ble_eq_true rfl) (fun r cs hp => ?_)
  obtain ⟨r3, S4, rfl, hw, hW⟩ := hp
  refine z_st (st' := [.int (Int32.ofInt (r3))]) rfl ?_
  obtain ⟨q6, hw⟩ := hw
  refine i_if_eq (tgt := 55) dX11_section_26 (by decide) q6 (fun h5 => ?_) (fun h5 => ?_)
  · have hw := hw.1 h5
    refine z_loc (L' := [(0, .ref (G.1 + 54)), (1, .int (Int32.ofInt (l1))), (2, .int (Int32.ofInt (l2))), (3, .int (Int32.ofInt (l3))), (4, .int (Int32.ofInt (l4))), (5, .int (Int32.ofInt (l5))), (6, .int (Int32.ofInt (l6))), (7, .int (Int32.ofInt (l7)))]) (List.forall_mem_cons.mpr ⟨rfl, (List.forall_mem_cons.mpr ⟨rfl, (List.forall_mem_cons.mpr ⟨rfl, (List.forall_mem_cons.mpr ⟨rfl, (List.forall_mem_cons.mpr ⟨rfl, (List.forall_mem_cons.mpr ⟨rfl, (List.forall_mem_cons.mpr ⟨rfl, (List.forall_mem_cons.mpr ⟨rfl, (fun _ h => nomatch h)⟩)⟩)⟩)⟩)⟩)⟩)⟩)⟩) ?_
    exact bX11_section_55 hd hJ hT hW hP hB10 hw
  · have hw := hw.2 h5
    refine z_iload dX11_section_29 rfl ?_
    refine z_iload dX11_section_31 rfl ?_
    have hX := lX11_openerSign 0 (Nat.le_refl _) hJ hT hW q1 q2 hw
    refine z_callS (As := [_, _]) eX11_openerSign sX11_openerSign lX11_398 dX11_section_33 hX (Nat.le_trans (by decide) hd) rfl (Nat.le_of_ble_eq_true rfl) (fun r cs hp => ?_)
    obtain ⟨r7, S8, rfl, hw, hW⟩ := hp
    refine z_st (st' := [.int (Int32.ofInt (r7))]) rfl ?_
    refine z_aload_n dX11_section_36 rfl rfl ?_
    refine z_iload_n dX11_section_37 rfl rfl ?_
    refine z_iconst (v := Int32.ofInt 1) dX11_section_38 rfl ?_
    refine i_iadd dX11_section_39 ?_
    refine z_iload dX11_section_40 rfl ?_
    refine i_iadd dX11_section_42 ?_
    obtain ⟨q9, hw⟩ := hw
    have hX := lX11_docAt 0 (Nat.le_refl _) hJ hT hW q9 hw
    refine z_callV (As := [_]) eX11_docAt sX11_docAt lX11_349 rfl dX11_section_43 (hW.1 _ _ hT.1) hX (Nat.le_trans (by decide) hd) rfl (Nat.le_of_ble_eq_true rfl) (fun r cs hp => ?_)
    obtain ⟨r10, S11, rfl, hw, hW⟩ := hp
    refine z_st (st' := [.int (Int32.ofInt (r10)), .int (Int32.ofInt (r7))]) rfl ?_
    obtain ⟨q13, hw⟩ := hw
    obtain ⟨q14, hw⟩ := hw
    refine i_icmp_ne (tgt := 55) dX11_section_46 (by decide) q13 q14 (fun h12 => ?_) (fun h12 => ?_)
    · have hw := hw.1 h12
      refine z_loc (L' := [(0, .ref (G.1 + 54)), (1, .int (Int32.ofInt (l1))), (2, .int (Int32.ofInt (l2))), (3, .int (Int32.ofInt (l3))), (4, .int (Int32.ofInt (l4))), (5, .int (Int32.ofInt (l5))), (6, .int (Int32.ofInt (l6))), (7, .int (Int32.ofInt (l7)))]) (List.forall_mem_cons.mpr ⟨rfl, (List.forall_mem_cons.mpr ⟨rfl, (List.forall_mem_cons.mpr ⟨rfl, (List.forall_mem_cons.mpr ⟨rfl, (List.forall_mem_cons.mpr ⟨rfl, (List.forall_mem_cons.mpr ⟨rfl, (List.forall_mem_cons.mpr ⟨rfl, (List.forall_mem_cons.mpr ⟨rfl, (fun _ h => nomatch h)⟩)⟩)⟩)⟩)⟩)⟩)⟩)⟩) ?_
      exact bX11_section_55 hd hJ hT hW hP hB10 hw
    · have hw := hw.2 h12
      refine i_iinc (l := l7) dX11_section_49 rfl (by decide) ?_
      refine z_loc (L' := [(0, .ref (G.1 + 54)), (1, .int (Int32.ofInt (l1))), (2, .int (Int32.ofInt (l2))), (3, .int (Int32.ofInt (l3))), (4, .int (Int32.ofInt (l4))), (5, .int (Int32.ofInt (l5))), (6, .int (Int32.ofInt (l6))), (7, .int (Int32.ofInt ((l7 + 1))))]) (List.forall_mem_cons.mpr ⟨rfl, (List.forall_mem_cons.mpr ⟨rfl, (List.forall_mem_cons.mpr ⟨rfl, (List.forall_mem_cons.mpr ⟨rfl, (List.forall_mem_cons.mpr ⟨rfl, (List.forall_mem_cons.mpr ⟨rfl, (List.forall_mem_cons.mpr ⟨rfl, (List.forall_mem_cons.mpr ⟨rfl, (fun _ h => nomatch h)⟩)⟩)⟩)⟩)⟩)⟩)⟩)⟩) ?_
      refine z_goto (tgt := 19) dX11_section_52 (by decide) ?_
      refine z_loc (L' := [(0, .ref (G.1 + 54)), (1, .int (Int32.ofInt (l1))), (2, .int (Int32.ofInt (l2))), (3, .int (Int32.ofInt (l3))), (4, .int (Int32.ofInt (l4))), (5, .int (Int32.ofInt (l5))), (6, .int (Int32.ofInt (l6))), (7, .int (Int32.ofInt ((l7 + 1))))]) (List.forall_mem_cons.mpr ⟨rfl, (List.forall_mem_cons.mpr ⟨rfl, (List.forall_mem_cons.mpr ⟨rfl, (List.forall_mem_cons.mpr ⟨rfl, (List.forall_mem_cons.mpr ⟨rfl, (List.forall_mem_cons.mpr ⟨rfl, (List.forall_mem_cons.mpr ⟨rfl, (List.forall_mem_cons.mpr ⟨rfl, (fun _ h => nomatch h)⟩)⟩)⟩)⟩)⟩)⟩)⟩)⟩) ?_
      exact hB19 _ _ _ _ _ _ _ _ _ hw hW
def wX11_section_19 (l1 l2 l3 l4 l5 l6 l7 : Int) (S : St) (K : Int → St → Prop) (B10 : Int → Int → Int → Int → Int → Int → St → Prop) : Prop := ∃ (Iv : Int → Int → Int → Int → Int → Int → Int → St → Prop) (mu : Int → Int → Int → Int → Int → Int → Int → St → Nat), Iv l1 l2 l3 l4 l5 l6 l7 S ∧ ∀ (l1 l2 l3 l4 l5 l6 l7 : Int) (S : St), Iv l1 l2 l3 l4 l5 l6 l7 S → wX11_section_19' l1 l2 l3 l4 l5 l6 l7 S K B10 (fun ml1 ml2 ml3 ml4 ml5 ml6 ml7 T => Iv ml1 ml2 ml3 ml4 ml5 ml6 ml7 T ∧ mu ml1 ml2 ml3 ml4 ml5 ml6 ml7 T < mu l1 l2 l3 l4 l5 l6 l7 S)
set_option maxRecDepth 100000 in
set_option maxHeartbeats 4000000 in
theorem bX11_section_19 {G : xG} {sh : Nat → Option Sh} {J : St → List va_E → Prop} {d : Nat} {Post : xP} {l1 l2 l3 l4 l5 l6 l7 : Int} {S : St} {cs : List va_E} {K : Int → St → Prop} {B10 : Int → Int → Int → Int → Int → Int → St → Prop} (hd : 1 ≤ d) (hJ : Stb sh J) (hT : isM sh) (hW : Wd G sh mT J S cs) (hP : ∀ (v : Int) (S : St) (cs : List va_E), K v S → Wd G sh mT J S cs → Post (some (.int (Int32.ofInt v))) cs) (hB10 : ∀ (l1 : Int) (l2 : Int) (l3 : Int) (l4 : Int) (l5 : Int) (l6 : Int) (S : St) (cs : List va_E), B10 l1 l2 l3 l4 l5 l6 S → Wd G sh mT J S cs → Z (RX11, cX11_section, 8, some .int, false) G d Post 10 [(0, .ref (G.1 + 54)), (1, .int (Int32.ofInt (l1))), (2, .int (Int32.ofInt (l2))), (3, .int (Int32.ofInt (l3))), (4, .int (Int32.ofInt (l4))), (5, .int (Int32.ofInt (l5))), (6, .int (Int32.ofInt (l6)))] [] cs) (hw : wX11_section_19 l1 l2 l3 l4 l5 l6 l7 S K B10) : Z (RX11, cX11_section, 8, some .int, false) G d Post 19 [(0, .ref (G.1 + 54)), (1, .int (Int32.ofInt (l1))), (2, .int (Int32.ofInt (l2))), (3, .int (Int32.ofInt (l3))), (4, .int (Int32.ofInt (l4))), (5, .int (Int32.ofInt (l5))), (6, .int (Int32.ofInt (l6))), (7, .int (Int32.ofInt (l7)))] [] cs := by
  unfold wX11_section_19 at hw
  obtain ⟨Iv, mu, h0, hs⟩ := hw
  have key : ∀ (n : Nat) (l1 l2 l3 l4 l5 l6 l7 : Int) (S : St) (cs : List va_E), mu l1 l2 l3 l4 l5 l6 l7 S < n → Iv l1 l2 l3 l4 l5 l6 l7 S → Wd G sh mT J S cs → Z (RX11, cX11_section, 8, some .int, false) G d Post 19 [(0, .ref (G.1 + 54)), (1, .int (Int32.ofInt (l1))), (2, .int (Int32.ofInt (l2))), (3, .int (Int32.ofInt (l3))), (4, .int (Int32.ofInt (l4))), (5, .int (Int32.ofInt (l5))), (6, .int (Int32.ofInt (l6))), (7, .int (Int32.ofInt (l7)))] [] cs := by
    intro n
    induction n with
    | zero => intro l1 l2 l3 l4 l5 l6 l7 S cs hn; exact absurd hn (Nat.not_lt_zero _)
    | succ n ih =>
      intro l1 l2 l3 l4 l5 l6 l7 S cs hn hI hW
      exact bX11_section_19' hd hJ hT hW hP hB10 (fun l1 l2 l3 l4 l5 l6 l7 S cs hb hW => ih l1 l2 l3 l4 l5 l6 l7 S cs (Nat.lt_of_lt_of_le hb.2 (Nat.le_of_lt_succ hn)) hb.1 hW) (hs l1 l2 l3 l4 l5 l6 l7 S hI)
  exact key _ _ _ _ _ _ _ _ _ _ (Nat.lt_succ_self _) h0 hW
def wX11_section_10' (l1 l2 l3 l4 l5 l6 : Int) (S : St) (K : Int → St → Prop) (B10 : Int → Int → Int → Int → Int → Int → St → Prop) : Prop := (rng (l6) ∧ ((2 ≤ l6 → (∀ x3 : Int, x3 = ((l1 + 1) + l4) → (rng (l5) ∧ ((¬ l5 = (-2) → ((¬ l5 = 0 → wX11_section_219 (l2) (x3) S K) ∧ ((¬ (¬ l5 = 0)) → wX11_section_134 (x3) S K))) ∧ ((¬ (¬ l5 = (-2))) → (rng (l3) ∧ ((l3 = 0 → wX11_section_123 (x3) ((l1 + 1)) S K) ∧ ((¬ (l3 = 0)) → wX11_section_123 (x3) (l1) S K)))))))) ∧ ((¬ (2 ≤ l6)) → wX11_section_19 (l1) (l2) (l3) (l4) (l5) (l6) (0) S K B10)))
set_option maxRecDepth 100000 in
set_option maxHeartbeats 4000000 in
theorem bX11_section_10' {G : xG} {sh : Nat → Option Sh} {J : St → List va_E → Prop} {d : Nat} {Post : xP} {l1 l2 l3 l4 l5 l6 : Int} {S : St} {cs : List va_E} {K : Int → St → Prop} {B10 : Int → Int → Int → Int → Int → Int → St → Prop} (hd : 1 ≤ d) (hJ : Stb sh J) (hT : isM sh) (hW : Wd G sh mT J S cs) (hP : ∀ (v : Int) (S : St) (cs : List va_E), K v S → Wd G sh mT J S cs → Post (some (.int (Int32.ofInt v))) cs) (hB10 : ∀ (l1 : Int) (l2 : Int) (l3 : Int) (l4 : Int) (l5 : Int) (l6 : Int) (S : St) (cs : List va_E), B10 l1 l2 l3 l4 l5 l6 S → Wd G sh mT J S cs → Z (RX11, cX11_section, 8, some .int, false) G d Post 10 [(0, .ref (G.1 + 54)), (1, .int (Int32.ofInt (l1))), (2, .int (Int32.ofInt (l2))), (3, .int (Int32.ofInt (l3))), (4, .int (Int32.ofInt (l4))), (5, .int (Int32.ofInt (l5))), (6, .int (Int32.ofInt (l6)))] [] cs) (hw : wX11_section_10' l1 l2 l3 l4 l5 l6 S K B10) : Z (RX11, cX11_section, 8, some .int, false) G d Post 10 [(0, .ref (G.1 + 54)), (1, .int (Int32.ofInt (l1))), (2, .int (Int32.ofInt (l2))), (3, .int (Int32.ofInt (l3))), (4, .int (Int32.ofInt (l4))), (5, .int (Int32.ofInt (l5))), (6, .int (Int32.ofInt (l6)))] [] cs := by
  unfold wX11_section_10' at hw
  refine z_iload dX11_section_10 rfl ?_
  refine z_iconst (v := Int32.ofInt 2) dX11_section_12 rfl ?_
  obtain ⟨q2, hw⟩ := hw
  refine i_icmp_ge (tgt := 96) dX11_section_13 (by decide) q2 ⟨by decide, by decide⟩ (fun h1 => ?_) (fun h1 => ?_)
  · have hw := hw.1 h1
    refine z_iload_n dX11_section_96 rfl rfl ?_
    refine z_iconst (v := Int32.ofInt 1) dX11_section_97 rfl ?_
    refine i_iadd dX11_section_98 ?_
    refine z_iload dX11_section_99 rfl ?_
    refine i_iadd dX11_section_101 ?_
    obtain ⟨x3, hx3⟩ : ∃ x : Int, x = ((l1 + 1) + l4) := ⟨_, rfl⟩
    have hw := hw x3 hx3
    refine z_st (st' := [.int (Int32.ofInt x3)]) (by rw [hx3]) ?_
    refine z_istore dX11_section_102 (by decide) ?_
    refine z_loc (L' := [(0, .ref (G.1 + 54)), (1, .int (Int32.ofInt (l1))), (2, .int (Int32.ofInt (l2))), (3, .int (Int32.ofInt (l3))), (4, .int (Int32.ofInt (l4))), (5, .int (Int32.ofInt (l5))), (6, .int (Int32.ofInt (x3)))]) (List.forall_mem_cons.mpr ⟨rfl, (List.forall_mem_cons.mpr ⟨rfl, (List.forall_mem_cons.mpr ⟨rfl, (List.forall_mem_cons.mpr ⟨rfl, (List.forall_mem_cons.mpr ⟨rfl, (List.forall_mem_cons.mpr ⟨rfl, (List.forall_mem_cons.mpr ⟨rfl, (fun _ h => nomatch h)⟩)⟩)⟩)⟩)⟩)⟩)⟩) ?_
    refine z_iload dX11_section_104 rfl ?_
    refine z_bipush (v := Int32.ofInt (-2)) dX11_section_106 (by decide) ?_
    obtain ⟨q5, hw⟩ := hw
    refine i_icmp_ne (tgt := 129) dX11_section_108 (by decide) q5 ⟨by decide, by decide⟩ (fun h4 => ?_) (fun h4 => ?_)
    · have hw := hw.1 h4
      refine z_iload dX11_section_129 rfl ?_
      refine i_if_ne (tgt := 219) dX11_section_131 (by decide) q5 (fun h6 => ?_) (fun h6 => ?_)
      · have hw := hw.1 h6
        refine z_loc (L' := [(0, .ref (G.1 + 54)), (2, .int (Int32.ofInt (l2))), (6, .int (Int32.ofInt (x3)))]) (List.forall_mem_cons.mpr ⟨rfl, (List.forall_mem_cons.mpr ⟨rfl, (List.forall_mem_cons.mpr ⟨rfl, (fun _ h => nomatch h)⟩)⟩)⟩) ?_
        exact bX11_section_219 hd hJ hT hW hP  hw
      · have hw := hw.2 h6
        refine z_loc (L' := [(0, .ref (G.1 + 54)), (6, .int (Int32.ofInt (x3)))]) (List.forall_mem_cons.mpr ⟨rfl, (List.forall_mem_cons.mpr ⟨rfl, (fun _ h => nomatch h)⟩)⟩) ?_
        exact bX11_section_134 hd hJ hT hW hP  hw
    · have hw := hw.2 h4
      refine z_aload_n dX11_section_111 rfl rfl ?_
      refine z_iload_n dX11_section_112 rfl rfl ?_
      obtain ⟨q8, hw⟩ := hw
      refine i_if_eq (tgt := 120) dX11_section_113 (by decide) q8 (fun h7 => ?_) (fun h7 => ?_)
      · have hw := hw.1 h7
        refine z_iload_n dX11_section_120 rfl rfl ?_
        refine z_iconst (v := Int32.ofInt 1) dX11_section_121 rfl ?_
        refine i_iadd dX11_section_122 ?_
        refine z_loc (L' := [(0, .ref (G.1 + 54)), (6, .int (Int32.ofInt (x3)))]) (List.forall_mem_cons.mpr ⟨rfl, (List.forall_mem_cons.mpr ⟨rfl, (fun _ h => nomatch h)⟩)⟩) ?_
        exact bX11_section_123 hd hJ hT hW hP  hw
      · have hw := hw.2 h7
        refine z_iload_n dX11_section_116 rfl rfl ?_
        refine z_goto (tgt := 123) dX11_section_117 (by decide) ?_
        refine z_loc (L' := [(0, .ref (G.1 + 54)), (6, .int (Int32.ofInt (x3)))]) (List.forall_mem_cons.mpr ⟨rfl, (List.forall_mem_cons.mpr ⟨rfl, (fun _ h => nomatch h)⟩)⟩) ?_
        exact bX11_section_123 hd hJ hT hW hP  hw
  · have hw := hw.2 h1
    refine z_iconst (v := Int32.ofInt 0) dX11_section_16 rfl ?_
    refine z_istore dX11_section_17 (by decide) ?_
    refine z_loc (L' := [(0, .ref (G.1 + 54)), (1, .int (Int32.ofInt (l1))), (2, .int (Int32.ofInt (l2))), (3, .int (Int32.ofInt (l3))), (4, .int (Int32.ofInt (l4))), (5, .int (Int32.ofInt (l5))), (6, .int (Int32.ofInt (l6))), (7, .int (Int32.ofInt (0)))]) (List.forall_mem_cons.mpr ⟨rfl, (List.forall_mem_cons.mpr ⟨rfl, (List.forall_mem_cons.mpr ⟨rfl, (List.forall_mem_cons.mpr ⟨rfl, (List.forall_mem_cons.mpr ⟨rfl, (List.forall_mem_cons.mpr ⟨rfl, (List.forall_mem_cons.mpr ⟨rfl, (List.forall_mem_cons.mpr ⟨rfl, (fun _ h => nomatch h)⟩)⟩)⟩)⟩)⟩)⟩)⟩)⟩) ?_
    refine z_loc (L' := [(0, .ref (G.1 + 54)), (1, .int (Int32.ofInt (l1))), (2, .int (Int32.ofInt (l2))), (3, .int (Int32.ofInt (l3))), (4, .int (Int32.ofInt (l4))), (5, .int (Int32.ofInt (l5))), (6, .int (Int32.ofInt (l6))), (7, .int (Int32.ofInt (0)))]) (List.forall_mem_cons.mpr ⟨rfl, (List.forall_mem_cons.mpr ⟨rfl, (List.forall_mem_cons.mpr ⟨rfl, (List.forall_mem_cons.mpr ⟨rfl, (List.forall_mem_cons.mpr ⟨rfl, (List.forall_mem_cons.mpr ⟨rfl, (List.forall_mem_cons.mpr ⟨rfl, (List.forall_mem_cons.mpr ⟨rfl, (fun _ h => nomatch h)⟩)⟩)⟩)⟩)⟩)⟩)⟩)⟩) ?_
    exact bX11_section_19 hd hJ hT hW hP hB10 hw
def wX11_section_10 (l1 l2 l3 l4 l5 l6 : Int) (S : St) (K : Int → St → Prop) : Prop := ∃ (Iv : Int → Int → Int → Int → Int → Int → St → Prop) (mu : Int → Int → Int → Int → Int → Int → St → Nat), Iv l1 l2 l3 l4 l5 l6 S ∧ ∀ (l1 l2 l3 l4 l5 l6 : Int) (S : St), Iv l1 l2 l3 l4 l5 l6 S → wX11_section_10' l1 l2 l3 l4 l5 l6 S K  (fun ml1 ml2 ml3 ml4 ml5 ml6 T => Iv ml1 ml2 ml3 ml4 ml5 ml6 T ∧ mu ml1 ml2 ml3 ml4 ml5 ml6 T < mu l1 l2 l3 l4 l5 l6 S)
set_option maxRecDepth 100000 in
set_option maxHeartbeats 4000000 in
theorem bX11_section_10 {G : xG} {sh : Nat → Option Sh} {J : St → List va_E → Prop} {d : Nat} {Post : xP} {l1 l2 l3 l4 l5 l6 : Int} {S : St} {cs : List va_E} {K : Int → St → Prop} (hd : 1 ≤ d) (hJ : Stb sh J) (hT : isM sh) (hW : Wd G sh mT J S cs) (hP : ∀ (v : Int) (S : St) (cs : List va_E), K v S → Wd G sh mT J S cs → Post (some (.int (Int32.ofInt v))) cs)  (hw : wX11_section_10 l1 l2 l3 l4 l5 l6 S K ) : Z (RX11, cX11_section, 8, some .int, false) G d Post 10 [(0, .ref (G.1 + 54)), (1, .int (Int32.ofInt (l1))), (2, .int (Int32.ofInt (l2))), (3, .int (Int32.ofInt (l3))), (4, .int (Int32.ofInt (l4))), (5, .int (Int32.ofInt (l5))), (6, .int (Int32.ofInt (l6)))] [] cs := by
  unfold wX11_section_10 at hw
  obtain ⟨Iv, mu, h0, hs⟩ := hw
  have key : ∀ (n : Nat) (l1 l2 l3 l4 l5 l6 : Int) (S : St) (cs : List va_E), mu l1 l2 l3 l4 l5 l6 S < n → Iv l1 l2 l3 l4 l5 l6 S → Wd G sh mT J S cs → Z (RX11, cX11_section, 8, some .int, false) G d Post 10 [(0, .ref (G.1 + 54)), (1, .int (Int32.ofInt (l1))), (2, .int (Int32.ofInt (l2))), (3, .int (Int32.ofInt (l3))), (4, .int (Int32.ofInt (l4))), (5, .int (Int32.ofInt (l5))), (6, .int (Int32.ofInt (l6)))] [] cs := by
    intro n
    induction n with
    | zero => intro l1 l2 l3 l4 l5 l6 S cs hn; exact absurd hn (Nat.not_lt_zero _)
    | succ n ih =>
      intro l1 l2 l3 l4 l5 l6 S cs hn hI hW
      exact bX11_section_10' hd hJ hT hW hP  (fun l1 l2 l3 l4 l5 l6 S cs hb hW => ih l1 l2 l3 l4 l5 l6 S cs (Nat.lt_of_lt_of_le hb.2 (Nat.le_of_lt_succ hn)) hb.1 hW) (hs l1 l2 l3 l4 l5 l6 S hI)
  exact key _ _ _ _ _ _ _ _ _ (Nat.lt_succ_self _) h0 hW
def wX11_section (a1 a2 a3 : Int) (S : St) (K : Int → St → Prop) : Prop := rng a1 → rng a2 → rng a3 → wX11_section_10 (a1) (a2) (a3) (0) ((-2)) (0) S K
set_option maxRecDepth 100000 in
set_option maxHeartbeats 4000000 in
theorem lX11_section {G : xG} {sh : Nat → Option Sh} {J : St → List va_E → Prop} {a1 a2 a3 : Int} {S : St} {cs : List va_E} {K : Int → St → Prop} (d : Nat) (hd : 1 ≤ d) (hJ : Stb sh J) (hT : isM sh) (hW : Wd G sh mT J S cs) (g1 : rng a1) (g2 : rng a2) (g3 : rng a3) (hw : wX11_section a1 a2 a3 S K) : X G yX11_section cX11_section 8 (some .int) d [.ref (G.1 + 54), .int (Int32.ofInt a1), .int (Int32.ofInt a2), .int (Int32.ofInt a3)] cs (qI G sh mT J K) := by
  refine X.of false (by decide +kernel) (by decide) (Nat.le_of_ble_eq_true rfl) ?_
  show Z (RX11, cX11_section, 8, some .int, false) G d _ 0 [(0, .ref (G.1 + 54)), (1, .int (Int32.ofInt a1)), (2, .int (Int32.ofInt a2)), (3, .int (Int32.ofInt a3))] [] cs
  have hP : ∀ (v : Int) (S : St) (cs : List va_E), K v S → Wd G sh mT J S cs → qI G sh mT J K (some (.int (Int32.ofInt v))) cs := fun v S cs a b => ⟨v, S, rfl, a, b⟩
  unfold wX11_section at hw
  have hw := hw g1 g2 g3
  refine z_iconst (v := Int32.ofInt 0) dX11_section_0 rfl ?_
  refine z_istore dX11_section_1 (by decide) ?_
  refine z_loc (L' := [(0, .ref (G.1 + 54)), (1, .int (Int32.ofInt (a1))), (2, .int (Int32.ofInt (a2))), (3, .int (Int32.ofInt (a3))), (4, .int (Int32.ofInt (0)))]) (List.forall_mem_cons.mpr ⟨rfl, (List.forall_mem_cons.mpr ⟨rfl, (List.forall_mem_cons.mpr ⟨rfl, (List.forall_mem_cons.mpr ⟨rfl, (List.forall_mem_cons.mpr ⟨rfl, (fun _ h => nomatch h)⟩)⟩)⟩)⟩)⟩) ?_
  refine z_bipush (v := Int32.ofInt (-2)) dX11_section_3 (by decide) ?_
  refine z_istore dX11_section_5 (by decide) ?_
  refine z_loc (L' := [(0, .ref (G.1 + 54)), (1, .int (Int32.ofInt (a1))), (2, .int (Int32.ofInt (a2))), (3, .int (Int32.ofInt (a3))), (4, .int (Int32.ofInt (0))), (5, .int (Int32.ofInt ((-2))))]) (List.forall_mem_cons.mpr ⟨rfl, (List.forall_mem_cons.mpr ⟨rfl, (List.forall_mem_cons.mpr ⟨rfl, (List.forall_mem_cons.mpr ⟨rfl, (List.forall_mem_cons.mpr ⟨rfl, (List.forall_mem_cons.mpr ⟨rfl, (fun _ h => nomatch h)⟩)⟩)⟩)⟩)⟩)⟩) ?_
  refine z_iconst (v := Int32.ofInt 0) dX11_section_7 rfl ?_
  refine z_istore dX11_section_8 (by decide) ?_
  refine z_loc (L' := [(0, .ref (G.1 + 54)), (1, .int (Int32.ofInt (a1))), (2, .int (Int32.ofInt (a2))), (3, .int (Int32.ofInt (a3))), (4, .int (Int32.ofInt (0))), (5, .int (Int32.ofInt ((-2)))), (6, .int (Int32.ofInt (0)))]) (List.forall_mem_cons.mpr ⟨rfl, (List.forall_mem_cons.mpr ⟨rfl, (List.forall_mem_cons.mpr ⟨rfl, (List.forall_mem_cons.mpr ⟨rfl, (List.forall_mem_cons.mpr ⟨rfl, (List.forall_mem_cons.mpr ⟨rfl, (List.forall_mem_cons.mpr ⟨rfl, (fun _ h => nomatch h)⟩)⟩)⟩)⟩)⟩)⟩)⟩) ?_
  refine z_loc (L' := [(0, .ref (G.1 + 54)), (1, .int (Int32.ofInt (a1))), (2, .int (Int32.ofInt (a2))), (3, .int (Int32.ofInt (a3))), (4, .int (Int32.ofInt (0))), (5, .int (Int32.ofInt ((-2)))), (6, .int (Int32.ofInt (0)))]) (List.forall_mem_cons.mpr ⟨rfl, (List.forall_mem_cons.mpr ⟨rfl, (List.forall_mem_cons.mpr ⟨rfl, (List.forall_mem_cons.mpr ⟨rfl, (List.forall_mem_cons.mpr ⟨rfl, (List.forall_mem_cons.mpr ⟨rfl, (List.forall_mem_cons.mpr ⟨rfl, (fun _ h => nomatch h)⟩)⟩)⟩)⟩)⟩)⟩)⟩) ?_
  exact bX11_section_10 hd hJ hT hW hP  hw

