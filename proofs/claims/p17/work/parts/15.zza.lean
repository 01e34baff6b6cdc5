/-! THE CLASS'S read: the tree is begun anew -/
set_option maxRecDepth 100000 in
set_option maxHeartbeats 4000000 in
theorem c_restart {G : xG} {v : Nat → Nat} {sh : Nat → Option Sh} {B : Nat × Nat} {c0 : List va_E} {S : St} {cs : List va_E} (d : Nat) (hd : 1 ≤ d) (hS : ∀ b x, sh b = some x → ¬ isS b) (hW : Wv G v sh B c0 S cs) (h3 : sh 3 = none) (hV : VV v) (hZ : QT G v cs) : X G yX6_restart cX6_restart 2 none d [.ref (G.1 + v 3), .ref (G.1 + v 1)] cs (fun r c1 => r = none ∧ Wv G v (uph sh 3 shT3) B c1 (sZ (sClr S 4) 3 (fun _ => 0)) c1 ∧ ∀ k, 54 ≤ k → k < 107 → c1[k]? = cs[k]?) := by
  have i1 : isS 1 := by unfold isS; decide
  have i4 : isS 4 := by unfold isS; decide
  have v3 : v 3 = 3 := hV.2.2.1
  obtain ⟨w, x, y, hc⟩ := hZ
  refine X.of false (by decide +kernel) (by decide) (Nat.le_of_ble_eq_true rfl) ?_
  show Z (RX6, cX6_restart, 2, none, false) G d _ 0 [(0, .ref (G.1 + v 3)), (1, .ref (G.1 + v 1))] [] cs
  rw [v3]
  refine z_aload_n dX6_restart_0 rfl rfl ?_
  refine z_aload_n dX6_restart_1 rfl rfl ?_
  refine z_put kX6 fX6_18 dX6_restart_2 rfl hc rfl rfl (Nat.le_of_ble_eq_true rfl) ?_
  have hW1 := hW.put3 (b := 1) h3 hc i1 (Or.inl ⟨rfl, rfl⟩)
  obtain ⟨c1, ec1⟩ : ∃ c1, c1 = cs.set 3 (.inr (6, [.ref (G.1 + v 4), .ref (G.1 + v 1), .ref (G.1 + v 6), .ref (G.1 + v 7), .ref (G.1 + v 8), .ref (G.1 + v 9), .ref (G.1 + v 10), .ref (G.1 + v 11), .ref (G.1 + v 12), .ref (G.1 + v 13), .ref (G.1 + v 14), .ref (G.1 + v 15), .ref (G.1 + v 16), .ref (G.1 + v 17), .ref (G.1 + v 18), .ref (G.1 + v 19), .int x, .int y])) := ⟨_, rfl⟩
  rw [← ec1] at hW1
  show Z _ _ _ _ _ _ _ (cs.set 3 (.inr (6, [.ref (G.1 + v 4), .ref (G.1 + v 1), .ref (G.1 + v 6), .ref (G.1 + v 7), .ref (G.1 + v 8), .ref (G.1 + v 9), .ref (G.1 + v 10), .ref (G.1 + v 11), .ref (G.1 + v 12), .ref (G.1 + v 13), .ref (G.1 + v 14), .ref (G.1 + v 15), .ref (G.1 + v 16), .ref (G.1 + v 17), .ref (G.1 + v 18), .ref (G.1 + v 19), .int x, .int y])))
  rw [← ec1]
  have hc1 : c1[3]? = some (.inr (6, [.ref (G.1 + v 4), .ref (G.1 + v 1), .ref (G.1 + v 6), .ref (G.1 + v 7), .ref (G.1 + v 8), .ref (G.1 + v 9), .ref (G.1 + v 10), .ref (G.1 + v 11), .ref (G.1 + v 12), .ref (G.1 + v 13), .ref (G.1 + v 14), .ref (G.1 + v 15), .ref (G.1 + v 16), .ref (G.1 + v 17), .ref (G.1 + v 18), .ref (G.1 + v 19), .int x, .int y])) := by rw [ec1]; exact set_at hc
  have fr1 : ∀ k, 54 ≤ k → k < 107 → c1[k]? = cs[k]? := fun k k1 k2 => by rw [ec1]; exact List.getElem?_set_ne (by omega)
  clear ec1 hW hc
  refine z_aload_n dX6_restart_5 rfl rfl ?_
  refine z_get kX6 fX6_12 dX6_restart_6 hc1 rfl ?_
  have hX := lX5_clear (K := fun _ S' => S' = sClr S 4) 0 (Nat.le_refl _) hW1 i4 (fun b x h e => hS b x h (e ▸ i4)) (fun _ h => h)
  refine z_callV (As := []) eX5_clear sX5_clear lX6_72 rfl dX6_restart_9 (hW1.sg i4 (fun b x h e => hS b x h (e ▸ i4))).choose_spec.choose_spec.choose_spec.choose_spec.1.choose_spec.1 hX (Nat.le_trans (by decide) hd) rfl (Nat.le_of_ble_eq_true rfl) (fun r c2 hp => ?_)
  obtain ⟨-, S2, eR2, eS, hW2⟩ := hp
  rw [eS] at hW2
  rw [eR2]
  clear eS eR2 hX
  have hc2 : c2[3]? = some (.inr (6, [.ref (G.1 + v 4), .ref (G.1 + v 1), .ref (G.1 + v 6), .ref (G.1 + v 7), .ref (G.1 + v 8), .ref (G.1 + v 9), .ref (G.1 + v 10), .ref (G.1 + v 11), .ref (G.1 + v 12), .ref (G.1 + v 13), .ref (G.1 + v 14), .ref (G.1 + v 15), .ref (G.1 + v 16), .ref (G.1 + v 17), .ref (G.1 + v 18), .ref (G.1 + v 19), .int x, .int y])) := (hW2.f3 h3).trans hc1
  have fr2 : ∀ k, 54 ≤ k → k < 107 → c2[k]? = cs[k]? := fun k k1 k2 => (hW2.fz ⟨k1, k2⟩).trans (fr1 k k1 k2)
  clear hW1 hc1 fr1
  refine z_st (st' := []) rfl ?_
  refine z_aload_n dX6_restart_12 rfl rfl ?_
  refine z_iconst (v := 0) dX6_restart_13 rfl ?_
  refine z_put kX6 fX6_65 dX6_restart_14 rfl hc2 rfl rfl (Nat.le_of_ble_eq_true rfl) ?_
  refine z_aload_n dX6_restart_17 rfl rfl ?_
  refine z_iconst (v := 0) dX6_restart_18 rfl ?_
  refine z_put kX6 fX6_69 dX6_restart_19 rfl (set_at hc2) rfl rfl (Nat.le_of_ble_eq_true rfl) ?_
  rw [List.set_set]
  have hW3 := hW2.put3 (b := 1) (x' := 0) (y' := 0) h3 hc2 i1 (Or.inr ⟨rfl, ⟨by decide, by decide⟩⟩)
  obtain ⟨c3, ec3⟩ : ∃ c3, c3 = c2.set 3 (.inr (6, [.ref (G.1 + v 4), .ref (G.1 + v 1), .ref (G.1 + v 6), .ref (G.1 + v 7), .ref (G.1 + v 8), .ref (G.1 + v 9), .ref (G.1 + v 10), .ref (G.1 + v 11), .ref (G.1 + v 12), .ref (G.1 + v 13), .ref (G.1 + v 14), .ref (G.1 + v 15), .ref (G.1 + v 16), .ref (G.1 + v 17), .ref (G.1 + v 18), .ref (G.1 + v 19), .int 0, .int 0])) := ⟨_, rfl⟩
  rw [← ec3] at hW3
  show Z _ _ _ _ _ _ _ (c2.set 3 (.inr (6, [.ref (G.1 + v 4), .ref (G.1 + v 1), .ref (G.1 + v 6), .ref (G.1 + v 7), .ref (G.1 + v 8), .ref (G.1 + v 9), .ref (G.1 + v 10), .ref (G.1 + v 11), .ref (G.1 + v 12), .ref (G.1 + v 13), .ref (G.1 + v 14), .ref (G.1 + v 15), .ref (G.1 + v 16), .ref (G.1 + v 17), .ref (G.1 + v 18), .ref (G.1 + v 19), .int 0, .int 0])))
  rw [← ec3]
  have hc3 : c3[3]? = some (.inr (6, [.ref (G.1 + v 4), .ref (G.1 + v 1), .ref (G.1 + v 6), .ref (G.1 + v 7), .ref (G.1 + v 8), .ref (G.1 + v 9), .ref (G.1 + v 10), .ref (G.1 + v 11), .ref (G.1 + v 12), .ref (G.1 + v 13), .ref (G.1 + v 14), .ref (G.1 + v 15), .ref (G.1 + v 16), .ref (G.1 + v 17), .ref (G.1 + v 18), .ref (G.1 + v 19), .int 0, .int 0])) := by rw [ec3]; exact set_at hc2
  refine z_return dX6_restart_22 rfl ⟨rfl, (hW3.tree h3 v3 hc3).base, fun k k1 k2 => ?_⟩
  rw [ec3, List.getElem?_set_ne (by omega)]
  exact fr2 k k1 k2
/-! XmlText is made -/
abbrev rfXt : List (Option Nat) := [some 1, some 3, some 4, none, none, none, none]
def fXt : Nat → Int := fun j => if j = 4 ∨ j = 6 then -1 else 0
set_option maxRecDepth 100000 in
theorem Wv.xml {G : xG} {v : Nat → Nat} {B : Nat × Nat} {c0 : List va_E} {S : St} {cs : List va_E} (hW : Wv G v shC B c0 S cs) (hV : VV v) (hB : B.1 + 1 ≤ 600000 ∧ B.2 + 7 ≤ 7302250) : Wv G (upv v 220 cs.length) (uph shC 220 (.inl (9, rfXt))) (B.1 + 1, B.2 + 7) c0 (sZ S 220 fXt) (cs ++ [.inr (9, [.ref (G.1 + v 1), .ref (G.1 + v 3), .ref (G.1 + v 4), .int 0, .int (-1), .int 0, .int (-1)])]) := by
  obtain ⟨τ, h⟩ := hW.ex
  have hL : 107 ≤ cs.length := h.2.2.2.2.2.2.2.2.2.1
  obtain ⟨g, hn⟩ := h.grow (l := [.inr (9, [.ref (G.1 + v 1), .ref (G.1 + v 3), .ref (G.1 + v 4), .int 0, .int (-1), .int 0, .int (-1)])]) (B1 := (B.1 + 1, B.2 + 7)) rfl rfl hB.1 hB.2
  have c_0 : (cs ++ [.inr (9, [.ref (G.1 + v 1), .ref (G.1 + v 3), .ref (G.1 + v 4), .int 0, .int (-1), .int 0, .int (-1)])])[cs.length + 0]? = _ := app_k
  have hQ := h.2.2.2.2.2.2.2.2.2.2.1
  have hF := h.2.2.2.2.2.2.1
  have s1 := hQ (v 1) (hF 1 (by unfold isS; decide)).1
  have s4 := hQ (v 4) (hF 4 (by unfold isS; decide)).1
  have t3 : oT τ (v 3) 6 := by
    rw [hV.2.2.1]
    exact h.1.2.1.2.1
  refine (g.addO (a := 220) (k := cs.length) (ci := 9) (p := 0) (rf := rfXt) (f := fXt) (shC_hi (by decide)) (by unfold isS; decide) (by decide) (fun b y hb => nr_C (by decide) hb) (by decide) (hn _ (Nat.le_refl _)) hL c_0 rfl ⟨by decide, by decide, by decide, by decide, by decide⟩ (wF_cons ⟨v 1, rfl, s1⟩ (wF_cons ⟨v 3, rfl, t3⟩ (wF_cons ⟨v 4, rfl, s4⟩ (wF_cons ⟨_, rfl, any_ok _⟩ (wF_cons ⟨_, rfl, by decide, by decide⟩ (wF_cons ⟨_, rfl, any_ok _⟩ (wF_cons ⟨_, rfl, any_ok _⟩ wF_nil))))))) (fun j hj => ?_) (fun j => ?_) ⟨by decide, by decide⟩).wv
  · rcases (show j = 0 ∨ j = 1 ∨ j = 2 ∨ j = 3 ∨ j = 4 ∨ j = 5 ∨ j = 6 ∨ 7 ≤ j by omega) with rfl | rfl | rfl | rfl | rfl | rfl | rfl | q
    all_goals first | rfl | (cases hj) | (rw [List.getElem?_eq_none_iff.mpr (by simpa using q)] at hj; cases hj)
  · unfold fXt
    by_cases q : j = 4
    · rw [q]
      exact ⟨by decide, by decide⟩
    · have e : cT.1 220 j = (-2147483648, 2147483647) := by
        show (match j with | 4 => ((-1 : Int), (199 : Int)) | _ => (-2147483648, 2147483647)) = _
        split
        · exact absurd rfl q
        · rfl
      rw [e]
      by_cases q2 : j = 4 ∨ j = 6
      · rw [if_pos q2]
        exact ⟨by decide, by decide⟩
      · rw [if_neg q2]
        exact ⟨by decide, by decide⟩

