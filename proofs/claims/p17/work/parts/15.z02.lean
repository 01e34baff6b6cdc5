/-! THE MODEL: ways -/
theorem UpR.mv {S S' : St} {κ : Int → Int} (h25 : S'.1 54 25 = S.1 54 25) (h72 : S'.2 72 = S.2 72) (h73 : S'.2 73 = S.2 73) (h74 : S'.2 74 = S.2 74) : ∀ {l : Upl} {x : Int}, UpR S κ x l → UpR S' κ x l
  | [], x, h => h
  | q :: l, x, h => by
    unfold UpR at h ⊢
    obtain ⟨a, b, c, d, f, g⟩ := h
    rw [h25, h72, h73, h74]
    exact ⟨a, b, c, d, f, UpR.mv h25 h72 h73 h74 g⟩
theorem UpR.om {S S' : St} {κ : Int → Int} {l : Upl} {x : Int} (h : UpR S κ x l) (k : Om S S') : UpR S' κ x l := h.mv (k.1 54 25 (by decide)) (k.2 72 (by decide)) (k.2 73 (by decide)) (k.2 74 (by decide))
theorem UpR.uq {S : St} {κ : Int → Int} : ∀ {l m : Upl} {x : Int}, UpR S κ x l → UpR S κ x m → l = m
  | [], [], _, _, _ => rfl
  | [], q :: m, x, h, k => by
    unfold UpR at h k
    omega
  | q :: l, [], x, h, k => by
    unfold UpR at h k
    omega
  | q :: l, r :: m, x, h, k => by
    unfold UpR at h k
    obtain ⟨a, b, c, d, f, g⟩ := h
    obtain ⟨a', b', c', d', f', g'⟩ := k
    have e1 : q = r := Prod.ext (a.trans a'.symm) (f.trans f'.symm)
    rw [e1, UpR.uq g g']
theorem UpR.len {S : St} {κ : Int → Int} : ∀ {l : Upl} {x : Int}, UpR S κ x l → l.length ≤ (x + 1).toNat
  | [], x, h => Nat.zero_le _
  | q :: l, x, h => by
    unfold UpR at h
    obtain ⟨a, b, c, d, f, g⟩ := h
    have := UpR.len g
    simp only [List.length_cons]
    omega
theorem UpR.drop {S : St} {κ : Int → Int} : ∀ {l : Upl} {x : Int} {j : Nat}, UpR S κ x l → (h : j < l.length) → UpR S κ (l[j]).1 (l.drop j)
  | q :: l, x, 0, h, hj => by
    have a := h
    unfold UpR at a
    show UpR S κ q.1 (q :: l)
    rw [a.1]
    exact h
  | q :: l, x, j + 1, h, hj => by
    unfold UpR at h
    obtain ⟨a, b, c, d, f, g⟩ := h
    have hj2 : j < l.length := by simpa using hj
    exact UpR.drop g hj2
theorem UpR.neg {S : St} {κ : Int → Int} {l : Upl} {x : Int} (h : UpR S κ x l) (hx : x < 0) : l = [] ∧ x = -2 := by
  cases l with
  | nil => exact ⟨rfl, h⟩
  | cons q l =>
    unfold UpR at h
    omega
theorem UpR.pos {S : St} {κ : Int → Int} {l : Upl} {x : Int} (h : UpR S κ x l) (hx : 0 ≤ x) : ∃ q m, l = q :: m ∧ q.1 = x ∧ x < S.1 54 25 ∧ S.2 72 x < x ∧ q.2 = (κ x, S.2 73 x, S.2 74 x) ∧ UpR S κ (S.2 72 x) m := by
  cases l with
  | nil =>
    have : x = -2 := h
    omega
  | cons q l =>
    unfold UpR at h
    obtain ⟨a, b, c, d, f, g⟩ := h
    exact ⟨q, l, rfl, a, c, d, f, g⟩
section MW
variable {S : St} {A : List Int} {K : Int → St → Prop} {e : Env} {κ : Int → Int}
theorem n_around {x y : Int} {u : Upl} (hy : 0 ≤ y) (hn : S.1 54 25 ≤ 900) (hx : x < 900) (hU : UpR S κ x u) (hK : K (if y ∈ u.map (fun q => q.1) then 1 else 0) S) : wX11_isAround y x S K := by
  unfold wX11_isAround
  intro gy _
  unfold wX11_isAround_2
  refine ⟨fun l1 l3 T => l1 = y ∧ T = S ∧ -2 ≤ l3 ∧ l3 < 900 ∧ ∃ l, UpR S κ l3 l ∧ (y ∈ u.map (fun q => q.1) ↔ y ∈ l.map (fun q => q.1)), fun l1 l3 T => (l3 + 3).toNat, ⟨rfl, rfl, ?_, hx, u, hU, Iff.rfl⟩, fun l1 l3 T hI => ?_⟩
  · by_cases q : x < 0
    · have := (hU.neg q).2
      omega
    · omega
  obtain ⟨rfl, rfl, i1, i2, l, hl, hm⟩ := hI
  unfold wX11_isAround_2' wX11_isAround_21
  refine ⟨⟨by omega, by omega⟩, fun h => ?_, fun h => ⟨gy, fun h2 => ?_, fun h2 => ?_⟩⟩
  · obtain ⟨rfl, h3⟩ := hl.neg h
    rw [if_neg (fun r => by have := hm.mp r; simp at this)] at hK
    exact ⟨⟨by omega, by omega⟩, gy, fun _ => hK, fun r => absurd (Classical.not_not.mp r) (by omega)⟩
  · obtain ⟨q, m, rfl, b1, b2, b3, b4, b5⟩ := hl.pos (by omega)
    rw [if_pos (hm.mpr (by simp; left; omega))] at hK
    exact ⟨⟨by omega, by omega⟩, gy, fun r => absurd h2 r, fun _ => hK⟩
  · obtain ⟨q, m, rfl, b1, b2, b3, b4, b5⟩ := hl.pos (by omega)
    refine ⟨by omega, by omega, fun g x hx => ?_⟩
    subst hx
    refine ⟨⟨rfl, rfl, by omega, by omega, m, b5, hm.trans ⟨fun r => ?_, fun r => ?_⟩⟩, by dsimp only; omega⟩
    · rcases List.mem_cons.mp r with r | r
      · have r2 : l1 = q.1 := r
        omega
      · exact r
    · exact List.mem_cons_of_mem _ r
theorem m_step {x z : Int} (hE : mE S e) (hV : EV e) (hO : oM S A) (hx : iv 0 899 x) (hk : okN e (S.2 73 x)) (hK : ∀ S', Om S S' → oM S' (A ++ stp e (z, S.2 73 x, S.2 74 x)) → K 0 S') : wX11_putStep x S K := by
  have hkb := okN_b hV hk
  unfold wX11_putStep
  intro _
  unfold stp at hK
  refine ⟨by omega, by omega, fun _ => m_name hE hO hk hkb (fun S1 f1 o1 => ?_)⟩
  rw [f1.2 74 (by decide)]
  refine ⟨by omega, by omega, fun g => ⟨fun h => ?_, fun h => ?_⟩⟩
  · rw [if_neg (by dsimp only; omega), List.append_nil] at hK
    exact hK S1 f1 o1
  · rw [if_pos (by dsimp only; omega)] at hK
    refine m_put o1 (fun r S2 f2 o2 => ?_)
    rw [f2.2 74 (by decide), f1.2 74 (by decide)]
    refine ⟨by omega, by omega, fun _ => m_number ⟨by omega, by omega⟩ o2 (fun S3 f3 o3 => m_put o3 (fun r S4 f4 o4 => hK S4 (((f1.tr f2).tr f3).tr f4) ?_))⟩
    simp only [List.append_assoc] at o4 ⊢
    exact o4
def oU (e : Env) (sk : Int → Bool) (q : Int × Int × Int × Int) : List Int := if sk q.1 then [] else [47] ++ stp e q.2
theorem take_rev {u : Upl} {j : Nat} (h : j < u.length) : (u.take (j + 1)).reverse = u[j] :: (u.take j).reverse := by
  rw [List.take_succ_eq_append_getElem h, List.reverse_append]
  rfl
theorem m_steps {x y : Int} {u : Upl} {sk : Int → Bool} (hE : mE S e) (hV : EV e) (hO : oM S A) (hn : S.1 54 25 ≤ 900) (hx : iv 0 899 x) (hU : UpR S κ x u) (hT : ∀ x, 0 ≤ x → x < S.1 54 25 → okN e (S.2 73 x)) (hy : (y = -2 ∧ sk = fun _ => false) ∨ (iv 0 899 y ∧ ∃ w, UpR S κ y w ∧ sk = fun z => decide (z ∈ w.map (fun q => q.1)))) (hK : ∀ S', Om S S' → oM S' (A ++ u.reverse.flatMap (oU e sk)) → K 0 S') : wX11_putSteps x y 1 S K := by
  have hul := hU.len
  unfold wX11_putSteps
  intro _ gy _
  unfold wX11_putSteps_6
  refine ⟨fun l1 l2 l3 l4 l5 T => l1 = x ∧ l2 = y ∧ l3 = 1 ∧ T = S ∧ -2 ≤ l5 ∧ l5 < 900 ∧ 0 ≤ l4 ∧ ∃ l : Upl, UpR S κ l5 l ∧ l4 + l.length = (u.length : Int), fun l1 l2 l3 l4 l5 T => (l5 + 3).toNat, ⟨rfl, rfl, rfl, rfl, by omega, by omega, by decide, u, hU, by simp⟩, fun l1 l2 l3 l4 l5 T hI => ?_⟩
  obtain ⟨rfl, rfl, rfl, rfl, i1, i2, i3, l, hl, hc⟩ := hI
  unfold wX11_putSteps_6'
  refine ⟨⟨by omega, by omega⟩, fun h x3 hx3 => ?_, fun h => ?_⟩
  · obtain ⟨rfl, h3⟩ := hl.neg h
    have h4 : l4 = (u.length : Int) := by simpa using hc
    unfold wX11_putSteps_35
    refine ⟨fun m1 m2 m5 m6 U => m1 = l1 ∧ m2 = l2 ∧ m5 = 1 ∧ Om T U ∧ -1 ≤ m6 ∧ m6 < (u.length : Int) ∧ ∃ A', oM U A' ∧ A' ++ (u.take (m6 + 1).toNat).reverse.flatMap (oU e sk) = A ++ u.reverse.flatMap (oU e sk), fun m1 m2 m5 m6 U => (m6 + 1).toNat, ⟨rfl, rfl, rfl, Om.rf, by omega, by omega, A, hO, ?_⟩, fun m1 m2 m5 m6 U hJ => ?_⟩
    · rw [show (x3 + 1).toNat = u.length by omega, List.take_length]
    obtain ⟨rfl, rfl, rfl, fU, j1, j2, A', oA, hcc⟩ := hJ
    unfold wX11_putSteps_35'
    refine ⟨⟨by omega, by omega⟩, fun h5 => ?_, fun h5 => ?_⟩
    · rw [show (m6 + 1).toNat = 0 by omega] at hcc
      have : A' = A ++ u.reverse.flatMap (oU e sk) := by simpa using hcc
      rw [← this] at hK
      exact hK U fU oA
    · have hj : m6.toNat < u.length := by omega
      rw [show (m6 + 1).toNat = m6.toNat + 1 by omega, take_rev hj] at hcc
      have hd := hU.drop hj
      have nxt : ∀ (V : St) (B : List Int), Om U V → oM V B → B ++ (u.take m6.toNat).reverse.flatMap (oU e sk) = A ++ u.reverse.flatMap (oU e sk) → wX11_putSteps_104 m1 m2 1 m6 V K (fun ml1 ml2 ml5 ml6 T_1 => (ml1 = m1 ∧ ml2 = m2 ∧ ml5 = 1 ∧ Om T T_1 ∧ -1 ≤ ml6 ∧ ml6 < (u.length : Int) ∧ ∃ A', oM T_1 A' ∧ A' ++ (u.take (ml6 + 1).toNat).reverse.flatMap (oU e sk) = A ++ u.reverse.flatMap (oU e sk)) ∧ (ml6 + 1).toNat < (m6 + 1).toNat) := fun V B fV oV hB => by
        unfold wX11_putSteps_104
        refine ⟨⟨rfl, rfl, rfl, fU.tr fV, by omega, by omega, B, oV, ?_⟩, by omega⟩
        rw [show (m6 + -1 + 1).toNat = m6.toNat by omega]
        exact hB
      unfold wX11_putSteps_46
      refine ⟨fun n1 n2 n5 n6 n7 n8 V => n1 = m1 ∧ n2 = m2 ∧ n5 = 1 ∧ n6 = m6 ∧ V = U ∧ 0 ≤ n8 ∧ n8 ≤ m6 ∧ n7 < 900 ∧ 0 ≤ n7 ∧ UpR T κ n7 (u.drop n8.toNat), fun n1 n2 n5 n6 n7 n8 V => (m6 - n8).toNat, ⟨rfl, rfl, rfl, rfl, rfl, by decide, by omega, by omega, by omega, by simpa using hU⟩, fun n1 n2 n5 n6 n7 n8 V hL => ?_⟩
      obtain ⟨rfl, rfl, rfl, rfl, rfl, k1, k2, k3, k4, k5⟩ := hL
      unfold wX11_putSteps_46'
      refine ⟨⟨by omega, by omega⟩, ⟨by omega, by omega⟩, fun h6 => ?_, fun h6 => ?_⟩
      · have e8 : n8.toNat = n6.toNat := by omega
        rw [e8] at k5
        obtain ⟨q, mm, g1, g2, g3, g4, g5, g6⟩ := k5.pos k4
        have hq : u[n6.toNat] = q := by
          rw [List.drop_eq_getElem_cons hj] at g1
          exact (List.cons.inj g1).1
        rw [hq] at hcc
        have hEU := hE.om fU
        have h73 : V.2 73 = T.2 73 := fU.2 73 (by decide)
        have h74 : V.2 74 = T.2 74 := fU.2 74 (by decide)
        have put : sk n7 = false → wX11_putSteps_84 n1 n2 1 n6 n7 V K (fun ml1 ml2 ml5 ml6 T_1 => (ml1 = n1 ∧ ml2 = n2 ∧ ml5 = 1 ∧ Om T T_1 ∧ -1 ≤ ml6 ∧ ml6 < (u.length : Int) ∧ ∃ A', oM T_1 A' ∧ A' ++ (u.take (ml6 + 1).toNat).reverse.flatMap (oU e sk) = A ++ u.reverse.flatMap (oU e sk)) ∧ (ml6 + 1).toNat < (n6 + 1).toNat) := fun hs => by
          unfold wX11_putSteps_84 wX11_putSteps_95
          refine ⟨⟨by decide, by decide⟩, fun r => absurd r (by decide), fun _ => m_put oA (fun r V1 f1 o1 => ⟨⟨by omega, by omega⟩, ?_⟩)⟩
          have h73' : V1.2 73 = T.2 73 := (f1.2 73 (by decide)).trans h73
          have h74' : V1.2 74 = T.2 74 := (f1.2 74 (by decide)).trans h74
          refine m_step (z := κ n7) (hEU.om f1) hV o1 ⟨k4, by omega⟩ (by rw [h73']; exact hT n7 k4 g3) (fun V2 f2 o2 => nxt V2 _ (f1.tr f2) o2 ?_)
          rw [← hcc, List.flatMap_cons]
          unfold oU
          rw [g2, hs, if_neg (by decide), g5, h73', h74']
          simp only [List.append_assoc]
        refine ⟨gy, fun h7 => put ?_, fun h7 => ⟨⟨by omega, by omega⟩, ?_⟩⟩
        · rcases hy with ⟨-, r⟩ | ⟨r, -⟩
          · rw [r]
          · omega
        · obtain ⟨r1, w, r2, r3⟩ := hy.resolve_left (fun r => h7 r.1)
          have e25 : V.1 54 25 = T.1 54 25 := fU.1 54 25 (by decide)
          refine n_around k4 (by omega) (by omega) (r2.om fU) ?_
          by_cases hm : n7 ∈ w.map (fun q => q.1)
          · rw [if_pos hm]
            refine ⟨⟨by decide, by decide⟩, fun _ => nxt V A' Om.rf oA ?_, fun r => absurd (show ¬ (1 : Int) = 0 by decide) r⟩
            rw [← hcc, List.flatMap_cons]
            have : oU e sk q = [] := by
              unfold oU
              rw [g2, r3]
              dsimp only
              rw [if_pos (decide_eq_true hm)]
            rw [this, List.nil_append]
          · rw [if_neg hm]
            refine ⟨⟨by decide, by decide⟩, fun r => absurd rfl r, fun _ => put ?_⟩
            rw [r3]
            exact decide_eq_false hm
      · have hj8 : n8.toNat < u.length := by omega
        obtain ⟨q, mm, g1, g2, g3, g4, g5, g6⟩ := k5.pos k4
        have e72 : V.2 72 = T.2 72 := fU.2 72 (by decide)
        rw [e72]
        refine ⟨by omega, by omega, fun g x hx => ?_⟩
        subst hx
        have hdr : mm = u.drop (n8 + 1).toNat := by
          rw [List.drop_eq_getElem_cons hj8] at g1
          rw [show (n8 + 1).toNat = n8.toNat + 1 by omega]
          exact (List.cons.inj g1).2.symm
        rw [hdr] at g6
        refine ⟨⟨rfl, rfl, rfl, rfl, rfl, by omega, by omega, by omega, ?_, g6⟩, by dsimp only; omega⟩
        by_cases r : T.2 72 n7 < 0
        · have := (g6.neg r).1
          have := congrArg List.length this
          rw [List.length_drop] at this
          simp at this
          omega
        · omega
  · obtain ⟨q, m, rfl, b1, b2, b3, b4, b5⟩ := hl.pos (by omega)
    refine ⟨by omega, by omega, fun g x hx => ?_⟩
    subst hx
    simp only [List.length_cons] at hc
    have hml : (m.length : Int) + 1 + l4 = u.length := by omega
    exact ⟨⟨rfl, rfl, rfl, rfl, by omega, by omega, by omega, m, b5, by omega⟩, by dsimp only; omega⟩
end MW

