/-! THE MODEL: the way from an element to another, and references -/
theorem shr_lt : ∀ {a b : Pth} {j : Nat}, (j < shr a b ↔ j < a.length ∧ j < b.length ∧ ∀ m, m ≤ j → (a.getD m (0, 0, 0)).1 = (b.getD m (0, 0, 0)).1)
  | [], b, j => by
    unfold shr
    simp
  | a :: l, [], j => by
    unfold shr
    simp
  | a :: l, b :: m, j => by
    unfold shr
    by_cases q : a.1 = b.1
    · rw [if_pos q]
      cases j with
      | zero =>
        simp
        exact q
      | succ j =>
        have ih := shr_lt (a := l) (b := m) (j := j)
        constructor
        · intro h
          obtain ⟨h1, h2, h3⟩ := ih.mp (by omega)
          refine ⟨by simp; omega, by simp; omega, fun r hr => ?_⟩
          cases r with
          | zero => exact q
          | succ r => exact h3 r (by omega)
        · rintro ⟨h1, h2, h3⟩
          have := ih.mpr ⟨by simp at h1; omega, by simp at h2; omega, fun r hr => h3 (r + 1) (by omega)⟩
          omega
    · rw [if_neg q]
      constructor
      · intro h
        exact absurd h (Nat.not_lt_zero _)
      · rintro ⟨h1, h2, h3⟩
        exact absurd (h3 0 (Nat.zero_le _)) q
/-- the path of an up list -/
def pOf (u : Upl) : Pth := (u.map (fun q => q.2)).reverse
theorem pOf_len {u : Upl} : (pOf u).length = u.length := by
  unfold pOf
  simp
theorem pOf_get {u : Upl} {j : Nat} (h : j < u.length) : (pOf u).getD (u.length - 1 - j) (0, 0, 0) = (u[j]).2 := by
  unfold pOf
  rw [List.getD_eq_getElem?_getD, List.getElem?_reverse (by simp; omega)]
  simp
  rw [List.getElem?_eq_getElem (by omega)]
  simp
  congr 2
  omega
theorem mem_up {S : St} {κ : Int → Int} {x y : Int} {u w : Upl} (hu : UpR S κ x u) (hw : UpR S κ y w) (hκ : ∀ a ∈ u, ∀ b ∈ w, a.2.1 = b.2.1 → a.1 = b.1) {j : Nat} (hj : j < u.length) : ((u[j]).1 ∈ w.map (fun q => q.1)) ↔ u.length - shr (pOf u) (pOf w) ≤ j := by
  have hs := shr_le (pOf u) (pOf w)
  rw [pOf_len, pOf_len] at hs
  constructor
  · intro h
    obtain ⟨b, hb, hb2⟩ := List.mem_map.mp h
    obtain ⟨i, hi, rfl⟩ := List.getElem_of_mem hb
    have d1 := hu.drop hj
    have d2 := hw.drop hi
    have hb2 : (w[i]).1 = (u[j]).1 := hb2
    rw [hb2] at d2
    have e := d1.uq d2
    have el : u.length - j = w.length - i := by
      have := congrArg List.length e
      simpa using this
    have key : u.length - 1 - j < shr (pOf u) (pOf w) := by
      rw [shr_lt, pOf_len, pOf_len]
      refine ⟨by omega, by omega, fun m hm => ?_⟩
      have a1 := pOf_get (u := u) (j := u.length - 1 - m) (by omega)
      have a2 := pOf_get (u := w) (j := w.length - 1 - m) (by omega)
      rw [show u.length - 1 - (u.length - 1 - m) = m by omega] at a1
      rw [show w.length - 1 - (w.length - 1 - m) = m by omega] at a2
      rw [a1, a2]
      have g1 : u[u.length - 1 - m]'(by omega) = (u.drop j)[u.length - 1 - m - j]'(by simp; omega) := by
        rw [List.getElem_drop]
        congr 1
        omega
      have g2 : w[w.length - 1 - m]'(by omega) = (w.drop i)[w.length - 1 - m - i]'(by simp; omega) := by
        rw [List.getElem_drop]
        congr 1
        omega
      rw [g1, g2]
      have e3 : u.length - 1 - m - j = w.length - 1 - m - i := by omega
      simp only [e, e3]
    omega
  · intro h
    have key : u.length - 1 - j < shr (pOf u) (pOf w) := by omega
    rw [shr_lt, pOf_len, pOf_len] at key
    obtain ⟨k1, k2, k3⟩ := key
    have k4 := k3 (u.length - 1 - j) (Nat.le_refl _)
    have a1 := pOf_get (u := u) hj
    have a2 := pOf_get (u := w) (j := w.length - 1 - (u.length - 1 - j)) (by omega)
    rw [show w.length - 1 - (w.length - 1 - (u.length - 1 - j)) = u.length - 1 - j by omega] at a2
    rw [a1, a2] at k4
    have := hκ _ (List.getElem_mem hj) _ (List.getElem_mem (show w.length - 1 - (u.length - 1 - j) < w.length by omega)) k4
    rw [this]
    exact List.mem_map.mpr ⟨_, List.getElem_mem _, rfl⟩
theorem shr_sym : ∀ (a b : Pth), shr a b = shr b a
  | [], [] => rfl
  | [], b :: m => rfl
  | a :: l, [] => rfl
  | a :: l, b :: m => by
    unfold shr
    rw [shr_sym l m]
    by_cases q : a.1 = b.1
    · rw [if_pos q, if_pos q.symm]
    · rw [if_neg q, if_neg (Ne.symm q)]
section MR
variable {S : St} {A : List Int} {K : Int → St → Prop} {e : Env} {κ : Int → Int}
theorem out_all {u : Upl} : u.reverse.flatMap (oU e (fun _ => false)) = pth e (pOf u) := by
  unfold pth pOf
  rw [← List.map_reverse, List.flatMap_map]
  rfl
theorem out_drop {sk : Int → Bool} : ∀ (u : Upl) (c : Nat), (∀ j (h : j < u.length), sk (u[j]).1 = decide (u.length - c ≤ j)) → u.reverse.flatMap (oU e sk) = pth e ((pOf u).drop c)
  | [], c, _ => by
    unfold pOf pth
    simp
  | q :: u, c, h => by
    have h0 := h 0 (by simp)
    have ih := out_drop (sk := sk) u c
    have hrev : (q :: u).reverse = u.reverse ++ [q] := by simp
    have hp : pOf (q :: u) = pOf u ++ [q.2] := by
      unfold pOf
      simp
    rw [hrev, List.flatMap_append, hp]
    by_cases hc : u.length + 1 ≤ c
    · have a1 : ∀ j (hj : j < (q :: u).length), sk ((q :: u)[j]).1 = true := fun j hj => by
        rw [h j hj]
        exact decide_eq_true (by simp; omega)
      have a2 : ∀ x ∈ u.reverse ++ [q], oU e sk x = [] := fun x hx => by
        have hx2 : x ∈ q :: u := by
          rw [← hrev] at hx
          exact List.mem_reverse.mp hx
        obtain ⟨j, hj, rfl⟩ := List.getElem_of_mem hx2
        unfold oU
        rw [a1 j hj, if_pos rfl]
      rw [← List.flatMap_append, List.drop_eq_nil_of_le (by rw [List.length_append, pOf_len]; simp; omega)]
      have : (u.reverse ++ [q]).flatMap (oU e sk) = [] := List.flatMap_eq_nil_iff.mpr a2
      rw [this]
      rfl
    · rw [ih (fun j hj => by
        have := h (j + 1) (by simp; omega)
        simp only [List.getElem_cons_succ, List.length_cons] at this
        rw [this]
        exact decide_eq_decide.mpr ⟨fun r => by omega, fun r => by omega⟩)]
      rw [List.drop_append_of_le_length (by rw [pOf_len]; omega)]
      have h1 : sk q.1 = false := by
        have h2 : sk q.1 = decide ((q :: u).length - c ≤ 0) := h0
        rw [h2]
        exact decide_eq_false (by simp; omega)
      unfold pth
      rw [List.flatMap_append]
      congr 1
      simp [oU, h1]
theorem m_way {x y : Int} {u w : Upl} {t : Pth} (hE : mE S e) (hV : EV e) (hO : oM S A) (hn : S.1 54 25 ≤ 900) (hx : iv 0 899 x) (hy : iv 0 899 y) (hu : UpR S κ x u) (hw : UpR S κ y w) (hκ : ∀ a ∈ u, ∀ b ∈ w, a.2.1 = b.2.1 → a.1 = b.1) (hκ2 : ¬ x ∈ w.map (fun q => q.1)) (hT : ∀ x, 0 ≤ x → x < S.1 54 25 → okN e (S.2 73 x)) (ht : t = pOf u) (hK : ∀ S', Om S S' → oM S' (A ++ way e t (pOf w)) → K 0 S') : wX11_putWay x y 0 S K := by
  subst ht
  have hs := shr_le (pOf u) (pOf w)
  rw [pOf_len, pOf_len] at hs
  have hul := hu.len
  obtain ⟨q0, u0, hu0, hq0, -⟩ := hu.pos hx.1
  have hlt : 1 ≤ u.length - shr (pOf u) (pOf w) := by
    by_cases r : u.length - shr (pOf u) (pOf w) ≤ 0
    · have hj : 0 < u.length := by rw [hu0]; simp
      have := (mem_up hu hw hκ hj).mpr r
      have h1 : (u[0]).1 = x := by
        simp only [hu0, List.getElem_cons_zero]
        exact hq0
      rw [h1] at this
      exact absurd this hκ2
    · omega
  unfold wX11_putWay
  intro _ _ _
  refine ⟨fun _ => ?_, fun h => absurd (show ¬ (0 : Int) = 1 by decide) h⟩
  unfold wX11_putWay_20
  refine ⟨fun l1 l2 l4 l5 T => l1 = x ∧ l2 = y ∧ -2 ≤ l5 ∧ l5 < 900 ∧ Om S T ∧ ∃ j : Nat, j ≤ u.length ∧ UpR S κ l5 (u.drop j) ∧ l4 = (if j = 0 then 0 else 1) ∧ oM T (A ++ dot (min j (u.length - shr (pOf u) (pOf w)))), fun l1 l2 l4 l5 T => (l5 + 3).toNat, ⟨rfl, rfl, by omega, by omega, Om.rf, 0, Nat.zero_le _, by simpa using hu, rfl, by rw [Nat.zero_min, show dot 0 = [] from rfl, List.append_nil]; exact hO⟩, fun l1 l2 l4 l5 T hI => ?_⟩
  obtain ⟨rfl, rfl, i1, i2, fT, j, j1, hd, rfl, oT⟩ := hI
  have hET := hE.om fT
  have e25 : T.1 54 25 = S.1 54 25 := fT.1 54 25 (by decide)
  unfold wX11_putWay_20'
  refine ⟨⟨by omega, by omega⟩, fun h => ?_, fun h => ?_⟩
  · have hl := congrArg List.length (hd.neg h).1
    rw [List.length_drop] at hl
    simp at hl
    have hj : j = u.length := by omega
    have hj0 : ¬ j = 0 := by omega
    rw [if_neg hj0]
    rw [Nat.min_eq_right (by omega)] at oT
    refine ⟨⟨by omega, by omega⟩, ⟨by omega, by omega⟩, ⟨by decide, by decide⟩, ?_⟩
    refine m_steps (sk := fun z => decide (z ∈ u.map (fun q => q.1))) hET hV oT (by omega) hy (hw.om fT) (fun z z1 z2 => by rw [fT.2 73 (by decide)]; exact hT z z1 (by omega)) (Or.inr ⟨hx, u, hu.om fT, rfl⟩) (fun S' f' o' => hK S' (fT.tr f') ?_)
    unfold way
    rw [pOf_len, ← List.append_assoc]
    rw [out_drop w (shr (pOf u) (pOf w)) (fun i hi => ?_)] at o'
    · exact o'
    · have := mem_up (j := i) hw hu (fun a ha b hb r => (hκ b hb a ha r.symm).symm) hi
      rw [shr_sym] at this
      exact decide_eq_decide.mpr this
  · obtain ⟨q, m, g1, g2, g3, g4, g5, g6⟩ := hd.pos (by omega)
    have hj : j < u.length := by
      by_cases r : j < u.length
      · exact r
      · rw [List.drop_eq_nil_of_le (by omega)] at g1
        cases g1
    rw [List.drop_eq_getElem_cons hj] at g1
    obtain ⟨g7, g8⟩ := List.cons.inj g1
    have hm := mem_up hu hw hκ hj
    rw [g7, g2] at hm
    have nxt : ∀ (V : St), Om T V → oM V (A ++ dot (min (j + 1) (u.length - shr (pOf u) (pOf w)))) → ∀ l4 : Int, l4 = 1 → wX11_putWay_61 l1 l2 l4 l5 V K (fun ml1 ml2 ml4 ml5 T_1 => (ml1 = l1 ∧ ml2 = l2 ∧ -2 ≤ ml5 ∧ ml5 < 900 ∧ Om S T_1 ∧ ∃ j : Nat, j ≤ u.length ∧ UpR S κ ml5 (u.drop j) ∧ ml4 = (if j = 0 then 0 else 1) ∧ oM T_1 (A ++ dot (min j (u.length - shr (pOf u) (pOf w))))) ∧ (ml5 + 3).toNat < (l5 + 3).toNat) := fun V fV oV l4 hl4 => by
      subst hl4
      unfold wX11_putWay_61
      have e72 : V.2 72 = S.2 72 := (fT.tr fV).2 72 (by decide)
      rw [e72]
      refine ⟨by omega, by omega, fun g z hz => ?_⟩
      subst hz
      rw [← g8] at g6
      exact ⟨⟨rfl, rfl, by omega, by omega, fT.tr fV, j + 1, by omega, g6, by rw [if_neg (by omega)], oV⟩, by omega⟩
    refine ⟨⟨by omega, by omega⟩, n_around (by omega) (by omega) (by omega) (hw.om fT) ?_⟩
    by_cases hr : l5 ∈ w.map (fun q => q.1)
    · rw [if_pos hr]
      have hle := hm.mp hr
      refine ⟨⟨by decide, by decide⟩, fun _ => nxt T Om.rf ?_ _ (by rw [if_neg (by omega)]), fun r => absurd (show ¬ (1 : Int) = 0 by decide) r⟩
      rw [Nat.min_eq_right (by omega)] at oT ⊢
      exact oT
    · rw [if_neg hr]
      have hgt : ¬ u.length - shr (pOf u) (pOf w) ≤ j := fun r => hr (hm.mpr r)
      rw [Nat.min_eq_left (by omega)] at oT
      rw [Nat.min_eq_left (by omega), dot_s] at nxt
      refine ⟨⟨by decide, by decide⟩, fun r => absurd rfl r, fun _ => ⟨by split <;> exact ⟨by decide, by decide⟩, fun h4 => ?_, fun h4 => ?_⟩⟩
      · have hj0 : j = 0 := by
          by_cases r : j = 0
          · exact r
          · rw [if_neg r] at h4
            exact absurd h4 (by decide)
        rw [if_pos hj0] at nxt
        unfold wX11_putWay_46
        refine m_put oT (fun r V1 f1 o1 => m_put o1 (fun r V2 f2 o2 => nxt V2 (f1.tr f2) ?_ 1 rfl))
        rw [List.append_assoc, List.append_assoc] at o2
        exact o2
      · have hj0 : ¬ j = 0 := fun r => h4 (by rw [if_pos r])
        rw [if_neg hj0] at nxt
        unfold wX11_putWay_46
        refine m_put oT (fun r V0 f0 o0 => m_put o0 (fun r V1 f1 o1 => m_put o1 (fun r V2 f2 o2 => nxt V2 ((f0.tr f1).tr f2) ?_ 1 rfl)))
        rw [List.append_assoc, List.append_assoc, List.append_assoc] at o2
        exact o2
theorem m_path {x y : Int} {w : Upl} (hE : mE S e) (hV : EV e) (hO : oM S A) (hn : S.1 54 25 ≤ 900) (hy : iv 0 899 y) (hw : UpR S κ y w) (hT : ∀ x, 0 ≤ x → x < S.1 54 25 → okN e (S.2 73 x)) (hK : ∀ S', Om S S' → oM S' (A ++ pth e (pOf w)) → K 0 S') : wX11_putWay x y 1 S K := by
  unfold wX11_putWay
  intro _ _ _
  refine ⟨fun h => absurd rfl h, fun _ => m_steps (sk := fun _ => false) hE hV hO hn hy hw hT (Or.inl ⟨rfl, rfl⟩) (fun S' f' o' => hK S' f' ?_)⟩
  rw [out_all] at o'
  exact o'
end MR

