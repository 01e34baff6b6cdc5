/-! SAME: the pairs have different first objects, so there are no more than objects -/
theorem pig : ∀ (m n : Nat) (f : Int → Int), (∀ x : Int, 0 ≤ x → x < n → 0 ≤ f x ∧ f x < m) → (∀ x y : Int, 0 ≤ x → x < y → y < n → f x ≠ f y) → n ≤ m
  | 0, n, f, h, _ => by
    rcases Nat.eq_zero_or_pos n with q | q
    · omega
    · have := h 0 (by omega) (by omega)
      omega
  | m + 1, 0, f, h, hd => by omega
  | m + 1, n + 1, f, h, hd => by
    by_cases hx : ∃ x : Int, 0 ≤ x ∧ x < (n + 1 : Nat) ∧ f x = m
    · obtain ⟨x, x0, x1, x2⟩ := hx
      have := pig m n (fun k => if k = x then f n else f k) (fun k k0 k1 => by
        by_cases e : k = x
        · subst e
          rw [if_pos rfl]
          have a := h n (by omega) (by omega)
          have b := hd k n k0 (by omega) (by omega)
          omega
        · rw [if_neg e]
          have a := h k k0 (by omega)
          rcases Int.lt_trichotomy k x with c | c | c
          · have b := hd k x k0 c x1
            omega
          · exact absurd c e
          · have b := hd x k x0 c (by omega)
            omega) (fun a b a0 ab bn => by
        by_cases e1 : a = x
        · rw [if_pos e1, if_neg (by omega)]
          exact fun q => hd b n (by omega) (by omega) (by omega) q.symm
        · rw [if_neg e1]
          by_cases e2 : b = x
          · rw [if_pos e2]
            exact hd a n a0 (by omega) (by omega)
          · rw [if_neg e2]
            exact hd a b a0 ab (by omega))
      omega
    · have := pig m (n + 1) f (fun k k0 k1 => by
        have a := h k k0 k1
        have b : f k ≠ m := fun q => hx ⟨k, k0, k1, q⟩
        omega) hd
      omega
def PI0 (S : St) : Prop := ∀ x : Int, x < 0 ∨ S.1 54 71 ≤ x ∨ (0 ≤ S.2 105 x ∧ S.2 105 x < S.2 67 0 ∧ 0 ≤ S.2 106 x ∧ S.2 106 x < S.2 67 1)
def PD0 (S : St) : Prop := ∀ x y : Int, x < 0 ∨ y ≤ x ∨ S.1 54 71 ≤ y ∨ ¬ S.2 105 x = S.2 105 y
theorem pig30 {S : St} {a : Int} (h : PI0 S) (hd : PD0 S) (hc : S.2 67 0 ≤ 30) (h0 : 0 ≤ S.1 54 71) (ha : 0 ≤ a ∧ a < S.2 67 0) (hn : ∀ x : Int, x < 0 ∨ S.1 54 71 ≤ x ∨ ¬ S.2 105 x = a) : S.1 54 71 ≤ 29 := by
  have := pig 30 ((S.1 54 71).toNat + 1) (fun k => if k = S.1 54 71 then a else S.2 105 k) (fun k k0 k1 => by
    by_cases e : k = S.1 54 71
    · rw [if_pos e]; omega
    · rw [if_neg e]
      have := h k
      omega) (fun x y x0 xy yn => by
    rw [if_neg (by omega)]
    by_cases e : y = S.1 54 71
    · rw [if_pos e]
      have := hn x
      omega
    · rw [if_neg e]
      have := hd x y
      omega)
  omega
def OL1 (S : St) : Prop := ∀ x y z : Int, x < 0 ∨ S.2 67 1 ≤ x ∨ y < 0 ∨ 3 < y ∨ ¬ S.2 59 (4 * S.2 68 (30 + x) + y) = 3 ∨ z < 0 ∨ S.2 69 (4 * (30 + x) + y) ≤ z ∨ S.2 70 (20 * (4 * (30 + x) + y) + z) = -2 ∨ (0 ≤ S.2 70 (20 * (4 * (30 + x) + y) + z) ∧ S.2 70 (20 * (4 * (30 + x) + y) + z) < S.2 67 1)
theorem OK1.mv {S S' : St} (h : OK1 S) (e1 : S'.2 59 = S.2 59) (e2 : S'.2 67 = S.2 67) (e3 : S'.2 68 = S.2 68) (e4 : S'.2 69 = S.2 69) : OK1 S' := by
  unfold OK1
  rw [e1, e2, e3, e4]
  exact h
theorem OL1.mv {S S' : St} (h : OL1 S) (e1 : S'.2 59 = S.2 59) (e2 : S'.2 67 = S.2 67) (e3 : S'.2 68 = S.2 68) (e4 : S'.2 69 = S.2 69) (e5 : S'.2 70 = S.2 70) : OL1 S' := by
  unfold OL1
  rw [e1, e2, e3, e4, e5]
  exact h

set_option maxRecDepth 100000 in
set_option maxHeartbeats 4000000 in
theorem tX11_pair {a1 a2 : Int} {S : St} {K : Int → St → Prop} (p1 : a1 = -2 ∨ (0 ≤ a1 ∧ a1 < (S.2 67) 0)) (p2 : a2 = -2 ∨ (0 ≤ a2 ∧ a2 < (S.2 67) 1)) (p3 : (S.2 67) 0 ≤ 30) (p4 : (S.2 67) 1 ≤ 30) (p5 : PI0 S) (p6 : PD0 S) (p7 : (S.1 54 71) ≤ 30) (hK : ∀ (r : Int) (S' : St), Ch [71] [105, 106] S S' → (iv 0 1 r) → (PI0 S') → (PD0 S') → ((S.1 54 71) ≤ (S'.1 54 71)) → ((S'.1 54 71) ≤ 30) → K r S') : wX11_pair a1 a2 S K := by
  unfold wX11_pair
  intro g1 g2
  refine ⟨fun h3 => ?_, fun h3 => ?_⟩
  · unfold wX11_pair_12
    refine ⟨by omega, ?_⟩
    refine ⟨by omega, ?_⟩
    refine ⟨fun h14 => ?_, fun h14 => ?_⟩
    · exact hK (0) S (Ch.wk Ch.rf (by decide) (by decide)) (by omega) (p5) (p6) (by omega) (by omega)
    · exact hK (1) S (Ch.wk Ch.rf (by decide) (by decide)) (by omega) (p5) (p6) (by omega) (by omega)
  · refine ⟨fun h9 => ?_, fun h9 => ?_⟩
    · unfold wX11_pair_25
      refine ⟨fun u1 u2 u3 Sx => S = Sx ∧ a1 = u1 ∧ a2 = u2 ∧ (iv 0 30 u3) ∧ (∀ x, x < 0 ∨ u3 ≤ x ∨ ¬ (Sx.2 105) x = a1), fun u1 u2 u3 Sx => (31 - u3).toNat, ?_, fun v25_1 v25_2 v25_3 S25h hI => ?_⟩
      · exact ⟨rfl, rfl, rfl, by omega, (by
            intro x
            omega)⟩
      obtain ⟨rfl, rfl, rfl, i25_0, i25_1⟩ := hI
      unfold wX11_pair_25'
      intro q1
      refine ⟨by omega, ?_⟩
      refine ⟨fun h30 => ?_, fun h30 => ?_⟩
      · have hpg := pig30 (a := a1) p5 p6 p3 (by omega) (by omega) (fun x => by have := i25_1 x; omega)
        refine ⟨by omega, by omega, ?_⟩
        refine ⟨by omega, ?_⟩
        intro S94 hS94e
        have hS94 : Ch [] [105] S S94 := Ch_A hS94e
        have hS94v : ∀ x, (x = S.1 54 71 ∧ S94.2 105 x = a1) ∨ (¬ x = S.1 54 71 ∧ S94.2 105 x = S.2 105 x) := pA_at hS94e
        intro q2
        have e3 : S94.1 54 71 = S.1 54 71 := hS94.1 71 (by decide)
        refine ⟨by omega, by omega, ?_⟩
        refine ⟨by omega, ?_⟩
        intro S104 hS104e
        have hS104 : Ch [] [106] S94 S104 := Ch_A hS104e
        have hS104v : ∀ x, (x = S94.1 54 71 ∧ S104.2 106 x = a2) ∨ (¬ x = S94.1 54 71 ∧ S104.2 106 x = S94.2 106 x) := pA_at hS104e
        intro q4
        have e5 : S104.1 54 71 = S94.1 54 71 := hS104.1 71 (by decide)
        have e6 : S94.1 54 71 = S.1 54 71 := hS94.1 71 (by decide)
        refine ⟨by omega, ?_⟩
        intro S112 hS112e
        have hS112 : Ch [71] [] S104 S112 := Ch_I hS112e
        have hS112v : S112.1 54 71 = (S104.1 54 71 + 1) := pI_at hS112e
        exact hK (1) S112 (Ch.wk (Ch.tr (Ch.tr hS94 hS104) hS112) (by decide) (by decide)) (by omega) (by
              unfold PI0
              intro x
              rw [show S112.2 67 = S.2 67 from ((Ch.tr (Ch.tr hS94 hS104) hS112)).2 67 (by decide)]
              have e7 : S112.2 105 x = S104.2 105 x := congrFun (hS112.2 105 (by decide)) _
              have e8 : S104.2 105 x = S94.2 105 x := congrFun (hS104.2 105 (by decide)) _
              have e9 := hS94v x
              have e10 : S112.2 106 x = S104.2 106 x := congrFun (hS112.2 106 (by decide)) _
              have e11 := hS104v x
              have e12 : S94.2 106 x = S.2 106 x := congrFun (hS94.2 106 (by decide)) _
              have e13 := p5 x
              omega) (by
              unfold PD0
              intro x y
              have e14 : S112.2 105 x = S104.2 105 x := congrFun (hS112.2 105 (by decide)) _
              have e15 : S104.2 105 x = S94.2 105 x := congrFun (hS104.2 105 (by decide)) _
              have e16 := hS94v x
              have e17 : S112.2 105 y = S104.2 105 y := congrFun (hS112.2 105 (by decide)) _
              have e18 : S104.2 105 y = S94.2 105 y := congrFun (hS104.2 105 (by decide)) _
              have e19 := hS94v y
              have e20 := p6 x y
              have e21 := i25_1 x
              have e22 := i25_1 y
              omega) (by omega) (by omega)
      · refine ⟨by omega, by omega, ?_⟩
        intro q23
        refine ⟨by omega, ?_⟩
        refine ⟨fun h40 => ?_, fun h40 => ?_⟩
        · unfold wX11_pair_53
          refine ⟨by omega, by omega, ?_⟩
          intro q24
          refine ⟨by omega, ?_⟩
          refine ⟨fun h60 => ?_, fun h60 => ?_⟩
          · exact hK (0) S (Ch.wk Ch.rf (by decide) (by decide)) (by omega) (p5) (p6) (by omega) (by omega)
          · refine ⟨by omega, by omega, ?_⟩
            intro q25
            refine ⟨by omega, ?_⟩
            refine ⟨fun h70 => ?_, fun h70 => ?_⟩
            · exact hK (0) S (Ch.wk Ch.rf (by decide) (by decide)) (by omega) (p5) (p6) (by omega) (by omega)
            · exact hK (1) S (Ch.wk Ch.rf (by decide) (by decide)) (by omega) (p5) (p6) (by omega) (by omega)
        · refine ⟨by omega, by omega, ?_⟩
          intro q26
          refine ⟨by omega, ?_⟩
          refine ⟨fun h50 => ?_, fun h50 => ?_⟩
          · exact ⟨⟨rfl, rfl, rfl, by omega, (by
                  intro x
                  have e27 := i25_1 x
                  by_cases hx : x = v25_3
                  · subst hx
                    omega
                  · omega)⟩, show (31 - ((v25_3 + 1))).toNat < (31 - v25_3).toNat by omega⟩
          · unfold wX11_pair_53
            refine ⟨by omega, by omega, ?_⟩
            intro q28
            refine ⟨by omega, ?_⟩
            refine ⟨fun h60 => ?_, fun h60 => ?_⟩
            · exact hK (0) S (Ch.wk Ch.rf (by decide) (by decide)) (by omega) (p5) (p6) (by omega) (by omega)
            · refine ⟨by omega, by omega, ?_⟩
              intro q29
              refine ⟨by omega, ?_⟩
              refine ⟨fun h70 => ?_, fun h70 => ?_⟩
              · exact hK (0) S (Ch.wk Ch.rf (by decide) (by decide)) (by omega) (p5) (p6) (by omega) (by omega)
              · exact hK (1) S (Ch.wk Ch.rf (by decide) (by decide)) (by omega) (p5) (p6) (by omega) (by omega)
    · unfold wX11_pair_12
      refine ⟨by omega, ?_⟩
      refine ⟨by omega, ?_⟩
      refine ⟨fun h14 => ?_, fun h14 => ?_⟩
      · exact hK (0) S (Ch.wk Ch.rf (by decide) (by decide)) (by omega) (p5) (p6) (by omega) (by omega)
      · exact hK (1) S (Ch.wk Ch.rf (by decide) (by decide)) (by omega) (p5) (p6) (by omega) (by omega)

