/-! READING: the parse. PR: elements; PA: attributes; PO: who has children has one right behind it; PE: the element that is open -/
def NB (v : Int) : Prop := ((97 ≤ v ∧ v ≤ 122) ∨ (65 ≤ v ∧ v ≤ 90)) ∨ v = 95
def p16 (n : Int) : Int := 16 ^ n.toNat
theorem p16_s {n : Int} (h : 0 ≤ n) : p16 (n + 1) = 16 * p16 n := by
  unfold p16
  rw [show (n + 1).toNat = n.toNat + 1 by omega, Int.pow_succ, Int.mul_comm]
theorem p16_1 {n : Int} : 1 ≤ p16 n := by
  unfold p16
  have : (0 : Int) < 16 ^ n.toNat := Int.pow_pos (by decide)
  omega
theorem p16_6 {n : Int} (h : 0 ≤ n ∧ n ≤ 6) : p16 n ≤ 16777216 := by
  have : n = 0 ∨ n = 1 ∨ n = 2 ∨ n = 3 ∨ n = 4 ∨ n = 5 ∨ n = 6 := by omega
  rcases this with rfl | rfl | rfl | rfl | rfl | rfl | rfl <;> decide
def PR (S : St) : Prop := ∀ x : Int, x < 0 ∨ S.1 54 43 ≤ x ∨ ((S.2 88 x = -2 ∨ 0 ≤ S.2 88 x) ∧ S.2 88 x < x ∧ S.2 86 x + S.2 87 x ≤ 3000 ∧ S.2 90 x + S.2 91 x ≤ S.1 54 51)
def PA (S : St) : Prop := ∀ x : Int, x < 0 ∨ S.1 54 51 ≤ x ∨ (S.2 92 x + S.2 93 x ≤ 3000 ∧ S.2 94 x + S.2 95 x ≤ S.1 54 56)
def PO (S : St) : Prop := ∀ x : Int, x < 0 ∨ S.1 54 43 ≤ x ∨ S.2 88 x = -2 ∨ S.2 88 (S.2 88 x + 1) = S.2 88 x
def PE (S : St) (e : Int) : Prop := e < S.1 54 43 ∧ (e = -2 ∨ (0 ≤ e ∧ (e + 1 = S.1 54 43 ∨ S.2 88 (e + 1) = e)))
theorem PR.mv {S S' : St} (h : PR S) (e1 : S'.1 54 43 = S.1 54 43) (e2 : S'.1 54 51 = S.1 54 51) (e3 : S'.2 86 = S.2 86) (e4 : S'.2 87 = S.2 87) (e5 : S'.2 88 = S.2 88) (e6 : S'.2 90 = S.2 90) (e7 : S'.2 91 = S.2 91) : PR S' := by
  unfold PR
  rw [e1, e2, e3, e4, e5, e6, e7]
  exact h
theorem PA.mv {S S' : St} (h : PA S) (e1 : S'.1 54 51 = S.1 54 51) (e2 : S.1 54 56 ≤ S'.1 54 56) (e3 : S'.2 92 = S.2 92) (e4 : S'.2 93 = S.2 93) (e5 : S'.2 94 = S.2 94) (e6 : S'.2 95 = S.2 95) : PA S' := by
  unfold PA
  rw [e1, e3, e4, e5, e6]
  intro x
  rcases h x with h | h | h
  · exact Or.inl h
  · exact Or.inr (Or.inl h)
  · exact Or.inr (Or.inr ⟨h.1, by omega⟩)
theorem PO.mv {S S' : St} (h : PO S) (e1 : S'.1 54 43 = S.1 54 43) (e5 : S'.2 88 = S.2 88) : PO S' := by
  unfold PO
  rw [e1, e5]
  exact h
theorem PE.mv {S S' : St} {e : Int} (h : PE S e) (e1 : S'.1 54 43 = S.1 54 43) (e5 : S'.2 88 = S.2 88) : PE S' e := by
  unfold PE
  rw [e1, e5]
  exact h
theorem PR.at {S : St} (h : PR S) {x : Int} (h0 : 0 ≤ x) (h1 : x < S.1 54 43) : (S.2 88 x = -2 ∨ 0 ≤ S.2 88 x) ∧ S.2 88 x < x ∧ S.2 86 x + S.2 87 x ≤ 3000 ∧ S.2 90 x + S.2 91 x ≤ S.1 54 51 := by
  rcases h x with h | h | h
  · omega
  · omega
  · exact h
theorem PA.at {S : St} (h : PA S) {x : Int} (h0 : 0 ≤ x) (h1 : x < S.1 54 51) : S.2 92 x + S.2 93 x ≤ 3000 ∧ S.2 94 x + S.2 95 x ≤ S.1 54 56 := by
  rcases h x with h | h | h
  · omega
  · omega
  · exact h
/-- the element around becomes the open one -/
theorem PE_up {S : St} {e : Int} (h : PR S) (ho : PO S) (h0 : 0 ≤ e) (h1 : e < S.1 54 43) : PE S (S.2 88 e) := by
  have k := h.at h0 h1
  refine ⟨by omega, ?_⟩
  rcases k.1 with q | q
  · exact Or.inl q
  · refine Or.inr ⟨q, Or.inr ?_⟩
    rcases ho e with r | r | r | r
    · omega
    · omega
    · omega
    · exact r
theorem PE_new {S S' : St} {e : Int} (h : PE S e) (hr : S'.1 54 43 = S.1 54 43 + 1 ∧ S'.2 88 (S.1 54 43) = e ∨ S'.1 54 43 = S.1 54 43) (hf : ∀ x : Int, x = S.1 54 43 ∨ S'.2 88 x = S.2 88 x) : PE S' e := by
  obtain ⟨h1, h2⟩ := h
  refine ⟨by omega, ?_⟩
  rcases h2 with h2 | ⟨h2, h3⟩
  · exact Or.inl h2
  · refine Or.inr ⟨h2, ?_⟩
    rcases hr with ⟨q1, q2⟩ | q1
    · refine Or.inr ?_
      by_cases k : e + 1 = S.1 54 43
      · rw [k]; exact q2
      · have := (hf (e + 1)).resolve_left k
        omega
    · by_cases k : e + 1 = S.1 54 43
      · exact Or.inl (by omega)
      · have := (hf (e + 1)).resolve_left k
        exact Or.inr (by omega)
theorem PE_last {S : St} (h : 1 ≤ S.1 54 43) : PE S (S.1 54 43 - 1) := ⟨by omega, Or.inr ⟨by omega, Or.inl (by omega)⟩⟩
theorem PO_new {S S' : St} {e : Int} (hR : PR S) (h : PO S) (hE : PE S e) (hr : S'.1 54 43 = S.1 54 43 + 1) (h88 : S'.2 88 (S.1 54 43) = e) (hf : ∀ x : Int, x = S.1 54 43 ∨ S'.2 88 x = S.2 88 x) : PO S' := by
  have hE' := PE_new hE (Or.inl ⟨hr, h88⟩) hf
  intro x
  by_cases x0 : x < 0
  · exact Or.inl x0
  by_cases x1 : S'.1 54 43 ≤ x
  · exact Or.inr (Or.inl x1)
  by_cases x2 : x = S.1 54 43
  · subst x2
    rw [h88]
    obtain ⟨a, b⟩ := hE'
    rcases b with b | ⟨b, c⟩
    · exact Or.inr (Or.inr (Or.inl b))
    · refine Or.inr (Or.inr (Or.inr ?_))
      rcases c with c | c
      · obtain ⟨a', b'⟩ := hE
        omega
      · exact c
  · have k := hR.at (x := x) (by omega) (by omega)
    have f1 := (hf x).resolve_left x2
    rw [f1]
    rcases k.1 with q | q
    · exact Or.inr (Or.inr (Or.inl q))
    · refine Or.inr (Or.inr (Or.inr ?_))
      have f2 := (hf (S.2 88 x + 1)).resolve_left (by omega)
      rw [f2]
      rcases h x with r | r | r | r
      · omega
      · omega
      · omega
      · exact r
theorem PR_new {S S' : St} {e : Int} (hR : PR S) (hE : PE S e) (hr : S'.1 54 43 = S.1 54 43 + 1) (ha : S.1 54 51 ≤ S'.1 54 51) (h88 : S'.2 88 (S.1 54 43) = e) (hn : S'.2 86 (S.1 54 43) + S'.2 87 (S.1 54 43) ≤ 3000) (hat : S'.2 90 (S.1 54 43) + S'.2 91 (S.1 54 43) ≤ S'.1 54 51) (f1 : ∀ x : Int, x = S.1 54 43 ∨ S'.2 88 x = S.2 88 x) (f2 : ∀ x : Int, x = S.1 54 43 ∨ S'.2 86 x = S.2 86 x) (f3 : ∀ x : Int, x = S.1 54 43 ∨ S'.2 87 x = S.2 87 x) (f4 : ∀ x : Int, x = S.1 54 43 ∨ S'.2 90 x = S.2 90 x) (f5 : ∀ x : Int, x = S.1 54 43 ∨ S'.2 91 x = S.2 91 x) : PR S' := by
  intro x
  by_cases x0 : x < 0
  · exact Or.inl x0
  by_cases x1 : S'.1 54 43 ≤ x
  · exact Or.inr (Or.inl x1)
  refine Or.inr (Or.inr ?_)
  by_cases x2 : x = S.1 54 43
  · subst x2
    obtain ⟨a, b⟩ := hE
    rw [h88]
    refine ⟨?_, a, hn, hat⟩
    rcases b with b | b
    · exact Or.inl b
    · exact Or.inr b.1
  · have k := hR.at (x := x) (by omega) (by omega)
    rw [(f1 x).resolve_left x2, (f2 x).resolve_left x2, (f3 x).resolve_left x2, (f4 x).resolve_left x2, (f5 x).resolve_left x2]
    exact ⟨k.1, k.2.1, k.2.2.1, by omega⟩
/-- where the parse stands, as long as nothing is wrong -/
def PB (S : St) (p : Int) : Prop := -1 ≤ S.1 54 59 ∨ (p ≤ S.1 54 41 ∧ S.1 54 56 ≤ p ∧ 5 * S.1 54 51 ≤ p)
/-- an element has begun, or the first sign is still to come -/
def P1 (S : St) (p e : Int) : Prop := 1 ≤ S.1 54 43 ∨ -1 ≤ S.1 54 59 ∨ (e = -2 ∧ p < S.1 54 41 ∧ S.2 84 p = 60)
theorem PA.mv2 {S S' : St} (h : PA S) (e1 : S'.1 54 51 = S.1 54 51) (e2 : S'.1 54 56 = S.1 54 56) (e3 : S'.2 92 = S.2 92) (e4 : S'.2 93 = S.2 93) (e5 : S'.2 94 = S.2 94) (e6 : S'.2 95 = S.2 95) : PA S' := h.mv e1 (Int.le_of_eq e2.symm) e3 e4 e5 e6

set_option maxRecDepth 100000 in
set_option maxHeartbeats 4000000 in
theorem tX11_docAt {a1 : Int} {S : St} {K : Int → St → Prop} (p1 : 0 ≤ a1) (hK : ∀ (r : Int), ((a1 < (S.1 54 41) ∧ r = (S.2 84) a1) ∨ ((S.1 54 41) ≤ a1 ∧ r = -1)) → (rng r) → (iv 0 3000 ((S.1 54 41))) → K r S) : wX11_docAt a1 S K := by
  unfold wX11_docAt
  intro g1
  intro q1
  refine ⟨fun h5 => ?_, fun h5 => ?_⟩
  · exact hK ((-1)) (by omega) (by omega) (by omega)
  · refine ⟨by omega, by omega, ?_⟩
    intro q2
    exact hK (S.2 84 (a1)) (by omega) (by omega) (by omega)

set_option maxRecDepth 100000 in
set_option maxHeartbeats 4000000 in
theorem tX11_fail {a1 : Int} {S : St} {K : Int → St → Prop} (p1 : iv 0 4000 a1) (hK : ∀ (r : Int) (S' : St), Ch [59] [] S S' → (-1 ≤ (S'.1 54 59)) → K r S') : wX11_fail a1 S K := by
  unfold wX11_fail
  intro g1
  intro q1
  refine ⟨fun h7 => ?_, fun h7 => ?_⟩
  · intro S18 hS18e
    have hS18 : Ch [59] [] S S18 := Ch_I hS18e
    have hS18v : S18.1 54 59 = S.1 54 59 := pI_at hS18e
    exact hK (0) S18 (Ch.wk hS18 (by decide) (by decide)) (by omega)
  · refine ⟨by omega, ?_⟩
    intro S18 hS18e
    have hS18 : Ch [59] [] S S18 := Ch_I hS18e
    have hS18v : S18.1 54 59 = a1 := pI_at hS18e
    exact hK (0) S18 (Ch.wk hS18 (by decide) (by decide)) (by omega)

set_option maxRecDepth 100000 in
set_option maxHeartbeats 4000000 in
theorem tX11_keep {a1 a2 : Int} {S : St} {K : Int → St → Prop} (p1 : iv (-2) 199 a2) (p2 : (S.1 54 56) ≤ 2999) (hK : ∀ (r : Int) (S' : St), Ch [56] [96, 97] S S' → ((S'.1 54 56) = (S.1 54 56) + 1) → K r S') : wX11_keep a1 a2 S K := by
  unfold wX11_keep
  intro g1 g2
  intro q1
  refine ⟨by omega, by omega, ?_⟩
  refine ⟨by omega, ?_⟩
  intro S9 hS9e
  have hS9 : Ch [] [96] S S9 := Ch_A hS9e
  have hS9v : ∀ x, (x = S.1 54 56 ∧ S9.2 96 x = a1) ∨ (¬ x = S.1 54 56 ∧ S9.2 96 x = S.2 96 x) := pA_at hS9e
  intro q2
  have e3 : S9.1 54 56 = S.1 54 56 := hS9.1 56 (by decide)
  refine ⟨by omega, by omega, ?_⟩
  refine ⟨by omega, ?_⟩
  intro S19 hS19e
  have hS19 : Ch [] [97] S9 S19 := Ch_A hS19e
  have hS19v : ∀ x, (x = S9.1 54 56 ∧ S19.2 97 x = a2) ∨ (¬ x = S9.1 54 56 ∧ S19.2 97 x = S9.2 97 x) := pA_at hS19e
  intro q4
  have e5 : S19.1 54 56 = S9.1 54 56 := hS19.1 56 (by decide)
  have e6 : S9.1 54 56 = S.1 54 56 := hS9.1 56 (by decide)
  refine ⟨by omega, ?_⟩
  intro S27 hS27e
  have hS27 : Ch [56] [] S19 S27 := Ch_I hS27e
  have hS27v : S27.1 54 56 = (S19.1 54 56 + 1) := pI_at hS27e
  exact hK (0) S27 (Ch.wk (Ch.tr (Ch.tr hS9 hS19) hS27) (by decide) (by decide)) (by omega)

set_option maxRecDepth 100000 in
set_option maxHeartbeats 4000000 in
theorem tX11_nameEnd {a1 : Int} {S : St} {K : Int → St → Prop} (p1 : 0 ≤ a1) (p2 : a1 ≤ (S.1 54 41)) (p3 : (S.1 54 41) ≤ 3000) (hK : ∀ (r : Int), (a1 ≤ r) → (r ≤ (S.1 54 41)) → (a1 < r ∨ ¬ (a1 < (S.1 54 41) ∧ NB ((S.2 84) a1))) → K r S) : wX11_nameEnd a1 S K := by
  unfold wX11_nameEnd
  intro g1
  unfold wX11_nameEnd_2
  refine ⟨fun u2 Sx => S = Sx ∧ (a1 ≤ u2) ∧ (u2 ≤ (S.1 54 41)), fun u2 Sx => ((S.1 54 41) + 1 - u2).toNat, ?_, fun v2_2 S2h hI => ?_⟩
  · exact ⟨rfl, by omega, by omega⟩
  obtain ⟨rfl, i2_0, i2_1⟩ := hI
  unfold wX11_nameEnd_2'
  refine ⟨by omega, ?_⟩
  refine tX11_docAt (by omega) (fun r4 n4_0 n4_1 n4_2 => ?_)
  refine ⟨by omega, ?_⟩
  refine tX11_inName  (fun r7 n7_0 => ?_)
  refine ⟨by omega, ?_⟩
  refine ⟨fun h10 => ?_, fun h10 => ?_⟩
  · exact hK (v2_2) (by omega) (by omega) (by
          by_cases hx : a1 < v2_2
          · exact Or.inl hx
          · obtain rfl : v2_2 = a1 := by omega
            refine Or.inr (fun hh => ?_)
            obtain ⟨hh1, hh2⟩ := hh
            unfold NB at hh2
            omega)
  · exact ⟨⟨rfl, by omega, by omega⟩, show ((S.1 54 41) + 1 - ((v2_2 + 1))).toNat < ((S.1 54 41) + 1 - v2_2).toNat by omega⟩

set_option maxRecDepth 100000 in
set_option maxHeartbeats 4000000 in
theorem tX11_figureB {a1 a2 : Int} {S : St} {K : Int → St → Prop}  (hK : ∀ (r : Int), ((48 ≤ a1 ∧ a1 ≤ 57 ∧ r = a1 - 48) ∨ (¬ a2 = 0 ∧ 97 ≤ a1 ∧ a1 ≤ 102 ∧ r = a1 - 87) ∨ (¬ a2 = 0 ∧ 65 ≤ a1 ∧ a1 ≤ 70 ∧ r = a1 - 55) ∨ (r = -2 ∧ ¬ (48 ≤ a1 ∧ a1 ≤ 57) ∧ (a2 = 0 ∨ ¬ (97 ≤ a1 ∧ a1 ≤ 102)) ∧ (a2 = 0 ∨ ¬ (65 ≤ a1 ∧ a1 ≤ 70)))) → K r S) : wX11_figure a1 a2 S K := by
  unfold wX11_figure
  intro g1 g2
  refine tX11_isDigit  (fun r1 n1_0 => ?_)
  refine ⟨by omega, ?_⟩
  refine ⟨fun h4 => ?_, fun h4 => ?_⟩
  · refine ⟨fun h15 => ?_, fun h15 => ?_⟩
    · unfold wX11_figure_40
      refine ⟨by omega, ?_⟩
      refine ⟨fun h41 => ?_, fun h41 => ?_⟩
      · exact hK ((-2)) (by omega)
      · refine ⟨by omega, ?_⟩
        refine ⟨fun h47 => ?_, fun h47 => ?_⟩
        · exact hK ((-2)) (by omega)
        · refine ⟨fun h53 => ?_, fun h53 => ?_⟩
          · exact hK ((-2)) (by omega)
          · exact hK (((a1 - 65) + 10)) (by omega)
    · refine ⟨fun h21 => ?_, fun h21 => ?_⟩
      · unfold wX11_figure_40
        refine ⟨by omega, ?_⟩
        refine ⟨fun h41 => ?_, fun h41 => ?_⟩
        · exact hK ((-2)) (by omega)
        · refine ⟨by omega, ?_⟩
          refine ⟨fun h47 => ?_, fun h47 => ?_⟩
          · exact hK ((-2)) (by omega)
          · refine ⟨fun h53 => ?_, fun h53 => ?_⟩
            · exact hK ((-2)) (by omega)
            · exact hK (((a1 - 65) + 10)) (by omega)
      · refine ⟨fun h27 => ?_, fun h27 => ?_⟩
        · unfold wX11_figure_40
          refine ⟨by omega, ?_⟩
          refine ⟨fun h41 => ?_, fun h41 => ?_⟩
          · exact hK ((-2)) (by omega)
          · refine ⟨by omega, ?_⟩
            refine ⟨fun h47 => ?_, fun h47 => ?_⟩
            · exact hK ((-2)) (by omega)
            · refine ⟨fun h53 => ?_, fun h53 => ?_⟩
              · exact hK ((-2)) (by omega)
              · exact hK (((a1 - 65) + 10)) (by omega)
        · exact hK (((a1 - 97) + 10)) (by omega)
  · exact hK ((a1 - 48)) (by omega)

