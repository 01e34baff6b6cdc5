/-! WRITING: parents lie ahead, what is begun is an element, an element costs four signs, or three while it is open -/
def PW (S : St) : Prop := ∀ x : Int, x < 0 ∨ S.1 54 25 ≤ x ∨ S.2 72 x < x
def BW (S : St) : Prop := ∀ x : Int, x < 0 ∨ 29 < x ∨ S.2 75 x = -2 ∨ (0 ≤ S.2 75 x ∧ S.2 75 x < S.1 54 25)
theorem PW.mv {S S' : St} (h : PW S) (e1 : S'.1 54 25 = S.1 54 25) (e2 : S'.2 72 = S.2 72) : PW S' := by
  unfold PW
  rw [e1, e2]
  exact h
theorem BW.mv {S S' : St} (h : BW S) (e1 : S.1 54 25 ≤ S'.1 54 25) (e2 : S'.2 75 = S.2 75) : BW S' := by
  unfold BW
  rw [e2]
  intro x
  have := h x
  omega
theorem tdv {n b : Int} (hn : 0 ≤ n) (hb : 1 ≤ b) (h : 9 < Int.tdiv n b) : 10 * b ≤ n := by
  rw [Int.tdiv_eq_ediv_of_nonneg hn] at h
  have h1 : b * (n / b) ≤ n := Int.mul_ediv_self_le (by omega)
  have h2 : b * 10 ≤ b * (n / b) := Int.mul_le_mul_of_nonneg_left (by omega) (by omega)
  omega
theorem tdq {n b : Int} (hn : 0 ≤ n) (hb : 1 ≤ b) : 0 ≤ Int.tdiv n b ∧ Int.tdiv n b ≤ n := by
  rw [Int.tdiv_eq_ediv_of_nonneg hn]
  exact ⟨Int.ediv_nonneg hn (by omega), Int.ediv_le_self b hn⟩
theorem tdm {x : Int} (hx : 0 ≤ x) : 0 ≤ x - Int.tdiv x 10 * 10 ∧ x - Int.tdiv x 10 * 10 ≤ 9 := by
  rw [Int.tdiv_eq_ediv_of_nonneg hx]
  omega
theorem td10 {b : Int} (h : 0 < b) : 0 ≤ Int.tdiv b 10 ∧ Int.tdiv b 10 < b := by
  rw [Int.tdiv_eq_ediv_of_nonneg (by omega)]
  omega
/-- the k-th parent -/
def itp (S : St) (e : Int) : Nat → Int
  | 0 => e
  | k + 1 => S.2 72 (itp S e k)
theorem itp_succ {S : St} {e k : Int} (h : 0 ≤ k) : itp S e (k + 1).toNat = S.2 72 (itp S e k.toNat) := by
  rw [show (k + 1).toNat = k.toNat + 1 by omega]
  rfl
/-- the names of the living objects' kinds and fields are not empty -/
def NMS (S : St) : Prop := ∀ x y : Int, x < 0 ∨ S.2 67 0 ≤ x ∨ (1 ≤ S.2 57 (S.2 68 x) ∧ (y < 0 ∨ S.2 56 (S.2 68 x) ≤ y ∨ 1 ≤ S.2 57 (6 + (4 * S.2 68 x + y))))
/-- what is said of an open object -/
def owi (S : St) (E : Int) (x : Int) : Prop := S.2 78 x < E ∧ S.2 82 x < E ∧ S.2 77 x < S.2 67 0 ∧ S.2 80 x ≤ S.2 56 (S.2 68 (S.2 77 x)) ∧ 1 ≤ S.2 57 (S.2 79 x) ∧ (S.2 81 x = 0 ∨ (S.2 59 (4 * S.2 68 (S.2 77 x) + S.2 80 x) = 3 ∧ S.2 81 x ≤ S.2 69 (4 * S.2 77 x + S.2 80 x)))
def OWI (S : St) : Prop := ∀ x : Int, x < 0 ∨ S.1 54 32 ≤ x ∨ owi S (S.1 54 25) x
/-- whether an open object has a list that is open -/
def fl (S : St) (x : Int) : Int := if 0 < S.2 81 x ∧ S.2 60 (4 * S.2 68 (S.2 77 x) + S.2 80 x) = 0 then 1 else 0
def sfl (S : St) : Nat → Int
  | 0 => 0
  | n + 1 => sfl S n + fl S (n : Int)
def EWI (S : St) : Prop := S.1 54 39 = 3001 ∨ 4 * S.1 54 25 ≤ S.1 54 39 + S.1 54 32 + sfl S (S.1 54 32).toNat
theorem fl_01 {S : St} {x : Int} : 0 ≤ fl S x ∧ fl S x ≤ 1 := by
  unfold fl
  by_cases h : 0 < S.2 81 x ∧ S.2 60 (4 * S.2 68 (S.2 77 x) + S.2 80 x) = 0
  · rw [if_pos h]; omega
  · rw [if_neg h]; omega
theorem sfl_eq {S S' : St} : ∀ n : Nat, (∀ x : Int, 0 ≤ x → x < n → fl S' x = fl S x) → sfl S' n = sfl S n
  | 0, _ => rfl
  | n + 1, h => by
    unfold sfl
    rw [sfl_eq n (fun x h0 h1 => h x h0 (by omega)), h n (by omega) (by omega)]
theorem sfl_s {S : St} {o : Int} (h : 0 ≤ o) : sfl S (o + 1).toNat = sfl S o.toNat + fl S o := by
  rw [show (o + 1).toNat = o.toNat + 1 by omega]
  show sfl S o.toNat + fl S (o.toNat : Int) = _
  rw [Int.toNat_of_nonneg h]
theorem sfl_le {S : St} : ∀ n : Nat, 0 ≤ sfl S n ∧ sfl S n ≤ n
  | 0 => ⟨by decide, by decide⟩
  | n + 1 => by
    have h := sfl_le (S := S) n
    have k := fl_01 (S := S) (x := (n : Int))
    unfold sfl
    omega
abbrev wCh (S S' : St) : Prop := Ch [25, 30, 32, 39] [72, 73, 74, 75, 76, 77, 78, 79, 80, 81, 82, 83] S S'
theorem fl_eq {S S' : St} {x : Int} (h : wCh S S') (h1 : S'.2 77 x = S.2 77 x) (h2 : S'.2 80 x = S.2 80 x) (h3 : S'.2 81 x = S.2 81 x) : fl S' x = fl S x := by
  unfold fl
  rw [h1, h2, h3, h.2 60 (by decide), h.2 68 (by decide)]
theorem OWI_step {S S' : St} {o : Int} (hC : wCh S S') (ho : S.1 54 32 = o + 1) (hE : S.1 54 25 ≤ S'.1 54 25) (hO : S'.1 54 32 ≤ o + 2) (hW : OWI S) (f1 : ∀ x, o ≤ x ∨ S'.2 77 x = S.2 77 x) (f2 : ∀ x, o ≤ x ∨ S'.2 78 x = S.2 78 x) (f3 : ∀ x, o ≤ x ∨ S'.2 79 x = S.2 79 x) (f4 : ∀ x, o ≤ x ∨ S'.2 80 x = S.2 80 x) (f5 : ∀ x, o ≤ x ∨ S'.2 81 x = S.2 81 x) (f6 : ∀ x, o ≤ x ∨ S'.2 82 x = S.2 82 x) (hT : S'.1 54 32 ≤ o ∨ owi S' (S'.1 54 25) o) (hN : S'.1 54 32 ≤ o + 1 ∨ owi S' (S'.1 54 25) (o + 1)) : OWI S' := by
  intro x
  by_cases h0 : x < 0
  · exact Or.inl h0
  by_cases h1 : S'.1 54 32 ≤ x
  · exact Or.inr (Or.inl h1)
  refine Or.inr (Or.inr ?_)
  by_cases h2 : x < o
  · rcases hW x with h | h | h
    · exact absurd h h0
    · omega
    · unfold owi at h ⊢
      rw [(f1 x).resolve_left (by omega), (f2 x).resolve_left (by omega), (f3 x).resolve_left (by omega), (f4 x).resolve_left (by omega), (f5 x).resolve_left (by omega), (f6 x).resolve_left (by omega), hC.2 56 (by decide), hC.2 57 (by decide), hC.2 59 (by decide), hC.2 67 (by decide), hC.2 68 (by decide), hC.2 69 (by decide)]
      exact ⟨by omega, by omega, h.2.2⟩
  · by_cases h3 : x = o
    · subst h3
      exact hT.resolve_left h1
    · have h4 : x = o + 1 := by omega
      subst h4
      exact hN.resolve_left h1
theorem EWI_step {S S' : St} {o : Int} (h0 : 0 ≤ o) (hC : wCh S S') (ho : S.1 54 32 = o + 1) (hW : EWI S) (hd : S.1 54 39 ≤ 3000) (f1 : ∀ x, o ≤ x ∨ S'.2 77 x = S.2 77 x) (f4 : ∀ x, o ≤ x ∨ S'.2 80 x = S.2 80 x) (f5 : ∀ x, o ≤ x ∨ S'.2 81 x = S.2 81 x)
    (hk : S'.1 54 39 = 3001 ∨ (S'.1 54 32 = o ∧ 4 * S'.1 54 25 + 1 + fl S o ≤ 4 * S.1 54 25 + (S'.1 54 39 - S.1 54 39) + 0) ∨ (S'.1 54 32 = o + 1 ∧ 4 * S'.1 54 25 + fl S o ≤ 4 * S.1 54 25 + (S'.1 54 39 - S.1 54 39) + fl S' o) ∨ (S'.1 54 32 = o + 2 ∧ 4 * S'.1 54 25 + fl S o ≤ 4 * S.1 54 25 + (S'.1 54 39 - S.1 54 39) + 1 + fl S' o)) : EWI S' := by
  unfold EWI at hW ⊢
  have e1 := sfl_eq (S := S) (S' := S') o.toNat (fun x x0 x1 => fl_eq hC ((f1 x).resolve_left (by omega)) ((f4 x).resolve_left (by omega)) ((f5 x).resolve_left (by omega)))
  rw [ho, sfl_s h0] at hW
  rcases hk with h | ⟨h, k⟩ | ⟨h, k⟩ | ⟨h, k⟩
  · exact Or.inl h
  · rw [h, e1]; omega
  · rw [h, sfl_s h0, e1]; omega
  · have e2 := fl_01 (S := S') (x := o + 1)
    rw [h, show (o + 2).toNat = (o + 1 + 1).toNat by omega, sfl_s (by omega), sfl_s h0, e1]; omega
theorem EWI_lt {S : St} (h : EWI S) (hd : S.1 54 39 ≤ 3000) (h1 : 0 ≤ S.1 54 32) (h2 : S.1 54 32 ≤ 20) : S.1 54 25 ≤ 760 := by
  unfold EWI at h
  have := sfl_le (S := S) (S.1 54 32).toNat
  omega
theorem BW.mv2 {S S' : St} (h : BW S) (e1 : S'.1 54 25 = S.1 54 25) (e2 : S'.2 75 = S.2 75) : BW S' := h.mv (Int.le_of_eq e1.symm) e2
theorem OK0.mv {S S' : St} (h : OK0 S) (e1 : S'.2 59 = S.2 59) (e2 : S'.2 67 = S.2 67) (e3 : S'.2 68 = S.2 68) (e4 : S'.2 69 = S.2 69) : OK0 S' := by
  unfold OK0
  rw [e1, e2, e3, e4]
  exact h
theorem fl_is {S : St} {o k : Int} (hk : k = 4 * S.2 68 (S.2 77 o) + S.2 80 o) : fl S o = if 0 < S.2 81 o ∧ S.2 60 k = 0 then 1 else 0 := by
  subst hk
  rfl
theorem fl_it {S S' : St} {o k : Int} (hC : wCh S S') (e1 : S'.2 77 o = S.2 77 o) (e2 : S'.2 80 o = S.2 80 o) (hk : k = 4 * S.2 68 (S.2 77 o) + S.2 80 o) : fl S' o = if 0 < S'.2 81 o ∧ S.2 60 k = 0 then 1 else 0 := by
  subst hk
  unfold fl
  rw [hC.2 60 (by decide), hC.2 68 (by decide), e1, e2]
theorem fl_z {S : St} {o : Int} (h : S.2 81 o = 0) : fl S o = 0 := by
  unfold fl
  rw [if_neg (fun q => by omega)]
theorem owi_top {S S' : St} {o E E' : Int} (hC : wCh S S') (h : owi S E o) (hE : E ≤ E') (e1 : S'.2 77 o = S.2 77 o) (e2 : S'.2 78 o = S.2 78 o) (e3 : S'.2 79 o = S.2 79 o) (h82 : S'.2 82 o < E')
    (h80 : (S'.2 80 o = S.2 80 o ∧ (S'.2 81 o = 0 ∨ (S.2 59 (4 * S.2 68 (S.2 77 o) + S.2 80 o) = 3 ∧ S'.2 81 o ≤ S.2 69 (4 * S.2 77 o + S.2 80 o)))) ∨ (S'.2 80 o = S.2 80 o + 1 ∧ S.2 80 o + 1 ≤ S.2 56 (S.2 68 (S.2 77 o)) ∧ S'.2 81 o = 0)) : owi S' E' o := by
  unfold owi at h ⊢
  rw [e1, e2, e3, hC.2 56 (by decide), hC.2 57 (by decide), hC.2 59 (by decide), hC.2 67 (by decide), hC.2 68 (by decide), hC.2 69 (by decide)]
  rcases h80 with ⟨a, c⟩ | ⟨a, c, f⟩
  · rw [a]
    exact ⟨by omega, h82, h.2.2.1, h.2.2.2.1, h.2.2.2.2.1, c⟩
  · rw [a]
    exact ⟨by omega, h82, h.2.2.1, c, h.2.2.2.2.1, Or.inl f⟩
theorem owi_new {S S' : St} {o E' : Int} (hC : wCh S S') (h1 : S'.2 77 o < S.2 67 0) (h2 : S'.2 78 o < E') (h3 : 1 ≤ S.2 57 (S'.2 79 o)) (h4 : S'.2 80 o = 0) (h5 : 0 ≤ S.2 56 (S.2 68 (S'.2 77 o))) (h6 : S'.2 81 o = 0) (h7 : S'.2 82 o = -2) (h8 : 0 ≤ E') : owi S' E' o := by
  unfold owi
  rw [hC.2 56 (by decide), hC.2 57 (by decide), hC.2 67 (by decide), hC.2 68 (by decide), h4]
  exact ⟨h2, by omega, h1, h5, h3, Or.inl h6⟩
theorem owi_of {S : St} {x : Int} (h : OWI S) (h0 : 0 ≤ x) (h1 : x < S.1 54 32) : owi S (S.1 54 25) x := by
  rcases h x with k | k | k
  · omega
  · omega
  · exact k
theorem OL0.mv {S S' : St} (h : OL0 S) (e1 : S'.2 59 = S.2 59) (e2 : S'.2 67 = S.2 67) (e3 : S'.2 68 = S.2 68) (e4 : S'.2 69 = S.2 69) (e5 : S'.2 70 = S.2 70) : OL0 S' := by
  unfold OL0
  rw [e1, e2, e3, e4, e5]
  exact h
theorem NMS.mv {S S' : St} (h : NMS S) (e1 : S'.2 56 = S.2 56) (e2 : S'.2 57 = S.2 57) (e3 : S'.2 67 = S.2 67) (e4 : S'.2 68 = S.2 68) : NMS S' := by
  unfold NMS
  rw [e1, e2, e3, e4]
  exact h
theorem EWI_1 {S : St} (h : (S.1 54 32 = 0 ∧ (S.1 54 39 = 3001 ∨ 4 ≤ S.1 54 39)) ∨ (S.1 54 32 = 1 ∧ (S.1 54 39 = 3001 ∨ 3 ≤ S.1 54 39))) (he : S.1 54 25 = 1) : EWI S := by
  unfold EWI
  have := sfl_le (S := S) (S.1 54 32).toNat
  omega

set_option maxRecDepth 100000 in
set_option maxHeartbeats 4000000 in
theorem tX11_element {a1 a2 : Int} {S : St} {K : Int → St → Prop} (p1 : iv (-2) 899 a1) (p2 : iv 0 29 a2) (p3 : (S.1 54 25) ≤ 899) (p4 : a1 < (S.1 54 25)) (p5 : PW S) (p6 : BW S) (hK : ∀ (r : Int) (S' : St), Ch [25] [72, 73, 74] S S' → (r = (S.1 54 25)) → ((S'.1 54 25) = (S.1 54 25) + 1) → (PW S') → (BW S') → K r S') : wX11_element a1 a2 S K := by
  unfold wX11_element
  intro g1 g2
  unfold wX11_element_5
  refine ⟨fun u1 u2 u3 u4 Sx => Ch [] [] S Sx ∧ a1 = u1 ∧ a2 = u2 ∧ (iv 0 900 u4) ∧ (1 ≤ u3) ∧ (u3 ≤ u4 + 1) ∧ (u4 ≤ (Sx.1 54 25)), fun u1 u2 u3 u4 Sx => (901 - u4).toNat, ?_, fun v5_1 v5_2 v5_3 v5_4 S5h hI => ?_⟩
  · exact ⟨Ch.re, rfl, rfl, by omega, by omega, by omega, by omega⟩
  obtain ⟨hS5h, rfl, rfl, i5_0, i5_1, i5_2, i5_3⟩ := hI
  unfold wX11_element_5'
  intro q1
  have e2 : S5h.1 54 25 = S.1 54 25 := hS5h.1 25 (by decide)
  refine ⟨by omega, ?_⟩
  refine ⟨fun h11 => ?_, fun h11 => ?_⟩
  · refine ⟨by omega, by omega, ?_⟩
    refine ⟨by omega, ?_⟩
    intro S63 hS63e
    have hS63 : Ch [] [72] S5h S63 := Ch_A hS63e
    have hS63v : ∀ x, S63.2 72 x = if x = S5h.1 54 25 then a1 else S5h.2 72 x := pA_at hS63e
    intro q3
    have e4 : S63.1 54 25 = S5h.1 54 25 := hS63.1 25 (by decide)
    have e5 : S5h.1 54 25 = S.1 54 25 := hS5h.1 25 (by decide)
    refine ⟨by omega, by omega, ?_⟩
    refine ⟨by omega, ?_⟩
    intro S73 hS73e
    have hS73 : Ch [] [73] S63 S73 := Ch_A hS73e
    have hS73v : ∀ x, S73.2 73 x = if x = S63.1 54 25 then a2 else S63.2 73 x := pA_at hS73e
    intro q6
    have e7 : S73.1 54 25 = S63.1 54 25 := hS73.1 25 (by decide)
    have e8 : S63.1 54 25 = S5h.1 54 25 := hS63.1 25 (by decide)
    have e9 : S5h.1 54 25 = S.1 54 25 := hS5h.1 25 (by decide)
    refine ⟨by omega, by omega, ?_⟩
    refine ⟨by omega, ?_⟩
    intro S83 hS83e
    have hS83 : Ch [] [74] S73 S83 := Ch_A hS83e
    have hS83v : ∀ x, S83.2 74 x = if x = S73.1 54 25 then v5_3 else S73.2 74 x := pA_at hS83e
    intro q10
    have e11 : S83.1 54 25 = S73.1 54 25 := hS83.1 25 (by decide)
    have e12 : S73.1 54 25 = S63.1 54 25 := hS73.1 25 (by decide)
    have e13 : S63.1 54 25 = S5h.1 54 25 := hS63.1 25 (by decide)
    have e14 : S5h.1 54 25 = S.1 54 25 := hS5h.1 25 (by decide)
    refine ⟨by omega, ?_⟩
    intro S91 hS91e
    have hS91 : Ch [25] [] S83 S91 := Ch_I hS91e
    have hS91v : S91.1 54 25 = (S83.1 54 25 + 1) := pI_at hS91e
    intro q15
    exact hK ((S91.1 54 25 - 1)) S91 (Ch.wk (Ch.tr (Ch.tr (Ch.tr (Ch.tr hS5h hS63) hS73) hS83) hS91) (by decide) (by decide)) (by omega) (by omega) (by
          unfold PW
          intro x
          have e16 : S91.2 72 x = S83.2 72 x := congrFun (hS91.2 72 (by decide)) _
          have e17 : S83.2 72 x = S73.2 72 x := congrFun (hS83.2 72 (by decide)) _
          have e18 : S73.2 72 x = S63.2 72 x := congrFun (hS73.2 72 (by decide)) _
          have e19 := hS63v x
          have e20 : S5h.2 72 x = S.2 72 x := congrFun (hS5h.2 72 (by decide)) _
          have e21 := p5 x
          omega) (by
          unfold BW
          intro x
          rw [show S91.2 75 = S.2 75 from ((Ch.tr (Ch.tr (Ch.tr (Ch.tr hS5h hS63) hS73) hS83) hS91)).2 75 (by decide)]
          have e22 := p6 x
          omega)
  · refine ⟨by omega, by omega, ?_⟩
    intro q23
    have e24 : S5h.2 72 (v5_4) = S.2 72 (v5_4) := congrFun (hS5h.2 72 (by decide)) _
    refine ⟨by omega, ?_⟩
    refine ⟨fun h22 => ?_, fun h22 => ?_⟩
    · unfold wX11_element_46
      unfold wX11_element_47
      have e25 : S5h.1 54 25 = S.1 54 25 := hS5h.1 25 (by decide)
      exact ⟨⟨(Ch.wk hS5h (by decide) (by decide)), rfl, rfl, by omega, by omega, by omega, by omega⟩, show (901 - ((v5_4 + 1))).toNat < (901 - v5_4).toNat by omega⟩
    · refine ⟨by omega, by omega, ?_⟩
      intro q26
      have e27 : S5h.2 73 (v5_4) = S.2 73 (v5_4) := congrFun (hS5h.2 73 (by decide)) _
      refine ⟨by omega, ?_⟩
      refine tX11_sameName (by omega) (by omega) (fun r34 S34 hS34 n34_0 => ?_)
      refine ⟨by omega, ?_⟩
      refine ⟨fun h37 => ?_, fun h37 => ?_⟩
      · unfold wX11_element_46
        unfold wX11_element_47
        have e28 : S34.1 54 25 = S5h.1 54 25 := hS34.1 25 (by decide)
        have e29 : S5h.1 54 25 = S.1 54 25 := hS5h.1 25 (by decide)
        exact ⟨⟨(Ch.wk (Ch.tr hS5h hS34) (by decide) (by decide)), rfl, rfl, by omega, by omega, by omega, by omega⟩, show (901 - ((v5_4 + 1))).toNat < (901 - v5_4).toNat by omega⟩
      · unfold wX11_element_47
        have e30 : S34.1 54 25 = S5h.1 54 25 := hS34.1 25 (by decide)
        have e31 : S5h.1 54 25 = S.1 54 25 := hS5h.1 25 (by decide)
        exact ⟨⟨(Ch.wk (Ch.tr hS5h hS34) (by decide) (by decide)), rfl, rfl, by omega, by omega, by omega, by omega⟩, show (901 - ((v5_4 + 1))).toNat < (901 - v5_4).toNat by omega⟩

set_option maxRecDepth 100000 in
set_option maxHeartbeats 4000000 in
theorem tX11_hasContent {a1 a2 : Int} {S : St} {K : Int → St → Prop} (p1 : iv 0 29 a1) (p2 : iv 0 5 a2) (hK : ∀ (r : Int) (S' : St), Ch [] [] S S' → (iv 0 1 r) → K r S') : wX11_hasContent a1 a2 S K := by
  unfold wX11_hasContent
  intro g1 g2
  unfold wX11_hasContent_5
  refine ⟨fun u1 u2 u3 u4 Sx => Ch [] [] S Sx ∧ a1 = u1 ∧ a2 = u2 ∧ (iv 0 4 u4) ∧ (iv 0 1 u3), fun u1 u2 u3 u4 Sx => (5 - u4).toNat, ?_, fun v5_1 v5_2 v5_3 v5_4 S5h hI => ?_⟩
  · exact ⟨Ch.re, rfl, rfl, by omega, by omega⟩
  obtain ⟨hS5h, rfl, rfl, i5_0, i5_1⟩ := hI
  unfold wX11_hasContent_5'
  refine ⟨by omega, by omega, ?_⟩
  intro q1
  have e2 : S5h.2 56 (a2) = S.2 56 (a2) := congrFun (hS5h.2 56 (by decide)) _
  refine ⟨by omega, ?_⟩
  refine ⟨fun h13 => ?_, fun h13 => ?_⟩
  · refine ⟨by omega, ?_⟩
    exact hK (v5_3) S5h (Ch.wk hS5h (by decide) (by decide)) (by omega)
  · intro x22 hx22
    subst hx22
    refine ⟨by omega, by omega, ?_⟩
    intro q3
    have e4 : S5h.2 69 (((4 * a1) + v5_4)) = S.2 69 (((4 * a1) + v5_4)) := congrFun (hS5h.2 69 (by decide)) _
    intro x35 hx35
    subst hx35
    refine ⟨by omega, ?_⟩
    refine ⟨fun h38 => ?_, fun h38 => ?_⟩
    · unfold wX11_hasContent_106
      unfold wX11_hasContent_111
      exact ⟨⟨(Ch.wk hS5h (by decide) (by decide)), rfl, rfl, by omega, by omega⟩, show (5 - ((v5_4 + 1))).toNat < (5 - v5_4).toNat by omega⟩
    · refine ⟨by omega, by omega, ?_⟩
      intro q5
      have e6 : S5h.2 59 ((((4 * a2) + v5_4))) = S.2 59 ((((4 * a2) + v5_4))) := congrFun (hS5h.2 59 (by decide)) _
      refine ⟨fun h49 => ?_, fun h49 => ?_⟩
      · unfold wX11_hasContent_62
        refine ⟨by omega, by omega, ?_⟩
        intro q7
        have e8 : S5h.2 59 ((((4 * a2) + v5_4))) = S.2 59 ((((4 * a2) + v5_4))) := congrFun (hS5h.2 59 (by decide)) _
        refine ⟨fun h70 => ?_, fun h70 => ?_⟩
        · unfold wX11_hasContent_80
          refine ⟨by omega, by omega, ?_⟩
          intro q9
          have e10 : S5h.2 59 ((((4 * a2) + v5_4))) = S.2 59 ((((4 * a2) + v5_4))) := congrFun (hS5h.2 59 (by decide)) _
          refine ⟨fun h88 => ?_, fun h88 => ?_⟩
          · unfold wX11_hasContent_110
            unfold wX11_hasContent_111
            exact ⟨⟨(Ch.wk hS5h (by decide) (by decide)), rfl, rfl, by omega, by omega⟩, show (5 - ((v5_4 + 1))).toNat < (5 - v5_4).toNat by omega⟩
          · refine ⟨by omega, by omega, ?_⟩
            intro q11
            have e12 : S5h.2 60 ((((4 * a2) + v5_4))) = S.2 60 ((((4 * a2) + v5_4))) := congrFun (hS5h.2 60 (by decide)) _
            refine ⟨fun h98 => ?_, fun h98 => ?_⟩
            · unfold wX11_hasContent_106
              unfold wX11_hasContent_111
              exact ⟨⟨(Ch.wk hS5h (by decide) (by decide)), rfl, rfl, by omega, by omega⟩, show (5 - ((v5_4 + 1))).toNat < (5 - v5_4).toNat by omega⟩
            · refine ⟨by omega, ?_⟩
              refine ⟨fun h103 => ?_, fun h103 => ?_⟩
              · unfold wX11_hasContent_110
                unfold wX11_hasContent_111
                exact ⟨⟨(Ch.wk hS5h (by decide) (by decide)), rfl, rfl, by omega, by omega⟩, show (5 - ((v5_4 + 1))).toNat < (5 - v5_4).toNat by omega⟩
              · unfold wX11_hasContent_106
                unfold wX11_hasContent_111
                exact ⟨⟨(Ch.wk hS5h (by decide) (by decide)), rfl, rfl, by omega, by omega⟩, show (5 - ((v5_4 + 1))).toNat < (5 - v5_4).toNat by omega⟩
        · refine ⟨by omega, ?_⟩
          refine ⟨fun h77 => ?_, fun h77 => ?_⟩
          · unfold wX11_hasContent_106
            unfold wX11_hasContent_111
            exact ⟨⟨(Ch.wk hS5h (by decide) (by decide)), rfl, rfl, by omega, by omega⟩, show (5 - ((v5_4 + 1))).toNat < (5 - v5_4).toNat by omega⟩
          · unfold wX11_hasContent_80
            refine ⟨by omega, by omega, ?_⟩
            intro q13
            have e14 : S5h.2 59 ((((4 * a2) + v5_4))) = S.2 59 ((((4 * a2) + v5_4))) := congrFun (hS5h.2 59 (by decide)) _
            refine ⟨fun h88 => ?_, fun h88 => ?_⟩
            · unfold wX11_hasContent_110
              unfold wX11_hasContent_111
              exact ⟨⟨(Ch.wk hS5h (by decide) (by decide)), rfl, rfl, by omega, by omega⟩, show (5 - ((v5_4 + 1))).toNat < (5 - v5_4).toNat by omega⟩
            · refine ⟨by omega, by omega, ?_⟩
              intro q15
              have e16 : S5h.2 60 ((((4 * a2) + v5_4))) = S.2 60 ((((4 * a2) + v5_4))) := congrFun (hS5h.2 60 (by decide)) _
              refine ⟨fun h98 => ?_, fun h98 => ?_⟩
              · unfold wX11_hasContent_106
                unfold wX11_hasContent_111
                exact ⟨⟨(Ch.wk hS5h (by decide) (by decide)), rfl, rfl, by omega, by omega⟩, show (5 - ((v5_4 + 1))).toNat < (5 - v5_4).toNat by omega⟩
              · refine ⟨by omega, ?_⟩
                refine ⟨fun h103 => ?_, fun h103 => ?_⟩
                · unfold wX11_hasContent_110
                  unfold wX11_hasContent_111
                  exact ⟨⟨(Ch.wk hS5h (by decide) (by decide)), rfl, rfl, by omega, by omega⟩, show (5 - ((v5_4 + 1))).toNat < (5 - v5_4).toNat by omega⟩
                · unfold wX11_hasContent_106
                  unfold wX11_hasContent_111
                  exact ⟨⟨(Ch.wk hS5h (by decide) (by decide)), rfl, rfl, by omega, by omega⟩, show (5 - ((v5_4 + 1))).toNat < (5 - v5_4).toNat by omega⟩
      · refine ⟨by omega, by omega, ?_⟩
        intro q17
        have e18 : S5h.2 60 ((((4 * a2) + v5_4))) = S.2 60 ((((4 * a2) + v5_4))) := congrFun (hS5h.2 60 (by decide)) _
        refine ⟨fun h59 => ?_, fun h59 => ?_⟩
        · unfold wX11_hasContent_106
          unfold wX11_hasContent_111
          exact ⟨⟨(Ch.wk hS5h (by decide) (by decide)), rfl, rfl, by omega, by omega⟩, show (5 - ((v5_4 + 1))).toNat < (5 - v5_4).toNat by omega⟩
        · unfold wX11_hasContent_62
          refine ⟨by omega, by omega, ?_⟩
          intro q19
          have e20 : S5h.2 59 ((((4 * a2) + v5_4))) = S.2 59 ((((4 * a2) + v5_4))) := congrFun (hS5h.2 59 (by decide)) _
          refine ⟨fun h70 => ?_, fun h70 => ?_⟩
          · unfold wX11_hasContent_80
            refine ⟨by omega, by omega, ?_⟩
            intro q21
            have e22 : S5h.2 59 ((((4 * a2) + v5_4))) = S.2 59 ((((4 * a2) + v5_4))) := congrFun (hS5h.2 59 (by decide)) _
            refine ⟨fun h88 => ?_, fun h88 => ?_⟩
            · unfold wX11_hasContent_110
              unfold wX11_hasContent_111
              exact ⟨⟨(Ch.wk hS5h (by decide) (by decide)), rfl, rfl, by omega, by omega⟩, show (5 - ((v5_4 + 1))).toNat < (5 - v5_4).toNat by omega⟩
            · refine ⟨by omega, by omega, ?_⟩
              intro q23
              have e24 : S5h.2 60 ((((4 * a2) + v5_4))) = S.2 60 ((((4 * a2) + v5_4))) := congrFun (hS5h.2 60 (by decide)) _
              refine ⟨fun h98 => ?_, fun h98 => ?_⟩
              · unfold wX11_hasContent_106
                unfold wX11_hasContent_111
                exact ⟨⟨(Ch.wk hS5h (by decide) (by decide)), rfl, rfl, by omega, by omega⟩, show (5 - ((v5_4 + 1))).toNat < (5 - v5_4).toNat by omega⟩
              · refine ⟨by omega, ?_⟩
                refine ⟨fun h103 => ?_, fun h103 => ?_⟩
                · unfold wX11_hasContent_110
                  unfold wX11_hasContent_111
                  exact ⟨⟨(Ch.wk hS5h (by decide) (by decide)), rfl, rfl, by omega, by omega⟩, show (5 - ((v5_4 + 1))).toNat < (5 - v5_4).toNat by omega⟩
                · unfold wX11_hasContent_106
                  unfold wX11_hasContent_111
                  exact ⟨⟨(Ch.wk hS5h (by decide) (by decide)), rfl, rfl, by omega, by omega⟩, show (5 - ((v5_4 + 1))).toNat < (5 - v5_4).toNat by omega⟩
          · refine ⟨by omega, ?_⟩
            refine ⟨fun h77 => ?_, fun h77 => ?_⟩
            · unfold wX11_hasContent_106
              unfold wX11_hasContent_111
              exact ⟨⟨(Ch.wk hS5h (by decide) (by decide)), rfl, rfl, by omega, by omega⟩, show (5 - ((v5_4 + 1))).toNat < (5 - v5_4).toNat by omega⟩
            · unfold wX11_hasContent_80
              refine ⟨by omega, by omega, ?_⟩
              intro q25
              have e26 : S5h.2 59 ((((4 * a2) + v5_4))) = S.2 59 ((((4 * a2) + v5_4))) := congrFun (hS5h.2 59 (by decide)) _
              refine ⟨fun h88 => ?_, fun h88 => ?_⟩
              · unfold wX11_hasContent_110
                unfold wX11_hasContent_111
                exact ⟨⟨(Ch.wk hS5h (by decide) (by decide)), rfl, rfl, by omega, by omega⟩, show (5 - ((v5_4 + 1))).toNat < (5 - v5_4).toNat by omega⟩
              · refine ⟨by omega, by omega, ?_⟩
                intro q27
                have e28 : S5h.2 60 ((((4 * a2) + v5_4))) = S.2 60 ((((4 * a2) + v5_4))) := congrFun (hS5h.2 60 (by decide)) _
                refine ⟨fun h98 => ?_, fun h98 => ?_⟩
                · unfold wX11_hasContent_106
                  unfold wX11_hasContent_111
                  exact ⟨⟨(Ch.wk hS5h (by decide) (by decide)), rfl, rfl, by omega, by omega⟩, show (5 - ((v5_4 + 1))).toNat < (5 - v5_4).toNat by omega⟩
                · refine ⟨by omega, ?_⟩
                  refine ⟨fun h103 => ?_, fun h103 => ?_⟩
                  · unfold wX11_hasContent_110
                    unfold wX11_hasContent_111
                    exact ⟨⟨(Ch.wk hS5h (by decide) (by decide)), rfl, rfl, by omega, by omega⟩, show (5 - ((v5_4 + 1))).toNat < (5 - v5_4).toNat by omega⟩
                  · unfold wX11_hasContent_106
                    unfold wX11_hasContent_111
                    exact ⟨⟨(Ch.wk hS5h (by decide) (by decide)), rfl, rfl, by omega, by omega⟩, show (5 - ((v5_4 + 1))).toNat < (5 - v5_4).toNat by omega⟩

set_option maxRecDepth 100000 in
set_option maxHeartbeats 4000000 in
theorem tX11_putWord {a1 a2 a3 a4 : Int} {S : St} {K : Int → St → Prop}  (hK : ∀ (r : Int) (S' : St), Ch [39] [83] S S' → ((S.1 54 39) ≤ (S'.1 54 39)) → ((S'.1 54 39) = 3001 ∨ (S.1 54 39) + 2 ≤ (S'.1 54 39)) → ((S.1 54 39) + 4 ≤ 3000 ∨ (S.1 54 39) ≤ (S'.1 54 39)) → K r S') : wX11_putWord a1 a2 a3 a4 S K := by
  unfold wX11_putWord
  intro g1 g2 g3 g4
  refine tX11_put  (fun r2 S2 hS2 n2_0 => ?_)
  refine tX11_put  (fun r7 S7 hS7 n7_0 => ?_)
  refine ⟨fun h11 => ?_, fun h11 => ?_⟩
  · unfold wX11_putWord_19
    refine ⟨by omega, ?_⟩
    refine ⟨fun h21 => ?_, fun h21 => ?_⟩
    · exact hK (0) S7 (Ch.wk (Ch.tr hS2 hS7) (by decide) (by decide)) (by omega) (by omega) (by omega)
    · refine tX11_put  (fun r27 S27 hS27 n27_0 => ?_)
      exact hK (0) S27 (Ch.wk (Ch.tr (Ch.tr hS2 hS7) hS27) (by decide) (by decide)) (by omega) (by omega) (by omega)
  · refine tX11_put  (fun r16 S16 hS16 n16_0 => ?_)
    unfold wX11_putWord_19
    refine ⟨by omega, ?_⟩
    refine ⟨fun h21 => ?_, fun h21 => ?_⟩
    · exact hK (0) S16 (Ch.wk (Ch.tr (Ch.tr hS2 hS7) hS16) (by decide) (by decide)) (by omega) (by omega) (by omega)
    · refine tX11_put  (fun r27 S27 hS27 n27_0 => ?_)
      exact hK (0) S27 (Ch.wk (Ch.tr (Ch.tr (Ch.tr hS2 hS7) hS16) hS27) (by decide) (by decide)) (by omega) (by omega) (by omega)

set_option maxRecDepth 100000 in
set_option maxHeartbeats 4000000 in
theorem tX11_putAttribute {a1 a2 a3 a4 : Int} {S : St} {K : Int → St → Prop}  (hK : ∀ (r : Int) (S' : St), Ch [39] [83] S S' → ((S.1 54 39) ≤ (S'.1 54 39)) → ((S'.1 54 39) = 3001 ∨ (S.1 54 39) + 3 ≤ (S'.1 54 39)) → K r S') : wX11_putAttribute a1 a2 a3 a4 S K := by
  unfold wX11_putAttribute
  intro g1 g2 g3 g4
  refine tX11_put  (fun r3 S3 hS3 n3_0 => ?_)
  refine tX11_putWord  (fun r12 S12 hS12 n12_0 n12_1 n12_2 => ?_)
  exact hK (0) S12 (Ch.wk (Ch.tr hS3 hS12) (by decide) (by decide)) (by omega) (by omega)

set_option maxRecDepth 100000 in
set_option maxHeartbeats 4000000 in
theorem tX11_putName {a1 : Int} {S : St} {K : Int → St → Prop} (p1 : iv 0 29 a1) (hK : ∀ (r : Int) (S' : St), Ch [39] [83] S S' → ((S.1 54 39) ≤ (S'.1 54 39)) → ((S.2 57) a1 = 0 ∨ (S'.1 54 39) = 3001 ∨ (S.1 54 39) + 1 ≤ (S'.1 54 39)) → K r S') : wX11_putName a1 S K := by
  unfold wX11_putName
  intro g1
  unfold wX11_putName_2
  refine ⟨fun u1 u2 Sx => Ch [39] [83] S Sx ∧ a1 = u1 ∧ (iv 0 8 u2) ∧ ((S.1 54 39) ≤ (Sx.1 54 39)) ∧ (u2 = 0 ∨ (Sx.1 54 39) = 3001 ∨ (S.1 54 39) + 1 ≤ (Sx.1 54 39)), fun u1 u2 Sx => (9 - u2).toNat, ?_, fun v2_1 v2_2 S2h hI => ?_⟩
  · exact ⟨Ch.re, rfl, by omega, by omega, by omega⟩
  obtain ⟨hS2h, rfl, i2_0, i2_1, i2_2⟩ := hI
  unfold wX11_putName_2'
  refine ⟨by omega, by omega, ?_⟩
  intro q1
  have e2 : S2h.2 57 (a1) = S.2 57 (a1) := congrFun (hS2h.2 57 (by decide)) _
  refine ⟨by omega, ?_⟩
  refine ⟨fun h9 => ?_, fun h9 => ?_⟩
  · exact hK (0) S2h (Ch.wk hS2h (by decide) (by decide)) (by omega) (by omega)
  · refine ⟨by omega, by omega, ?_⟩
    intro q3
    have e4 : S2h.2 58 (((8 * a1) + v2_2)) = S.2 58 (((8 * a1) + v2_2)) := congrFun (hS2h.2 58 (by decide)) _
    intro x23 hx23
    subst hx23
    refine ⟨fun h28 => ?_, fun h28 => ?_⟩
    · unfold wX11_putName_37
      refine ⟨by omega, ?_⟩
      refine tX11_put  (fun r37 S37 hS37 n37_0 => ?_)
      refine ⟨fun h43 => ?_, fun h43 => ?_⟩
      · unfold wX11_putName_52
        refine ⟨by omega, ?_⟩
        refine ⟨fun h55 => ?_, fun h55 => ?_⟩
        · unfold wX11_putName_64
          exact ⟨⟨(Ch.wk (Ch.tr hS2h hS37) (by decide) (by decide)), rfl, by omega, by omega, by omega⟩, show (9 - ((v2_2 + 1))).toNat < (9 - v2_2).toNat by omega⟩
        · refine tX11_put  (fun r61 S61 hS61 n61_0 => ?_)
          unfold wX11_putName_64
          exact ⟨⟨(Ch.wk (Ch.tr (Ch.tr hS2h hS37) hS61) (by decide) (by decide)), rfl, by omega, by omega, by omega⟩, show (9 - ((v2_2 + 1))).toNat < (9 - v2_2).toNat by omega⟩
      · refine tX11_put  (fun r49 S49 hS49 n49_0 => ?_)
        unfold wX11_putName_52
        refine ⟨by omega, ?_⟩
        refine ⟨fun h55 => ?_, fun h55 => ?_⟩
        · unfold wX11_putName_64
          exact ⟨⟨(Ch.wk (Ch.tr (Ch.tr hS2h hS37) hS49) (by decide) (by decide)), rfl, by omega, by omega, by omega⟩, show (9 - ((v2_2 + 1))).toNat < (9 - v2_2).toNat by omega⟩
        · refine tX11_put  (fun r61 S61 hS61 n61_0 => ?_)
          unfold wX11_putName_64
          exact ⟨⟨(Ch.wk (Ch.tr (Ch.tr (Ch.tr hS2h hS37) hS49) hS61) (by decide) (by decide)), rfl, by omega, by omega, by omega⟩, show (9 - ((v2_2 + 1))).toNat < (9 - v2_2).toNat by omega⟩
    · unfold wX11_putName_37
      refine tX11_put  (fun r37 S37 hS37 n37_0 => ?_)
      refine ⟨by omega, ?_⟩
      refine ⟨fun h43 => ?_, fun h43 => ?_⟩
      · unfold wX11_putName_52
        refine ⟨by omega, ?_⟩
        refine ⟨fun h55 => ?_, fun h55 => ?_⟩
        · unfold wX11_putName_64
          exact ⟨⟨(Ch.wk (Ch.tr hS2h hS37) (by decide) (by decide)), rfl, by omega, by omega, by omega⟩, show (9 - ((v2_2 + 1))).toNat < (9 - v2_2).toNat by omega⟩
        · refine tX11_put  (fun r61 S61 hS61 n61_0 => ?_)
          unfold wX11_putName_64
          exact ⟨⟨(Ch.wk (Ch.tr (Ch.tr hS2h hS37) hS61) (by decide) (by decide)), rfl, by omega, by omega, by omega⟩, show (9 - ((v2_2 + 1))).toNat < (9 - v2_2).toNat by omega⟩
      · refine tX11_put  (fun r49 S49 hS49 n49_0 => ?_)
        unfold wX11_putName_52
        refine ⟨by omega, ?_⟩
        refine ⟨fun h55 => ?_, fun h55 => ?_⟩
        · unfold wX11_putName_64
          exact ⟨⟨(Ch.wk (Ch.tr (Ch.tr hS2h hS37) hS49) (by decide) (by decide)), rfl, by omega, by omega, by omega⟩, show (9 - ((v2_2 + 1))).toNat < (9 - v2_2).toNat by omega⟩
        · refine tX11_put  (fun r61 S61 hS61 n61_0 => ?_)
          unfold wX11_putName_64
          exact ⟨⟨(Ch.wk (Ch.tr (Ch.tr (Ch.tr hS2h hS37) hS49) hS61) (by decide) (by decide)), rfl, by omega, by omega, by omega⟩, show (9 - ((v2_2 + 1))).toNat < (9 - v2_2).toNat by omega⟩

set_option maxRecDepth 100000 in
set_option maxHeartbeats 4000000 in
theorem tX11_putNumber {a1 : Int} {S : St} {K : Int → St → Prop}  (hK : ∀ (r : Int) (S' : St), Ch [39] [83] S S' → ((S.1 54 39) ≤ (S'.1 54 39)) → K r S') : wX11_putNumber a1 S K := by
  unfold wX11_putNumber
  intro g1
  refine ⟨fun h1 => ?_, fun h1 => ?_⟩
  · unfold wX11_putNumber_12
    refine ⟨by omega, ?_⟩
    refine ⟨fun h14 => ?_, fun h14 => ?_⟩
    · unfold wX11_putNumber_23
      unfold wX11_putNumber_26
      refine ⟨fun u2 u4 Sx => Ch [] [] S Sx ∧ a1 = u2 ∧ (0 ≤ u2 ∧ u2 ≤ 2147483648) ∧ (1 ≤ u4 ∧ u4 ≤ 2147483648), fun u2 u4 Sx => (2147483649 - u4).toNat, ?_, fun v26_2 v26_4 S26h hI => ?_⟩
      · exact ⟨Ch.re, rfl, by omega, by omega⟩
      obtain ⟨hS26h, rfl, i26_0, i26_1⟩ := hI
      unfold wX11_putNumber_26'
      have hq := tdq (n := a1) (b := v26_4) (by omega) (by omega)
      refine ⟨by omega, ?_⟩
      refine ⟨by omega, ?_⟩
      refine ⟨by omega, ?_⟩
      refine ⟨by omega, ?_⟩
      refine ⟨fun h33 => ?_, fun h33 => ?_⟩
      · unfold wX11_putNumber_48
        have e1 : S26h.1 54 39 = S.1 54 39 := hS26h.1 39 (by decide)
        refine ⟨fun u2 u4 Sx => Ch [39] [83] S26h Sx ∧ a1 = u2 ∧ (0 ≤ u2 ∧ u2 ≤ 2147483648) ∧ (0 ≤ u4 ∧ u4 ≤ 2147483648) ∧ ((S.1 54 39) ≤ (Sx.1 54 39)), fun u2 u4 Sx => (u4).toNat, ?_, fun v48_2 v48_4 S48h hI => ?_⟩
        · exact ⟨Ch.re, rfl, by omega, by omega, by omega⟩
        obtain ⟨hS48h, rfl, i48_0, i48_1, i48_2⟩ := hI
        unfold wX11_putNumber_48'
        refine ⟨by omega, ?_⟩
        refine ⟨fun h51 => ?_, fun h51 => ?_⟩
        · exact hK (0) S48h (Ch.wk (Ch.tr hS26h hS48h) (by decide) (by decide)) (by omega)
        · have hq := tdq (n := a1) (b := v48_4) (by omega) (by omega)
          have hm := tdm hq.1
          have ht := td10 (b := v48_4) (by omega)
          refine ⟨by omega, ?_⟩
          refine ⟨by omega, ?_⟩
          refine ⟨by omega, ?_⟩
          refine ⟨by omega, ?_⟩
          refine ⟨by omega, ?_⟩
          refine tX11_put  (fun r68 S68 hS68 n68_0 => ?_)
          refine ⟨by omega, ?_⟩
          intro x77 hx77
          subst hx77
          exact ⟨⟨(Ch.wk (Ch.tr hS48h hS68) (by decide) (by decide)), rfl, by omega, by omega, by omega⟩, show ((((Int.tdiv (v48_4) (10))))).toNat < (v48_4).toNat by omega⟩
      · have hq := tdv (n := a1) (b := v26_4) (by omega) (by omega) (by omega)
        intro x43 hx43
        subst hx43
        exact ⟨⟨(Ch.wk hS26h (by decide) (by decide)), rfl, by omega, by omega⟩, show (2147483649 - (((v26_4 * 10)))).toNat < (2147483649 - v26_4).toNat by omega⟩
    · refine tX11_put  (fun r20 S20 hS20 n20_0 => ?_)
      unfold wX11_putNumber_23
      unfold wX11_putNumber_26
      refine ⟨fun u2 u4 Sx => Ch [] [] S20 Sx ∧ a1 = u2 ∧ (0 ≤ u2 ∧ u2 ≤ 2147483648) ∧ (1 ≤ u4 ∧ u4 ≤ 2147483648), fun u2 u4 Sx => (2147483649 - u4).toNat, ?_, fun v26_2 v26_4 S26h hI => ?_⟩
      · exact ⟨Ch.re, rfl, by omega, by omega⟩
      obtain ⟨hS26h, rfl, i26_0, i26_1⟩ := hI
      unfold wX11_putNumber_26'
      have hq := tdq (n := a1) (b := v26_4) (by omega) (by omega)
      refine ⟨by omega, ?_⟩
      refine ⟨by omega, ?_⟩
      refine ⟨by omega, ?_⟩
      refine ⟨by omega, ?_⟩
      refine ⟨fun h33 => ?_, fun h33 => ?_⟩
      · unfold wX11_putNumber_48
        have e2 : S26h.1 54 39 = S20.1 54 39 := hS26h.1 39 (by decide)
        refine ⟨fun u2 u4 Sx => Ch [39] [83] S26h Sx ∧ a1 = u2 ∧ (0 ≤ u2 ∧ u2 ≤ 2147483648) ∧ (0 ≤ u4 ∧ u4 ≤ 2147483648) ∧ ((S.1 54 39) ≤ (Sx.1 54 39)), fun u2 u4 Sx => (u4).toNat, ?_, fun v48_2 v48_4 S48h hI => ?_⟩
        · exact ⟨Ch.re, rfl, by omega, by omega, by omega⟩
        obtain ⟨hS48h, rfl, i48_0, i48_1, i48_2⟩ := hI
        unfold wX11_putNumber_48'
        refine ⟨by omega, ?_⟩
        refine ⟨fun h51 => ?_, fun h51 => ?_⟩
        · exact hK (0) S48h (Ch.wk (Ch.tr (Ch.tr hS20 hS26h) hS48h) (by decide) (by decide)) (by omega)
        · have hq := tdq (n := a1) (b := v48_4) (by omega) (by omega)
          have hm := tdm hq.1
          have ht := td10 (b := v48_4) (by omega)
          refine ⟨by omega, ?_⟩
          refine ⟨by omega, ?_⟩
          refine ⟨by omega, ?_⟩
          refine ⟨by omega, ?_⟩
          refine ⟨by omega, ?_⟩
          refine tX11_put  (fun r68 S68 hS68 n68_0 => ?_)
          refine ⟨by omega, ?_⟩
          intro x77 hx77
          subst hx77
          exact ⟨⟨(Ch.wk (Ch.tr hS48h hS68) (by decide) (by decide)), rfl, by omega, by omega, by omega⟩, show ((((Int.tdiv (v48_4) (10))))).toNat < (v48_4).toNat by omega⟩
      · have hq := tdv (n := a1) (b := v26_4) (by omega) (by omega) (by omega)
        intro x43 hx43
        subst hx43
        exact ⟨⟨(Ch.wk hS26h (by decide) (by decide)), rfl, by omega, by omega⟩, show (2147483649 - (((v26_4 * 10)))).toNat < (2147483649 - v26_4).toNat by omega⟩
  · unfold wX11_putNumber_12
    refine ⟨by omega, ?_⟩
    refine ⟨fun h14 => ?_, fun h14 => ?_⟩
    · unfold wX11_putNumber_23
      unfold wX11_putNumber_26
      refine ⟨fun u2 u4 Sx => Ch [] [] S Sx ∧ (-a1) = u2 ∧ (0 ≤ u2 ∧ u2 ≤ 2147483648) ∧ (1 ≤ u4 ∧ u4 ≤ 2147483648), fun u2 u4 Sx => (2147483649 - u4).toNat, ?_, fun v26_2 v26_4 S26h hI => ?_⟩
      · exact ⟨Ch.re, rfl, by omega, by omega⟩
      obtain ⟨hS26h, rfl, i26_0, i26_1⟩ := hI
      unfold wX11_putNumber_26'
      have hq := tdq (n := ((-a1))) (b := v26_4) (by omega) (by omega)
      refine ⟨by omega, ?_⟩
      refine ⟨by omega, ?_⟩
      refine ⟨by omega, ?_⟩
      refine ⟨by omega, ?_⟩
      refine ⟨fun h33 => ?_, fun h33 => ?_⟩
      · unfold wX11_putNumber_48
        have e3 : S26h.1 54 39 = S.1 54 39 := hS26h.1 39 (by decide)
        refine ⟨fun u2 u4 Sx => Ch [39] [83] S26h Sx ∧ (-a1) = u2 ∧ (0 ≤ u2 ∧ u2 ≤ 2147483648) ∧ (0 ≤ u4 ∧ u4 ≤ 2147483648) ∧ ((S.1 54 39) ≤ (Sx.1 54 39)), fun u2 u4 Sx => (u4).toNat, ?_, fun v48_2 v48_4 S48h hI => ?_⟩
        · exact ⟨Ch.re, rfl, by omega, by omega, by omega⟩
        obtain ⟨hS48h, rfl, i48_0, i48_1, i48_2⟩ := hI
        unfold wX11_putNumber_48'
        refine ⟨by omega, ?_⟩
        refine ⟨fun h51 => ?_, fun h51 => ?_⟩
        · exact hK (0) S48h (Ch.wk (Ch.tr hS26h hS48h) (by decide) (by decide)) (by omega)
        · have hq := tdq (n := ((-a1))) (b := v48_4) (by omega) (by omega)
          have hm := tdm hq.1
          have ht := td10 (b := v48_4) (by omega)
          refine ⟨by omega, ?_⟩
          refine ⟨by omega, ?_⟩
          refine ⟨by omega, ?_⟩
          refine ⟨by omega, ?_⟩
          refine ⟨by omega, ?_⟩
          refine tX11_put  (fun r68 S68 hS68 n68_0 => ?_)
          refine ⟨by omega, ?_⟩
          intro x77 hx77
          subst hx77
          exact ⟨⟨(Ch.wk (Ch.tr hS48h hS68) (by decide) (by decide)), rfl, by omega, by omega, by omega⟩, show ((((Int.tdiv (v48_4) (10))))).toNat < (v48_4).toNat by omega⟩
      · have hq := tdv (n := ((-a1))) (b := v26_4) (by omega) (by omega) (by omega)
        intro x43 hx43
        subst hx43
        exact ⟨⟨(Ch.wk hS26h (by decide) (by decide)), rfl, by omega, by omega⟩, show (2147483649 - (((v26_4 * 10)))).toNat < (2147483649 - v26_4).toNat by omega⟩
    · refine tX11_put  (fun r20 S20 hS20 n20_0 => ?_)
      unfold wX11_putNumber_23
      unfold wX11_putNumber_26
      refine ⟨fun u2 u4 Sx => Ch [] [] S20 Sx ∧ (-a1) = u2 ∧ (0 ≤ u2 ∧ u2 ≤ 2147483648) ∧ (1 ≤ u4 ∧ u4 ≤ 2147483648), fun u2 u4 Sx => (2147483649 - u4).toNat, ?_, fun v26_2 v26_4 S26h hI => ?_⟩
      · exact ⟨Ch.re, rfl, by omega, by omega⟩
      obtain ⟨hS26h, rfl, i26_0, i26_1⟩ := hI
      unfold wX11_putNumber_26'
      have hq := tdq (n := ((-a1))) (b := v26_4) (by omega) (by omega)
      refine ⟨by omega, ?_⟩
      refine ⟨by omega, ?_⟩
      refine ⟨by omega, ?_⟩
      refine ⟨by omega, ?_⟩
      refine ⟨fun h33 => ?_, fun h33 => ?_⟩
      · unfold wX11_putNumber_48
        have e4 : S26h.1 54 39 = S20.1 54 39 := hS26h.1 39 (by decide)
        refine ⟨fun u2 u4 Sx => Ch [39] [83] S26h Sx ∧ (-a1) = u2 ∧ (0 ≤ u2 ∧ u2 ≤ 2147483648) ∧ (0 ≤ u4 ∧ u4 ≤ 2147483648) ∧ ((S.1 54 39) ≤ (Sx.1 54 39)), fun u2 u4 Sx => (u4).toNat, ?_, fun v48_2 v48_4 S48h hI => ?_⟩
        · exact ⟨Ch.re, rfl, by omega, by omega, by omega⟩
        obtain ⟨hS48h, rfl, i48_0, i48_1, i48_2⟩ := hI
        unfold wX11_putNumber_48'
        refine ⟨by omega, ?_⟩
        refine ⟨fun h51 => ?_, fun h51 => ?_⟩
        · exact hK (0) S48h (Ch.wk (Ch.tr (Ch.tr hS20 hS26h) hS48h) (by decide) (by decide)) (by omega)
        · have hq := tdq (n := ((-a1))) (b := v48_4) (by omega) (by omega)
          have hm := tdm hq.1
          have ht := td10 (b := v48_4) (by omega)
          refine ⟨by omega, ?_⟩
          refine ⟨by omega, ?_⟩
          refine ⟨by omega, ?_⟩
          refine ⟨by omega, ?_⟩
          refine ⟨by omega, ?_⟩
          refine tX11_put  (fun r68 S68 hS68 n68_0 => ?_)
          refine ⟨by omega, ?_⟩
          intro x77 hx77
          subst hx77
          exact ⟨⟨(Ch.wk (Ch.tr hS48h hS68) (by decide) (by decide)), rfl, by omega, by omega, by omega⟩, show ((((Int.tdiv (v48_4) (10))))).toNat < (v48_4).toNat by omega⟩
      · have hq := tdv (n := ((-a1))) (b := v26_4) (by omega) (by omega) (by omega)
        intro x43 hx43
        subst hx43
        exact ⟨⟨(Ch.wk hS26h (by decide) (by decide)), rfl, by omega, by omega⟩, show (2147483649 - (((v26_4 * 10)))).toNat < (2147483649 - v26_4).toNat by omega⟩

set_option maxRecDepth 100000 in
set_option maxHeartbeats 4000000 in
theorem tX11_putText {a1 a2 : Int} {S : St} {K : Int → St → Prop} (p1 : iv 0 119 a1) (p2 : (S.2 69) a1 ≤ 20) (hK : ∀ (r : Int) (S' : St), Ch [39] [83] S S' → ((S.1 54 39) ≤ (S'.1 54 39)) → K r S') : wX11_putText a1 a2 S K := by
  unfold wX11_putText
  intro g1 g2
  unfold wX11_putText_2
  refine ⟨fun u1 u2 u3 Sx => Ch [39] [83] S Sx ∧ a1 = u1 ∧ a2 = u2 ∧ (iv 0 20 u3) ∧ ((S.1 54 39) ≤ (Sx.1 54 39)), fun u1 u2 u3 Sx => (21 - u3).toNat, ?_, fun v2_1 v2_2 v2_3 S2h hI => ?_⟩
  · exact ⟨Ch.re, rfl, rfl, by omega, by omega⟩
  obtain ⟨hS2h, rfl, rfl, i2_0, i2_1⟩ := hI
  unfold wX11_putText_2'
  refine ⟨by omega, by omega, ?_⟩
  intro q1
  have e2 : S2h.2 69 (a1) = S.2 69 (a1) := congrFun (hS2h.2 69 (by decide)) _
  refine ⟨by omega, ?_⟩
  refine ⟨fun h9 => ?_, fun h9 => ?_⟩
  · exact hK (0) S2h (Ch.wk hS2h (by decide) (by decide)) (by omega)
  · refine ⟨by omega, by omega, ?_⟩
    intro q3
    have e4 : S2h.2 70 (((20 * a1) + v2_3)) = S.2 70 (((20 * a1) + v2_3)) := congrFun (hS2h.2 70 (by decide)) _
    intro x23 hx23
    subst hx23
    refine ⟨fun h29 => ?_, fun h29 => ?_⟩
    · refine ⟨fun h57 => ?_, fun h57 => ?_⟩
      · unfold wX11_putText_67
        refine ⟨by omega, ?_⟩
        refine ⟨fun h74 => ?_, fun h74 => ?_⟩
        · unfold wX11_putText_84
          refine tX11_putWord  (fun r88 S88 hS88 n88_0 n88_1 n88_2 => ?_)
          unfold wX11_putText_136
          exact ⟨⟨(Ch.wk (Ch.tr hS2h hS88) (by decide) (by decide)), rfl, rfl, by omega, by omega⟩, show (21 - ((v2_3 + 1))).toNat < (21 - v2_3).toNat by omega⟩
        · unfold wX11_putText_84
          refine tX11_putWord  (fun r88 S88 hS88 n88_0 n88_1 n88_2 => ?_)
          unfold wX11_putText_136
          exact ⟨⟨(Ch.wk (Ch.tr hS2h hS88) (by decide) (by decide)), rfl, rfl, by omega, by omega⟩, show (21 - ((v2_3 + 1))).toNat < (21 - v2_3).toNat by omega⟩
      · refine ⟨fun h64 => ?_, fun h64 => ?_⟩
        · refine ⟨fun h98 => ?_, fun h98 => ?_⟩
          · unfold wX11_putText_130
            refine ⟨by omega, ?_⟩
            refine tX11_put  (fun r133 S133 hS133 n133_0 => ?_)
            unfold wX11_putText_136
            exact ⟨⟨(Ch.wk (Ch.tr hS2h hS133) (by decide) (by decide)), rfl, rfl, by omega, by omega⟩, show (21 - ((v2_3 + 1))).toNat < (21 - v2_3).toNat by omega⟩
          · refine ⟨by omega, ?_⟩
            refine ⟨fun h102 => ?_, fun h102 => ?_⟩
            · unfold wX11_putText_130
              refine ⟨by omega, ?_⟩
              refine tX11_put  (fun r133 S133 hS133 n133_0 => ?_)
              unfold wX11_putText_136
              exact ⟨⟨(Ch.wk (Ch.tr hS2h hS133) (by decide) (by decide)), rfl, rfl, by omega, by omega⟩, show (21 - ((v2_3 + 1))).toNat < (21 - v2_3).toNat by omega⟩
            · refine tX11_putWord  (fun r114 S114 hS114 n114_0 n114_1 n114_2 => ?_)
              refine tX11_putWord  (fun r124 S124 hS124 n124_0 n124_1 n124_2 => ?_)
              unfold wX11_putText_136
              exact ⟨⟨(Ch.wk (Ch.tr (Ch.tr hS2h hS114) hS124) (by decide) (by decide)), rfl, rfl, by omega, by omega⟩, show (21 - ((v2_3 + 1))).toNat < (21 - v2_3).toNat by omega⟩
        · unfold wX11_putText_67
          refine ⟨by omega, ?_⟩
          refine ⟨fun h74 => ?_, fun h74 => ?_⟩
          · unfold wX11_putText_84
            refine tX11_putWord  (fun r88 S88 hS88 n88_0 n88_1 n88_2 => ?_)
            unfold wX11_putText_136
            exact ⟨⟨(Ch.wk (Ch.tr hS2h hS88) (by decide) (by decide)), rfl, rfl, by omega, by omega⟩, show (21 - ((v2_3 + 1))).toNat < (21 - v2_3).toNat by omega⟩
          · unfold wX11_putText_84
            refine tX11_putWord  (fun r88 S88 hS88 n88_0 n88_1 n88_2 => ?_)
            unfold wX11_putText_136
            exact ⟨⟨(Ch.wk (Ch.tr hS2h hS88) (by decide) (by decide)), rfl, rfl, by omega, by omega⟩, show (21 - ((v2_3 + 1))).toNat < (21 - v2_3).toNat by omega⟩
    · refine tX11_putWord  (fun r41 S41 hS41 n41_0 n41_1 n41_2 => ?_)
      refine tX11_put  (fun r47 S47 hS47 n47_0 => ?_)
      unfold wX11_putText_136
      exact ⟨⟨(Ch.wk (Ch.tr (Ch.tr hS2h hS41) hS47) (by decide) (by decide)), rfl, rfl, by omega, by omega⟩, show (21 - ((v2_3 + 1))).toNat < (21 - v2_3).toNat by omega⟩

set_option maxRecDepth 100000 in
set_option maxHeartbeats 4000000 in
theorem tX11_putValue {a1 a2 a3 a4 : Int} {S : St} {K : Int → St → Prop} (p1 : iv 0 29 a1) (p2 : iv 0 3 a2) (p3 : iv 0 5 a3) (p4 : (S.2 59) (4 * a3 + a2) = 0 ∨ (S.2 69) (4 * a1 + a2) ≤ 20) (hK : ∀ (r : Int) (S' : St), Ch [39] [83] S S' → ((S.1 54 39) ≤ (S'.1 54 39)) → K r S') : wX11_putValue a1 a2 a3 a4 S K := by
  unfold wX11_putValue
  intro g1 g2 g3 g4
  intro x5 hx5
  subst hx5
  refine ⟨by omega, by omega, ?_⟩
  intro q1
  refine ⟨fun h17 => ?_, fun h17 => ?_⟩
  · refine ⟨by omega, ?_⟩
    refine tX11_putText (by omega) (by omega) (fun r39 S39 hS39 n39_0 => ?_)
    exact hK (0) S39 (Ch.wk hS39 (by decide) (by decide)) (by omega)
  · refine ⟨by omega, by omega, ?_⟩
    intro q2
    refine tX11_putNumber  (fun r28 S28 hS28 n28_0 => ?_)
    exact hK (0) S28 (Ch.wk hS28 (by decide) (by decide)) (by omega)

set_option maxRecDepth 100000 in
set_option maxHeartbeats 4000000 in
theorem tX11_begin_143 {a1 a2 a3 a4 a5 l1 l3 l6 l7 l8 : Int} {S S1c : St} {K : Int → St → Prop} (g1 : rng a1) (g2 : rng a2) (g3 : rng a3) (g4 : rng a4) (g5 : rng a5) (p1 : iv 0 29 a1) (p2 : iv (-2) 899 a2) (p3 : a2 < (S.1 54 25)) (p4 : iv 0 29 a3) (p5 : 1 ≤ (S.2 57) a3) (p6 : iv 0 1 a4) (p7 : (S.1 54 32) ≤ 19) (p8 : (S.1 54 25) ≤ 899) (p9 : (S.1 54 30) ≤ (S.1 54 25)) (p10 : PW S) (p11 : BW S) (p12 : OK0 S) (p13 : a1 < (S.2 67) 0) (hS1c : Ch [25, 30, 39] [72, 73, 74, 75, 76, 83] S S1c) (c1 : a1 = l1) (c2 : a3 = l3) (c3 : (S.2 68) a1 = l6) (c4 : (S.1 54 25) = l7) (c5 : l8 = 0) (c6 : (S1c.1 54 25) = (S.1 54 25) + 1) (c7 : (S1c.1 54 30) = (S.1 54 30) + 1) (c8 : PW S1c) (c9 : BW S1c) (c10 : 0 ≤ (S1c.2 75) a1) (c11 : (S1c.1 54 39) = 3001 ∨ (S.1 54 39) + 2 ≤ (S1c.1 54 39)) (hK : ∀ (r : Int) (S' : St), Ch [25, 30, 32, 39] [72, 73, 74, 75, 76, 77, 78, 79, 80, 81, 82, 83] S S' → ((S'.1 54 25) = (S.1 54 25) + 1) → ((S'.1 54 30) = (S.1 54 30) + 1) → (PW S') → (BW S') → (0 ≤ (S'.2 75) a1) → (((S'.1 54 32) = (S.1 54 32) ∧ ((S'.1 54 39) = 3001 ∨ (S.1 54 39) + 4 ≤ (S'.1 54 39))) ∨ ((S'.1 54 32) = (S.1 54 32) + 1 ∧ ((S'.1 54 39) = 3001 ∨ (S.1 54 39) + 3 ≤ (S'.1 54 39)) ∧ (S'.2 77) ((S.1 54 32)) = a1 ∧ (S'.2 78) ((S.1 54 32)) = (S.1 54 25) ∧ (S'.2 79) ((S.1 54 32)) = a3 ∧ (S'.2 80) ((S.1 54 32)) = 0 ∧ (S'.2 81) ((S.1 54 32)) = 0 ∧ (S'.2 82) ((S.1 54 32)) = -2)) → ((S.1 54 39) ≤ (S'.1 54 39)) → (∀ x, x = (S.1 54 32) ∨ (S'.2 77) x = (S.2 77) x) → (∀ x, x = (S.1 54 32) ∨ (S'.2 78) x = (S.2 78) x) → (∀ x, x = (S.1 54 32) ∨ (S'.2 79) x = (S.2 79) x) → (∀ x, x = (S.1 54 32) ∨ (S'.2 80) x = (S.2 80) x) → (∀ x, x = (S.1 54 32) ∨ (S'.2 81) x = (S.2 81) x) → (∀ x, x = (S.1 54 32) ∨ (S'.2 82) x = (S.2 82) x) → (0 ≤ (S.2 56) ((S.2 68) a1)) → K r S') : wX11_begin_143 l1 l3 l6 l7 l8 S1c K := by
  unfold wX11_begin_143
  refine ⟨fun u1 u3 u6 u7 u8 Sx => Ch [39] [83] S1c Sx ∧ l1 = u1 ∧ l3 = u3 ∧ l6 = u6 ∧ l7 = u7 ∧ (iv 0 4 u8) ∧ ((S.1 54 39) + 2 ≤ (Sx.1 54 39) ∨ (Sx.1 54 39) = 3001) ∧ ((S1c.1 54 39) ≤ (Sx.1 54 39)), fun u1 u3 u6 u7 u8 Sx => (5 - u8).toNat, ?_, fun v143_1 v143_3 v143_6 v143_7 v143_8 S143h hI => ?_⟩
  · exact ⟨Ch.re, rfl, rfl, rfl, rfl, by omega, by omega, by omega⟩
  obtain ⟨hS143h, rfl, rfl, rfl, rfl, i143_0, i143_1, i143_2⟩ := hI
  unfold wX11_begin_143'
  refine ⟨by omega, by omega, ?_⟩
  intro q1
  have e2 : S143h.2 56 (l6) = S1c.2 56 (l6) := congrFun (hS143h.2 56 (by decide)) _
  have e3 : S1c.2 56 (l6) = S.2 56 (l6) := congrFun (hS1c.2 56 (by decide)) _
  refine ⟨by omega, ?_⟩
  refine ⟨fun h152 => ?_, fun h152 => ?_⟩
  · refine ⟨by omega, ?_⟩
    refine ⟨by omega, ?_⟩
    refine tX11_hasContent (by omega) (by omega) (fun r242 S242 hS242 n242_0 => ?_)
    refine ⟨by omega, ?_⟩
    refine ⟨fun h245 => ?_, fun h245 => ?_⟩
    · have e4 : S242.1 54 39 = S143h.1 54 39 := hS242.1 39 (by decide)
      refine tX11_put  (fun r262 S262 hS262 n262_0 => ?_)
      intro q5
      have e6 : S262.1 54 32 = S242.1 54 32 := hS262.1 32 (by decide)
      have e7 : S242.1 54 32 = S143h.1 54 32 := hS242.1 32 (by decide)
      have e8 : S143h.1 54 32 = S1c.1 54 32 := hS143h.1 32 (by decide)
      have e9 : S1c.1 54 32 = S.1 54 32 := hS1c.1 32 (by decide)
      refine ⟨by omega, by omega, ?_⟩
      refine ⟨by omega, ?_⟩
      intro S274 hS274e
      have hS274 : Ch [] [77] S262 S274 := Ch_A hS274e
      have hS274v : ∀ x, S274.2 77 x = if x = S262.1 54 32 then l1 else S262.2 77 x := pA_at hS274e
      intro q10
      have e11 : S274.1 54 32 = S262.1 54 32 := hS274.1 32 (by decide)
      have e12 : S262.1 54 32 = S242.1 54 32 := hS262.1 32 (by decide)
      have e13 : S242.1 54 32 = S143h.1 54 32 := hS242.1 32 (by decide)
      have e14 : S143h.1 54 32 = S1c.1 54 32 := hS143h.1 32 (by decide)
      have e15 : S1c.1 54 32 = S.1 54 32 := hS1c.1 32 (by decide)
      refine ⟨by omega, by omega, ?_⟩
      refine ⟨by omega, ?_⟩
      intro S285 hS285e
      have hS285 : Ch [] [78] S274 S285 := Ch_A hS285e
      have hS285v : ∀ x, S285.2 78 x = if x = S274.1 54 32 then l7 else S274.2 78 x := pA_at hS285e
      intro q16
      have e17 : S285.1 54 32 = S274.1 54 32 := hS285.1 32 (by decide)
      have e18 : S274.1 54 32 = S262.1 54 32 := hS274.1 32 (by decide)
      have e19 : S262.1 54 32 = S242.1 54 32 := hS262.1 32 (by decide)
      have e20 : S242.1 54 32 = S143h.1 54 32 := hS242.1 32 (by decide)
      have e21 : S143h.1 54 32 = S1c.1 54 32 := hS143h.1 32 (by decide)
      have e22 : S1c.1 54 32 = S.1 54 32 := hS1c.1 32 (by decide)
      refine ⟨by omega, by omega, ?_⟩
      refine ⟨by omega, ?_⟩
      intro S295 hS295e
      have hS295 : Ch [] [79] S285 S295 := Ch_A hS295e
      have hS295v : ∀ x, S295.2 79 x = if x = S285.1 54 32 then l3 else S285.2 79 x := pA_at hS295e
      intro q23
      have e24 : S295.1 54 32 = S285.1 54 32 := hS295.1 32 (by decide)
      have e25 : S285.1 54 32 = S274.1 54 32 := hS285.1 32 (by decide)
      have e26 : S274.1 54 32 = S262.1 54 32 := hS274.1 32 (by decide)
      have e27 : S262.1 54 32 = S242.1 54 32 := hS262.1 32 (by decide)
      have e28 : S242.1 54 32 = S143h.1 54 32 := hS242.1 32 (by decide)
      have e29 : S143h.1 54 32 = S1c.1 54 32 := hS143h.1 32 (by decide)
      have e30 : S1c.1 54 32 = S.1 54 32 := hS1c.1 32 (by decide)
      refine ⟨by omega, by omega, ?_⟩
      intro S305 hS305e
      have hS305 : Ch [] [80] S295 S305 := Ch_A hS305e
      have hS305v : ∀ x, S305.2 80 x = if x = S295.1 54 32 then 0 else S295.2 80 x := pA_at hS305e
      intro q31
      have e32 : S305.1 54 32 = S295.1 54 32 := hS305.1 32 (by decide)
      have e33 : S295.1 54 32 = S285.1 54 32 := hS295.1 32 (by decide)
      have e34 : S285.1 54 32 = S274.1 54 32 := hS285.1 32 (by decide)
      have e35 : S274.1 54 32 = S262.1 54 32 := hS274.1 32 (by decide)
      have e36 : S262.1 54 32 = S242.1 54 32 := hS262.1 32 (by decide)
      have e37 : S242.1 54 32 = S143h.1 54 32 := hS242.1 32 (by decide)
      have e38 : S143h.1 54 32 = S1c.1 54 32 := hS143h.1 32 (by decide)
      have e39 : S1c.1 54 32 = S.1 54 32 := hS1c.1 32 (by decide)
      refine ⟨by omega, by omega, ?_⟩
      intro S315 hS315e
      have hS315 : Ch [] [81] S305 S315 := Ch_A hS315e
      have hS315v : ∀ x, S315.2 81 x = if x = S305.1 54 32 then 0 else S305.2 81 x := pA_at hS315e
      intro q40
      have e41 : S315.1 54 32 = S305.1 54 32 := hS315.1 32 (by decide)
      have e42 : S305.1 54 32 = S295.1 54 32 := hS305.1 32 (by decide)
      have e43 : S295.1 54 32 = S285.1 54 32 := hS295.1 32 (by decide)
      have e44 : S285.1 54 32 = S274.1 54 32 := hS285.1 32 (by decide)
      have e45 : S274.1 54 32 = S262.1 54 32 := hS274.1 32 (by decide)
      have e46 : S262.1 54 32 = S242.1 54 32 := hS262.1 32 (by decide)
      have e47 : S242.1 54 32 = S143h.1 54 32 := hS242.1 32 (by decide)
      have e48 : S143h.1 54 32 = S1c.1 54 32 := hS143h.1 32 (by decide)
      have e49 : S1c.1 54 32 = S.1 54 32 := hS1c.1 32 (by decide)
      refine ⟨by omega, by omega, ?_⟩
      intro S326 hS326e
      have hS326 : Ch [] [82] S315 S326 := Ch_A hS326e
      have hS326v : ∀ x, S326.2 82 x = if x = S315.1 54 32 then (-2) else S315.2 82 x := pA_at hS326e
      intro q50
      have e51 : S326.1 54 32 = S315.1 54 32 := hS326.1 32 (by decide)
      have e52 : S315.1 54 32 = S305.1 54 32 := hS315.1 32 (by decide)
      have e53 : S305.1 54 32 = S295.1 54 32 := hS305.1 32 (by decide)
      have e54 : S295.1 54 32 = S285.1 54 32 := hS295.1 32 (by decide)
      have e55 : S285.1 54 32 = S274.1 54 32 := hS285.1 32 (by decide)
      have e56 : S274.1 54 32 = S262.1 54 32 := hS274.1 32 (by decide)
      have e57 : S262.1 54 32 = S242.1 54 32 := hS262.1 32 (by decide)
      have e58 : S242.1 54 32 = S143h.1 54 32 := hS242.1 32 (by decide)
      have e59 : S143h.1 54 32 = S1c.1 54 32 := hS143h.1 32 (by decide)
      have e60 : S1c.1 54 32 = S.1 54 32 := hS1c.1 32 (by decide)
      refine ⟨by omega, ?_⟩
      intro S334 hS334e
      have hS334 : Ch [32] [] S326 S334 := Ch_I hS334e
      have hS334v : S334.1 54 32 = (S326.1 54 32 + 1) := pI_at hS334e
      have e127 : S334.1 54 25 = S326.1 54 25 := hS334.1 25 (by decide)
      have e128 : S326.1 54 25 = S315.1 54 25 := hS326.1 25 (by decide)
      have e129 : S315.1 54 25 = S305.1 54 25 := hS315.1 25 (by decide)
      have e130 : S305.1 54 25 = S295.1 54 25 := hS305.1 25 (by decide)
      have e131 : S295.1 54 25 = S285.1 54 25 := hS295.1 25 (by decide)
      have e132 : S285.1 54 25 = S274.1 54 25 := hS285.1 25 (by decide)
      have e133 : S274.1 54 25 = S262.1 54 25 := hS274.1 25 (by decide)
      have e134 : S262.1 54 25 = S242.1 54 25 := hS262.1 25 (by decide)
      have e135 : S242.1 54 25 = S143h.1 54 25 := hS242.1 25 (by decide)
      have e136 : S143h.1 54 25 = S1c.1 54 25 := hS143h.1 25 (by decide)
      have e137 : S334.1 54 30 = S326.1 54 30 := hS334.1 30 (by decide)
      have e138 : S326.1 54 30 = S315.1 54 30 := hS326.1 30 (by decide)
      have e139 : S315.1 54 30 = S305.1 54 30 := hS315.1 30 (by decide)
      have e140 : S305.1 54 30 = S295.1 54 30 := hS305.1 30 (by decide)
      have e141 : S295.1 54 30 = S285.1 54 30 := hS295.1 30 (by decide)
      have e142 : S285.1 54 30 = S274.1 54 30 := hS285.1 30 (by decide)
      have e143 : S274.1 54 30 = S262.1 54 30 := hS274.1 30 (by decide)
      have e144 : S262.1 54 30 = S242.1 54 30 := hS262.1 30 (by decide)
      have e145 : S242.1 54 30 = S143h.1 54 30 := hS242.1 30 (by decide)
      have e146 : S143h.1 54 30 = S1c.1 54 30 := hS143h.1 30 (by decide)
      have e147 : S334.2 75 a1 = S326.2 75 a1 := congrFun (hS334.2 75 (by decide)) _
      have e148 : S326.2 75 a1 = S315.2 75 a1 := congrFun (hS326.2 75 (by decide)) _
      have e149 : S315.2 75 a1 = S305.2 75 a1 := congrFun (hS315.2 75 (by decide)) _
      have e150 : S305.2 75 a1 = S295.2 75 a1 := congrFun (hS305.2 75 (by decide)) _
      have e151 : S295.2 75 a1 = S285.2 75 a1 := congrFun (hS295.2 75 (by decide)) _
      have e152 : S285.2 75 a1 = S274.2 75 a1 := congrFun (hS285.2 75 (by decide)) _
      have e153 : S274.2 75 a1 = S262.2 75 a1 := congrFun (hS274.2 75 (by decide)) _
      have e154 : S262.2 75 a1 = S242.2 75 a1 := congrFun (hS262.2 75 (by decide)) _
      have e155 : S242.2 75 a1 = S143h.2 75 a1 := congrFun (hS242.2 75 (by decide)) _
      have e156 : S143h.2 75 a1 = S1c.2 75 a1 := congrFun (hS143h.2 75 (by decide)) _
      have e157 : S334.1 54 39 = S326.1 54 39 := hS334.1 39 (by decide)
      have e158 : S326.1 54 39 = S315.1 54 39 := hS326.1 39 (by decide)
      have e159 : S315.1 54 39 = S305.1 54 39 := hS315.1 39 (by decide)
      have e160 : S305.1 54 39 = S295.1 54 39 := hS305.1 39 (by decide)
      have e161 : S295.1 54 39 = S285.1 54 39 := hS295.1 39 (by decide)
      have e162 : S285.1 54 39 = S274.1 54 39 := hS285.1 39 (by decide)
      have e163 : S274.1 54 39 = S262.1 54 39 := hS274.1 39 (by decide)
      have e164 : S334.2 77 ((S.1 54 32)) = S326.2 77 ((S.1 54 32)) := congrFun (hS334.2 77 (by decide)) _
      have e165 : S326.2 77 ((S.1 54 32)) = S315.2 77 ((S.1 54 32)) := congrFun (hS326.2 77 (by decide)) _
      have e166 : S315.2 77 ((S.1 54 32)) = S305.2 77 ((S.1 54 32)) := congrFun (hS315.2 77 (by decide)) _
      have e167 : S305.2 77 ((S.1 54 32)) = S295.2 77 ((S.1 54 32)) := congrFun (hS305.2 77 (by decide)) _
      have e168 : S295.2 77 ((S.1 54 32)) = S285.2 77 ((S.1 54 32)) := congrFun (hS295.2 77 (by decide)) _
      have e169 : S285.2 77 ((S.1 54 32)) = S274.2 77 ((S.1 54 32)) := congrFun (hS285.2 77 (by decide)) _
      have e170 := hS274v ((S.1 54 32))
      have e171 : S262.2 77 ((S.1 54 32)) = S242.2 77 ((S.1 54 32)) := congrFun (hS262.2 77 (by decide)) _
      have e172 : S242.2 77 ((S.1 54 32)) = S143h.2 77 ((S.1 54 32)) := congrFun (hS242.2 77 (by decide)) _
      have e173 : S143h.2 77 ((S.1 54 32)) = S1c.2 77 ((S.1 54 32)) := congrFun (hS143h.2 77 (by decide)) _
      have e174 : S1c.2 77 ((S.1 54 32)) = S.2 77 ((S.1 54 32)) := congrFun (hS1c.2 77 (by decide)) _
      have e175 : S334.2 78 ((S.1 54 32)) = S326.2 78 ((S.1 54 32)) := congrFun (hS334.2 78 (by decide)) _
      have e176 : S326.2 78 ((S.1 54 32)) = S315.2 78 ((S.1 54 32)) := congrFun (hS326.2 78 (by decide)) _
      have e177 : S315.2 78 ((S.1 54 32)) = S305.2 78 ((S.1 54 32)) := congrFun (hS315.2 78 (by decide)) _
      have e178 : S305.2 78 ((S.1 54 32)) = S295.2 78 ((S.1 54 32)) := congrFun (hS305.2 78 (by decide)) _
      have e179 : S295.2 78 ((S.1 54 32)) = S285.2 78 ((S.1 54 32)) := congrFun (hS295.2 78 (by decide)) _
      have e180 := hS285v ((S.1 54 32))
      have e181 : S274.2 78 ((S.1 54 32)) = S262.2 78 ((S.1 54 32)) := congrFun (hS274.2 78 (by decide)) _
      have e182 : S262.2 78 ((S.1 54 32)) = S242.2 78 ((S.1 54 32)) := congrFun (hS262.2 78 (by decide)) _
      have e183 : S242.2 78 ((S.1 54 32)) = S143h.2 78 ((S.1 54 32)) := congrFun (hS242.2 78 (by decide)) _
      have e184 : S143h.2 78 ((S.1 54 32)) = S1c.2 78 ((S.1 54 32)) := congrFun (hS143h.2 78 (by decide)) _
      have e185 : S1c.2 78 ((S.1 54 32)) = S.2 78 ((S.1 54 32)) := congrFun (hS1c.2 78 (by decide)) _
      have e186 : S334.2 79 ((S.1 54 32)) = S326.2 79 ((S.1 54 32)) := congrFun (hS334.2 79 (by decide)) _
      have e187 : S326.2 79 ((S.1 54 32)) = S315.2 79 ((S.1 54 32)) := congrFun (hS326.2 79 (by decide)) _
      have e188 : S315.2 79 ((S.1 54 32)) = S305.2 79 ((S.1 54 32)) := congrFun (hS315.2 79 (by decide)) _
      have e189 : S305.2 79 ((S.1 54 32)) = S295.2 79 ((S.1 54 32)) := congrFun (hS305.2 79 (by decide)) _
      have e190 := hS295v ((S.1 54 32))
      have e191 : S285.2 79 ((S.1 54 32)) = S274.2 79 ((S.1 54 32)) := congrFun (hS285.2 79 (by decide)) _
      have e192 : S274.2 79 ((S.1 54 32)) = S262.2 79 ((S.1 54 32)) := congrFun (hS274.2 79 (by decide)) _
      have e193 : S262.2 79 ((S.1 54 32)) = S242.2 79 ((S.1 54 32)) := congrFun (hS262.2 79 (by decide)) _
      have e194 : S242.2 79 ((S.1 54 32)) = S143h.2 79 ((S.1 54 32)) := congrFun (hS242.2 79 (by decide)) _
      have e195 : S143h.2 79 ((S.1 54 32)) = S1c.2 79 ((S.1 54 32)) := congrFun (hS143h.2 79 (by decide)) _
      have e196 : S1c.2 79 ((S.1 54 32)) = S.2 79 ((S.1 54 32)) := congrFun (hS1c.2 79 (by decide)) _
      have e197 : S334.2 80 ((S.1 54 32)) = S326.2 80 ((S.1 54 32)) := congrFun (hS334.2 80 (by decide)) _
      have e198 : S326.2 80 ((S.1 54 32)) = S315.2 80 ((S.1 54 32)) := congrFun (hS326.2 80 (by decide)) _
      have e199 : S315.2 80 ((S.1 54 32)) = S305.2 80 ((S.1 54 32)) := congrFun (hS315.2 80 (by decide)) _
      have e200 := hS305v ((S.1 54 32))
      have e201 : S295.2 80 ((S.1 54 32)) = S285.2 80 ((S.1 54 32)) := congrFun (hS295.2 80 (by decide)) _
      have e202 : S285.2 80 ((S.1 54 32)) = S274.2 80 ((S.1 54 32)) := congrFun (hS285.2 80 (by decide)) _
      have e203 : S274.2 80 ((S.1 54 32)) = S262.2 80 ((S.1 54 32)) := congrFun (hS274.2 80 (by decide)) _
      have e204 : S262.2 80 ((S.1 54 32)) = S242.2 80 ((S.1 54 32)) := congrFun (hS262.2 80 (by decide)) _
      have e205 : S242.2 80 ((S.1 54 32)) = S143h.2 80 ((S.1 54 32)) := congrFun (hS242.2 80 (by decide)) _
      have e206 : S143h.2 80 ((S.1 54 32)) = S1c.2 80 ((S.1 54 32)) := congrFun (hS143h.2 80 (by decide)) _
      have e207 : S1c.2 80 ((S.1 54 32)) = S.2 80 ((S.1 54 32)) := congrFun (hS1c.2 80 (by decide)) _
      have e208 : S334.2 81 ((S.1 54 32)) = S326.2 81 ((S.1 54 32)) := congrFun (hS334.2 81 (by decide)) _
      have e209 : S326.2 81 ((S.1 54 32)) = S315.2 81 ((S.1 54 32)) := congrFun (hS326.2 81 (by decide)) _
      have e210 := hS315v ((S.1 54 32))
      have e211 : S305.2 81 ((S.1 54 32)) = S295.2 81 ((S.1 54 32)) := congrFun (hS305.2 81 (by decide)) _
      have e212 : S295.2 81 ((S.1 54 32)) = S285.2 81 ((S.1 54 32)) := congrFun (hS295.2 81 (by decide)) _
      have e213 : S285.2 81 ((S.1 54 32)) = S274.2 81 ((S.1 54 32)) := congrFun (hS285.2 81 (by decide)) _
      have e214 : S274.2 81 ((S.1 54 32)) = S262.2 81 ((S.1 54 32)) := congrFun (hS274.2 81 (by decide)) _
      have e215 : S262.2 81 ((S.1 54 32)) = S242.2 81 ((S.1 54 32)) := congrFun (hS262.2 81 (by decide)) _
      have e216 : S242.2 81 ((S.1 54 32)) = S143h.2 81 ((S.1 54 32)) := congrFun (hS242.2 81 (by decide)) _
      have e217 : S143h.2 81 ((S.1 54 32)) = S1c.2 81 ((S.1 54 32)) := congrFun (hS143h.2 81 (by decide)) _
      have e218 : S1c.2 81 ((S.1 54 32)) = S.2 81 ((S.1 54 32)) := congrFun (hS1c.2 81 (by decide)) _
      have e219 : S334.2 82 ((S.1 54 32)) = S326.2 82 ((S.1 54 32)) := congrFun (hS334.2 82 (by decide)) _
      have e220 := hS326v ((S.1 54 32))
      have e221 : S315.2 82 ((S.1 54 32)) = S305.2 82 ((S.1 54 32)) := congrFun (hS315.2 82 (by decide)) _
      have e222 : S305.2 82 ((S.1 54 32)) = S295.2 82 ((S.1 54 32)) := congrFun (hS305.2 82 (by decide)) _
      have e223 : S295.2 82 ((S.1 54 32)) = S285.2 82 ((S.1 54 32)) := congrFun (hS295.2 82 (by decide)) _
      have e224 : S285.2 82 ((S.1 54 32)) = S274.2 82 ((S.1 54 32)) := congrFun (hS285.2 82 (by decide)) _
      have e225 : S274.2 82 ((S.1 54 32)) = S262.2 82 ((S.1 54 32)) := congrFun (hS274.2 82 (by decide)) _
      have e226 : S262.2 82 ((S.1 54 32)) = S242.2 82 ((S.1 54 32)) := congrFun (hS262.2 82 (by decide)) _
      have e227 : S242.2 82 ((S.1 54 32)) = S143h.2 82 ((S.1 54 32)) := congrFun (hS242.2 82 (by decide)) _
      have e228 : S143h.2 82 ((S.1 54 32)) = S1c.2 82 ((S.1 54 32)) := congrFun (hS143h.2 82 (by decide)) _
      have e229 : S1c.2 82 ((S.1 54 32)) = S.2 82 ((S.1 54 32)) := congrFun (hS1c.2 82 (by decide)) _
      have e230 : S334.1 54 39 = S326.1 54 39 := hS334.1 39 (by decide)
      have e231 : S326.1 54 39 = S315.1 54 39 := hS326.1 39 (by decide)
      have e232 : S315.1 54 39 = S305.1 54 39 := hS315.1 39 (by decide)
      have e233 : S305.1 54 39 = S295.1 54 39 := hS305.1 39 (by decide)
      have e234 : S295.1 54 39 = S285.1 54 39 := hS295.1 39 (by decide)
      have e235 : S285.1 54 39 = S274.1 54 39 := hS285.1 39 (by decide)
      have e236 : S274.1 54 39 = S262.1 54 39 := hS274.1 39 (by decide)
      exact hK (0) S334 (Ch.wk (Ch.tr (Ch.tr (Ch.tr (Ch.tr (Ch.tr (Ch.tr (Ch.tr (Ch.tr (Ch.tr (Ch.tr hS1c hS143h) hS242) hS262) hS274) hS285) hS295) hS305) hS315) hS326) hS334) (by decide) (by decide)) (by omega) (by omega) (PW.mv c8 (((Ch.tr (Ch.tr (Ch.tr (Ch.tr (Ch.tr (Ch.tr (Ch.tr (Ch.tr (Ch.tr hS143h hS242) hS262) hS274) hS285) hS295) hS305) hS315) hS326) hS334)).1 25 (by decide)) (((Ch.tr (Ch.tr (Ch.tr (Ch.tr (Ch.tr (Ch.tr (Ch.tr (Ch.tr (Ch.tr hS143h hS242) hS262) hS274) hS285) hS295) hS305) hS315) hS326) hS334)).2 72 (by decide))) (BW.mv c9 (Int.le_of_eq ((((Ch.tr (Ch.tr (Ch.tr (Ch.tr (Ch.tr (Ch.tr (Ch.tr (Ch.tr (Ch.tr hS143h hS242) hS262) hS274) hS285) hS295) hS305) hS315) hS326) hS334)).1 25 (by decide)).symm)) (((Ch.tr (Ch.tr (Ch.tr (Ch.tr (Ch.tr (Ch.tr (Ch.tr (Ch.tr (Ch.tr hS143h hS242) hS262) hS274) hS285) hS295) hS305) hS315) hS326) hS334)).2 75 (by decide))) (by omega) (by omega) (by omega) (by
            intro x
            have e61 : S334.2 77 x = S326.2 77 x := congrFun (hS334.2 77 (by decide)) _
            have e62 : S326.2 77 x = S315.2 77 x := congrFun (hS326.2 77 (by decide)) _
            have e63 : S315.2 77 x = S305.2 77 x := congrFun (hS315.2 77 (by decide)) _
            have e64 : S305.2 77 x = S295.2 77 x := congrFun (hS305.2 77 (by decide)) _
            have e65 : S295.2 77 x = S285.2 77 x := congrFun (hS295.2 77 (by decide)) _
            have e66 : S285.2 77 x = S274.2 77 x := congrFun (hS285.2 77 (by decide)) _
            have e67 := hS274v x
            have e68 : S262.2 77 x = S242.2 77 x := congrFun (hS262.2 77 (by decide)) _
            have e69 : S242.2 77 x = S143h.2 77 x := congrFun (hS242.2 77 (by decide)) _
            have e70 : S143h.2 77 x = S1c.2 77 x := congrFun (hS143h.2 77 (by decide)) _
            have e71 : S1c.2 77 x = S.2 77 x := congrFun (hS1c.2 77 (by decide)) _
            omega) (by
            intro x
            have e72 : S334.2 78 x = S326.2 78 x := congrFun (hS334.2 78 (by decide)) _
            have e73 : S326.2 78 x = S315.2 78 x := congrFun (hS326.2 78 (by decide)) _
            have e74 : S315.2 78 x = S305.2 78 x := congrFun (hS315.2 78 (by decide)) _
            have e75 : S305.2 78 x = S295.2 78 x := congrFun (hS305.2 78 (by decide)) _
            have e76 : S295.2 78 x = S285.2 78 x := congrFun (hS295.2 78 (by decide)) _
            have e77 := hS285v x
            have e78 : S274.2 78 x = S262.2 78 x := congrFun (hS274.2 78 (by decide)) _
            have e79 : S262.2 78 x = S242.2 78 x := congrFun (hS262.2 78 (by decide)) _
            have e80 : S242.2 78 x = S143h.2 78 x := congrFun (hS242.2 78 (by decide)) _
            have e81 : S143h.2 78 x = S1c.2 78 x := congrFun (hS143h.2 78 (by decide)) _
            have e82 : S1c.2 78 x = S.2 78 x := congrFun (hS1c.2 78 (by decide)) _
            omega) (by
            intro x
            have e83 : S334.2 79 x = S326.2 79 x := congrFun (hS334.2 79 (by decide)) _
            have e84 : S326.2 79 x = S315.2 79 x := congrFun (hS326.2 79 (by decide)) _
            have e85 : S315.2 79 x = S305.2 79 x := congrFun (hS315.2 79 (by decide)) _
            have e86 : S305.2 79 x = S295.2 79 x := congrFun (hS305.2 79 (by decide)) _
            have e87 := hS295v x
            have e88 : S285.2 79 x = S274.2 79 x := congrFun (hS285.2 79 (by decide)) _
            have e89 : S274.2 79 x = S262.2 79 x := congrFun (hS274.2 79 (by decide)) _
            have e90 : S262.2 79 x = S242.2 79 x := congrFun (hS262.2 79 (by decide)) _
            have e91 : S242.2 79 x = S143h.2 79 x := congrFun (hS242.2 79 (by decide)) _
            have e92 : S143h.2 79 x = S1c.2 79 x := congrFun (hS143h.2 79 (by decide)) _
            have e93 : S1c.2 79 x = S.2 79 x := congrFun (hS1c.2 79 (by decide)) _
            omega) (by
            intro x
            have e94 : S334.2 80 x = S326.2 80 x := congrFun (hS334.2 80 (by decide)) _
            have e95 : S326.2 80 x = S315.2 80 x := congrFun (hS326.2 80 (by decide)) _
            have e96 : S315.2 80 x = S305.2 80 x := congrFun (hS315.2 80 (by decide)) _
            have e97 := hS305v x
            have e98 : S295.2 80 x = S285.2 80 x := congrFun (hS295.2 80 (by decide)) _
            have e99 : S285.2 80 x = S274.2 80 x := congrFun (hS285.2 80 (by decide)) _
            have e100 : S274.2 80 x = S262.2 80 x := congrFun (hS274.2 80 (by decide)) _
            have e101 : S262.2 80 x = S242.2 80 x := congrFun (hS262.2 80 (by decide)) _
            have e102 : S242.2 80 x = S143h.2 80 x := congrFun (hS242.2 80 (by decide)) _
            have e103 : S143h.2 80 x = S1c.2 80 x := congrFun (hS143h.2 80 (by decide)) _
            have e104 : S1c.2 80 x = S.2 80 x := congrFun (hS1c.2 80 (by decide)) _
            omega) (by
            intro x
            have e105 : S334.2 81 x = S326.2 81 x := congrFun (hS334.2 81 (by decide)) _
            have e106 : S326.2 81 x = S315.2 81 x := congrFun (hS326.2 81 (by decide)) _
            have e107 := hS315v x
            have e108 : S305.2 81 x = S295.2 81 x := congrFun (hS305.2 81 (by decide)) _
            have e109 : S295.2 81 x = S285.2 81 x := congrFun (hS295.2 81 (by decide)) _
            have e110 : S285.2 81 x = S274.2 81 x := congrFun (hS285.2 81 (by decide)) _
            have e111 : S274.2 81 x = S262.2 81 x := congrFun (hS274.2 81 (by decide)) _
            have e112 : S262.2 81 x = S242.2 81 x := congrFun (hS262.2 81 (by decide)) _
            have e113 : S242.2 81 x = S143h.2 81 x := congrFun (hS242.2 81 (by decide)) _
            have e114 : S143h.2 81 x = S1c.2 81 x := congrFun (hS143h.2 81 (by decide)) _
            have e115 : S1c.2 81 x = S.2 81 x := congrFun (hS1c.2 81 (by decide)) _
            omega) (by
            intro x
            have e116 : S334.2 82 x = S326.2 82 x := congrFun (hS334.2 82 (by decide)) _
            have e117 := hS326v x
            have e118 : S315.2 82 x = S305.2 82 x := congrFun (hS315.2 82 (by decide)) _
            have e119 : S305.2 82 x = S295.2 82 x := congrFun (hS305.2 82 (by decide)) _
            have e120 : S295.2 82 x = S285.2 82 x := congrFun (hS295.2 82 (by decide)) _
            have e121 : S285.2 82 x = S274.2 82 x := congrFun (hS285.2 82 (by decide)) _
            have e122 : S274.2 82 x = S262.2 82 x := congrFun (hS274.2 82 (by decide)) _
            have e123 : S262.2 82 x = S242.2 82 x := congrFun (hS262.2 82 (by decide)) _
            have e124 : S242.2 82 x = S143h.2 82 x := congrFun (hS242.2 82 (by decide)) _
            have e125 : S143h.2 82 x = S1c.2 82 x := congrFun (hS143h.2 82 (by decide)) _
            have e126 : S1c.2 82 x = S.2 82 x := congrFun (hS1c.2 82 (by decide)) _
            omega) (by omega)
    · have e237 : S242.1 54 39 = S143h.1 54 39 := hS242.1 39 (by decide)
      have e238 : S242.1 54 39 = S143h.1 54 39 := hS242.1 39 (by decide)
      have e239 : S242.1 54 39 = S143h.1 54 39 := hS242.1 39 (by decide)
      refine tX11_putWord  (fun r255 S255 hS255 n255_0 n255_1 n255_2 => ?_)
      have e264 : S255.1 54 25 = S242.1 54 25 := hS255.1 25 (by decide)
      have e265 : S242.1 54 25 = S143h.1 54 25 := hS242.1 25 (by decide)
      have e266 : S143h.1 54 25 = S1c.1 54 25 := hS143h.1 25 (by decide)
      have e267 : S255.1 54 30 = S242.1 54 30 := hS255.1 30 (by decide)
      have e268 : S242.1 54 30 = S143h.1 54 30 := hS242.1 30 (by decide)
      have e269 : S143h.1 54 30 = S1c.1 54 30 := hS143h.1 30 (by decide)
      have e270 : S255.2 75 a1 = S242.2 75 a1 := congrFun (hS255.2 75 (by decide)) _
      have e271 : S242.2 75 a1 = S143h.2 75 a1 := congrFun (hS242.2 75 (by decide)) _
      have e272 : S143h.2 75 a1 = S1c.2 75 a1 := congrFun (hS143h.2 75 (by decide)) _
      have e273 : S255.1 54 32 = S242.1 54 32 := hS255.1 32 (by decide)
      have e274 : S242.1 54 32 = S143h.1 54 32 := hS242.1 32 (by decide)
      have e275 : S143h.1 54 32 = S1c.1 54 32 := hS143h.1 32 (by decide)
      have e276 : S1c.1 54 32 = S.1 54 32 := hS1c.1 32 (by decide)
      have e277 : S255.2 77 ((S.1 54 32)) = S242.2 77 ((S.1 54 32)) := congrFun (hS255.2 77 (by decide)) _
      have e278 : S242.2 77 ((S.1 54 32)) = S143h.2 77 ((S.1 54 32)) := congrFun (hS242.2 77 (by decide)) _
      have e279 : S143h.2 77 ((S.1 54 32)) = S1c.2 77 ((S.1 54 32)) := congrFun (hS143h.2 77 (by decide)) _
      have e280 : S1c.2 77 ((S.1 54 32)) = S.2 77 ((S.1 54 32)) := congrFun (hS1c.2 77 (by decide)) _
      have e281 : S255.2 78 ((S.1 54 32)) = S242.2 78 ((S.1 54 32)) := congrFun (hS255.2 78 (by decide)) _
      have e282 : S242.2 78 ((S.1 54 32)) = S143h.2 78 ((S.1 54 32)) := congrFun (hS242.2 78 (by decide)) _
      have e283 : S143h.2 78 ((S.1 54 32)) = S1c.2 78 ((S.1 54 32)) := congrFun (hS143h.2 78 (by decide)) _
      have e284 : S1c.2 78 ((S.1 54 32)) = S.2 78 ((S.1 54 32)) := congrFun (hS1c.2 78 (by decide)) _
      have e285 : S255.2 79 ((S.1 54 32)) = S242.2 79 ((S.1 54 32)) := congrFun (hS255.2 79 (by decide)) _
      have e286 : S242.2 79 ((S.1 54 32)) = S143h.2 79 ((S.1 54 32)) := congrFun (hS242.2 79 (by decide)) _
      have e287 : S143h.2 79 ((S.1 54 32)) = S1c.2 79 ((S.1 54 32)) := congrFun (hS143h.2 79 (by decide)) _
      have e288 : S1c.2 79 ((S.1 54 32)) = S.2 79 ((S.1 54 32)) := congrFun (hS1c.2 79 (by decide)) _
      have e289 : S255.2 80 ((S.1 54 32)) = S242.2 80 ((S.1 54 32)) := congrFun (hS255.2 80 (by decide)) _
      have e290 : S242.2 80 ((S.1 54 32)) = S143h.2 80 ((S.1 54 32)) := congrFun (hS242.2 80 (by decide)) _
      have e291 : S143h.2 80 ((S.1 54 32)) = S1c.2 80 ((S.1 54 32)) := congrFun (hS143h.2 80 (by decide)) _
      have e292 : S1c.2 80 ((S.1 54 32)) = S.2 80 ((S.1 54 32)) := congrFun (hS1c.2 80 (by decide)) _
      have e293 : S255.2 81 ((S.1 54 32)) = S242.2 81 ((S.1 54 32)) := congrFun (hS255.2 81 (by decide)) _
      have e294 : S242.2 81 ((S.1 54 32)) = S143h.2 81 ((S.1 54 32)) := congrFun (hS242.2 81 (by decide)) _
      have e295 : S143h.2 81 ((S.1 54 32)) = S1c.2 81 ((S.1 54 32)) := congrFun (hS143h.2 81 (by decide)) _
      have e296 : S1c.2 81 ((S.1 54 32)) = S.2 81 ((S.1 54 32)) := congrFun (hS1c.2 81 (by decide)) _
      have e297 : S255.2 82 ((S.1 54 32)) = S242.2 82 ((S.1 54 32)) := congrFun (hS255.2 82 (by decide)) _
      have e298 : S242.2 82 ((S.1 54 32)) = S143h.2 82 ((S.1 54 32)) := congrFun (hS242.2 82 (by decide)) _
      have e299 : S143h.2 82 ((S.1 54 32)) = S1c.2 82 ((S.1 54 32)) := congrFun (hS143h.2 82 (by decide)) _
      have e300 : S1c.2 82 ((S.1 54 32)) = S.2 82 ((S.1 54 32)) := congrFun (hS1c.2 82 (by decide)) _
      exact hK (0) S255 (Ch.wk (Ch.tr (Ch.tr (Ch.tr hS1c hS143h) hS242) hS255) (by decide) (by decide)) (by omega) (by omega) (PW.mv c8 (((Ch.tr (Ch.tr hS143h hS242) hS255)).1 25 (by decide)) (((Ch.tr (Ch.tr hS143h hS242) hS255)).2 72 (by decide))) (BW.mv c9 (Int.le_of_eq ((((Ch.tr (Ch.tr hS143h hS242) hS255)).1 25 (by decide)).symm)) (((Ch.tr (Ch.tr hS143h hS242) hS255)).2 75 (by decide))) (by omega) (by omega) (by omega) (by
            intro x
            have e240 : S255.2 77 x = S242.2 77 x := congrFun (hS255.2 77 (by decide)) _
            have e241 : S242.2 77 x = S143h.2 77 x := congrFun (hS242.2 77 (by decide)) _
            have e242 : S143h.2 77 x = S1c.2 77 x := congrFun (hS143h.2 77 (by decide)) _
            have e243 : S1c.2 77 x = S.2 77 x := congrFun (hS1c.2 77 (by decide)) _
            omega) (by
            intro x
            have e244 : S255.2 78 x = S242.2 78 x := congrFun (hS255.2 78 (by decide)) _
            have e245 : S242.2 78 x = S143h.2 78 x := congrFun (hS242.2 78 (by decide)) _
            have e246 : S143h.2 78 x = S1c.2 78 x := congrFun (hS143h.2 78 (by decide)) _
            have e247 : S1c.2 78 x = S.2 78 x := congrFun (hS1c.2 78 (by decide)) _
            omega) (by
            intro x
            have e248 : S255.2 79 x = S242.2 79 x := congrFun (hS255.2 79 (by decide)) _
            have e249 : S242.2 79 x = S143h.2 79 x := congrFun (hS242.2 79 (by decide)) _
            have e250 : S143h.2 79 x = S1c.2 79 x := congrFun (hS143h.2 79 (by decide)) _
            have e251 : S1c.2 79 x = S.2 79 x := congrFun (hS1c.2 79 (by decide)) _
            omega) (by
            intro x
            have e252 : S255.2 80 x = S242.2 80 x := congrFun (hS255.2 80 (by decide)) _
            have e253 : S242.2 80 x = S143h.2 80 x := congrFun (hS242.2 80 (by decide)) _
            have e254 : S143h.2 80 x = S1c.2 80 x := congrFun (hS143h.2 80 (by decide)) _
            have e255 : S1c.2 80 x = S.2 80 x := congrFun (hS1c.2 80 (by decide)) _
            omega) (by
            intro x
            have e256 : S255.2 81 x = S242.2 81 x := congrFun (hS255.2 81 (by decide)) _
            have e257 : S242.2 81 x = S143h.2 81 x := congrFun (hS242.2 81 (by decide)) _
            have e258 : S143h.2 81 x = S1c.2 81 x := congrFun (hS143h.2 81 (by decide)) _
            have e259 : S1c.2 81 x = S.2 81 x := congrFun (hS1c.2 81 (by decide)) _
            omega) (by
            intro x
            have e260 : S255.2 82 x = S242.2 82 x := congrFun (hS255.2 82 (by decide)) _
            have e261 : S242.2 82 x = S143h.2 82 x := congrFun (hS242.2 82 (by decide)) _
            have e262 : S143h.2 82 x = S1c.2 82 x := congrFun (hS143h.2 82 (by decide)) _
            have e263 : S1c.2 82 x = S.2 82 x := congrFun (hS1c.2 82 (by decide)) _
            omega) (by omega)
  · refine ⟨by omega, by omega, ?_⟩
    intro q301
    have e302 : S143h.2 59 (((4 * l6) + v143_8)) = S1c.2 59 (((4 * l6) + v143_8)) := congrFun (hS143h.2 59 (by decide)) _
    have e303 : S1c.2 59 (((4 * l6) + v143_8)) = S.2 59 (((4 * l6) + v143_8)) := congrFun (hS1c.2 59 (by decide)) _
    refine ⟨fun h168 => ?_, fun h168 => ?_⟩
    · unfold wX11_begin_232
      exact ⟨⟨(Ch.wk hS143h (by decide) (by decide)), rfl, rfl, rfl, rfl, by omega, by omega, by omega⟩, show (5 - ((v143_8 + 1))).toNat < (5 - v143_8).toNat by omega⟩
    · refine ⟨by omega, by omega, ?_⟩
      intro q304
      have e305 : S143h.2 60 (((4 * l6) + v143_8)) = S1c.2 60 (((4 * l6) + v143_8)) := congrFun (hS143h.2 60 (by decide)) _
      have e306 : S1c.2 60 (((4 * l6) + v143_8)) = S.2 60 (((4 * l6) + v143_8)) := congrFun (hS1c.2 60 (by decide)) _
      refine ⟨fun h183 => ?_, fun h183 => ?_⟩
      · unfold wX11_begin_232
        exact ⟨⟨(Ch.wk hS143h (by decide) (by decide)), rfl, rfl, rfl, rfl, by omega, by omega, by omega⟩, show (5 - ((v143_8 + 1))).toNat < (5 - v143_8).toNat by omega⟩
      · refine tX11_put  (fun r189 S189 hS189 n189_0 => ?_)
        refine ⟨by omega, ?_⟩
        refine tX11_putName (by omega) (fun r203 S203 hS203 n203_0 n203_1 => ?_)
        refine tX11_putWord  (fun r213 S213 hS213 n213_0 n213_1 n213_2 => ?_)
        have hk := p12 a1 (v143_8)
        unfold tyV at hk
        refine ⟨by omega, ?_⟩
        refine ⟨by omega, ?_⟩
        have e307 : S213.2 59 (4 * (l6) + (v143_8)) = S203.2 59 (4 * (l6) + (v143_8)) := congrFun (hS213.2 59 (by decide)) _
        have e308 : S203.2 59 (4 * (l6) + (v143_8)) = S189.2 59 (4 * (l6) + (v143_8)) := congrFun (hS203.2 59 (by decide)) _
        have e309 : S189.2 59 (4 * (l6) + (v143_8)) = S143h.2 59 (4 * (l6) + (v143_8)) := congrFun (hS189.2 59 (by decide)) _
        have e310 : S143h.2 59 (4 * (l6) + (v143_8)) = S1c.2 59 (4 * (l6) + (v143_8)) := congrFun (hS143h.2 59 (by decide)) _
        have e311 : S1c.2 59 (4 * (l6) + (v143_8)) = S.2 59 (4 * (l6) + (v143_8)) := congrFun (hS1c.2 59 (by decide)) _
        have e312 : S213.2 69 (4 * (l1) + (v143_8)) = S203.2 69 (4 * (l1) + (v143_8)) := congrFun (hS213.2 69 (by decide)) _
        have e313 : S203.2 69 (4 * (l1) + (v143_8)) = S189.2 69 (4 * (l1) + (v143_8)) := congrFun (hS203.2 69 (by decide)) _
        have e314 : S189.2 69 (4 * (l1) + (v143_8)) = S143h.2 69 (4 * (l1) + (v143_8)) := congrFun (hS189.2 69 (by decide)) _
        have e315 : S143h.2 69 (4 * (l1) + (v143_8)) = S1c.2 69 (4 * (l1) + (v143_8)) := congrFun (hS143h.2 69 (by decide)) _
        have e316 : S1c.2 69 (4 * (l1) + (v143_8)) = S.2 69 (4 * (l1) + (v143_8)) := congrFun (hS1c.2 69 (by decide)) _
        refine tX11_putValue (by omega) (by omega) (by omega) (by omega) (fun r223 S223 hS223 n223_0 => ?_)
        refine tX11_put  (fun r229 S229 hS229 n229_0 => ?_)
        unfold wX11_begin_232
        exact ⟨⟨(Ch.wk (Ch.tr (Ch.tr (Ch.tr (Ch.tr (Ch.tr hS143h hS189) hS203) hS213) hS223) hS229) (by decide) (by decide)), rfl, rfl, rfl, rfl, by omega, by omega, by omega⟩, show (5 - ((v143_8 + 1))).toNat < (5 - v143_8).toNat by omega⟩
set_option maxRecDepth 100000 in
set_option maxHeartbeats 4000000 in
theorem tX11_begin {a1 a2 a3 a4 a5 : Int} {S : St} {K : Int → St → Prop} (p1 : iv 0 29 a1) (p2 : iv (-2) 899 a2) (p3 : a2 < (S.1 54 25)) (p4 : iv 0 29 a3) (p5 : 1 ≤ (S.2 57) a3) (p6 : iv 0 1 a4) (p7 : (S.1 54 32) ≤ 19) (p8 : (S.1 54 25) ≤ 899) (p9 : (S.1 54 30) ≤ (S.1 54 25)) (p10 : PW S) (p11 : BW S) (p12 : OK0 S) (p13 : a1 < (S.2 67) 0) (hK : ∀ (r : Int) (S' : St), Ch [25, 30, 32, 39] [72, 73, 74, 75, 76, 77, 78, 79, 80, 81, 82, 83] S S' → ((S'.1 54 25) = (S.1 54 25) + 1) → ((S'.1 54 30) = (S.1 54 30) + 1) → (PW S') → (BW S') → (0 ≤ (S'.2 75) a1) → (((S'.1 54 32) = (S.1 54 32) ∧ ((S'.1 54 39) = 3001 ∨ (S.1 54 39) + 4 ≤ (S'.1 54 39))) ∨ ((S'.1 54 32) = (S.1 54 32) + 1 ∧ ((S'.1 54 39) = 3001 ∨ (S.1 54 39) + 3 ≤ (S'.1 54 39)) ∧ (S'.2 77) ((S.1 54 32)) = a1 ∧ (S'.2 78) ((S.1 54 32)) = (S.1 54 25) ∧ (S'.2 79) ((S.1 54 32)) = a3 ∧ (S'.2 80) ((S.1 54 32)) = 0 ∧ (S'.2 81) ((S.1 54 32)) = 0 ∧ (S'.2 82) ((S.1 54 32)) = -2)) → ((S.1 54 39) ≤ (S'.1 54 39)) → (∀ x, x = (S.1 54 32) ∨ (S'.2 77) x = (S.2 77) x) → (∀ x, x = (S.1 54 32) ∨ (S'.2 78) x = (S.2 78) x) → (∀ x, x = (S.1 54 32) ∨ (S'.2 79) x = (S.2 79) x) → (∀ x, x = (S.1 54 32) ∨ (S'.2 80) x = (S.2 80) x) → (∀ x, x = (S.1 54 32) ∨ (S'.2 81) x = (S.2 81) x) → (∀ x, x = (S.1 54 32) ∨ (S'.2 82) x = (S.2 82) x) → (0 ≤ (S.2 56) ((S.2 68) a1)) → K r S') : wX11_begin a1 a2 a3 a4 a5 S K := by
  unfold wX11_begin
  intro g1 g2 g3 g4 g5
  refine ⟨by omega, by omega, ?_⟩
  intro q1
  intro x6 hx6
  subst hx6
  have hk0 := p11 a1
  refine tX11_element (by omega) (by omega) (by omega) (by omega) (p10) (p11) (fun r11 S11 hS11 n11_0 n11_1 n11_2 n11_3 => ?_)
  intro q2
  have e3 : S11.1 54 30 = S.1 54 30 := hS11.1 30 (by decide)
  refine ⟨by omega, ?_⟩
  intro S23 hS23e
  have hS23 : Ch [30] [] S11 S23 := Ch_I hS23e
  have hS23v : S23.1 54 30 = (S11.1 54 30 + 1) := pI_at hS23e
  refine ⟨by omega, by omega, ?_⟩
  intro q4
  have e5 : S23.2 75 (a1) = S11.2 75 (a1) := congrFun (hS23.2 75 (by decide)) _
  have e6 : S11.2 75 (a1) = S.2 75 (a1) := congrFun (hS11.2 75 (by decide)) _
  refine ⟨fun h34 => ?_, fun h34 => ?_⟩
  · unfold wX11_begin_55
    have e7 : S23.1 54 39 = S11.1 54 39 := hS23.1 39 (by decide)
    have e8 : S11.1 54 39 = S.1 54 39 := hS11.1 39 (by decide)
    refine tX11_put  (fun r58 S58 hS58 n58_0 => ?_)
    refine ⟨by omega, ?_⟩
    have e9 : S58.2 57 (a3) = S23.2 57 (a3) := congrFun (hS58.2 57 (by decide)) _
    have e10 : S23.2 57 (a3) = S11.2 57 (a3) := congrFun (hS23.2 57 (by decide)) _
    have e11 : S11.2 57 (a3) = S.2 57 (a3) := congrFun (hS11.2 57 (by decide)) _
    refine tX11_putName (by omega) (fun r63 S63 hS63 n63_0 n63_1 => ?_)
    refine ⟨by omega, ?_⟩
    refine ⟨fun h68 => ?_, fun h68 => ?_⟩
    · unfold wX11_begin_106
      refine ⟨by omega, ?_⟩
      refine ⟨fun h109 => ?_, fun h109 => ?_⟩
      · unfold wX11_begin_140
        have e12 : S63.1 54 25 = S58.1 54 25 := hS63.1 25 (by decide)
        have e13 : S58.1 54 25 = S23.1 54 25 := hS58.1 25 (by decide)
        have e14 : S23.1 54 25 = S11.1 54 25 := hS23.1 25 (by decide)
        have e15 : S63.1 54 30 = S58.1 54 30 := hS63.1 30 (by decide)
        have e16 : S58.1 54 30 = S23.1 54 30 := hS58.1 30 (by decide)
        have e17 : S63.2 75 a1 = S58.2 75 a1 := congrFun (hS63.2 75 (by decide)) _
        have e18 : S58.2 75 a1 = S23.2 75 a1 := congrFun (hS58.2 75 (by decide)) _
        have e19 : S23.2 75 a1 = S11.2 75 a1 := congrFun (hS23.2 75 (by decide)) _
        have e20 : S11.2 75 a1 = S.2 75 a1 := congrFun (hS11.2 75 (by decide)) _
        exact tX11_begin_143 g1 g2 g3 g4 g5 p1 p2 p3 p4 p5 p6 p7 p8 p9 p10 p11 p12 p13 (Ch.wk (Ch.tr (Ch.tr (Ch.tr hS11 hS23) hS58) hS63) (by decide) (by decide)) (by omega) (by omega) (by omega) (by omega) (by omega) (by omega) (by omega) (PW.mv n11_2 (((Ch.tr (Ch.tr hS23 hS58) hS63)).1 25 (by decide)) (((Ch.tr (Ch.tr hS23 hS58) hS63)).2 72 (by decide))) (by
              unfold BW
              intro x
              have e21 : S63.2 75 x = S58.2 75 x := congrFun (hS63.2 75 (by decide)) _
              have e22 : S58.2 75 x = S23.2 75 x := congrFun (hS58.2 75 (by decide)) _
              have e23 : S23.2 75 x = S11.2 75 x := congrFun (hS23.2 75 (by decide)) _
              have e24 : S11.2 75 x = S.2 75 x := congrFun (hS11.2 75 (by decide)) _
              have e25 := p11 x
              omega) (by omega) (by omega) hK
      · refine tX11_putAttribute  (fun r121 S121 hS121 n121_0 n121_1 => ?_)
        refine ⟨by omega, by omega, ?_⟩
        intro q26
        have e27 : S121.2 76 (a1) = S63.2 76 (a1) := congrFun (hS121.2 76 (by decide)) _
        have e28 : S63.2 76 (a1) = S58.2 76 (a1) := congrFun (hS63.2 76 (by decide)) _
        have e29 : S58.2 76 (a1) = S23.2 76 (a1) := congrFun (hS58.2 76 (by decide)) _
        have e30 : S23.2 76 (a1) = S11.2 76 (a1) := congrFun (hS23.2 76 (by decide)) _
        have e31 : S11.2 76 (a1) = S.2 76 (a1) := congrFun (hS11.2 76 (by decide)) _
        refine tX11_putNumber  (fun r131 S131 hS131 n131_0 => ?_)
        refine tX11_put  (fun r137 S137 hS137 n137_0 => ?_)
        unfold wX11_begin_140
        have e32 : S137.1 54 25 = S131.1 54 25 := hS137.1 25 (by decide)
        have e33 : S131.1 54 25 = S121.1 54 25 := hS131.1 25 (by decide)
        have e34 : S121.1 54 25 = S63.1 54 25 := hS121.1 25 (by decide)
        have e35 : S63.1 54 25 = S58.1 54 25 := hS63.1 25 (by decide)
        have e36 : S58.1 54 25 = S23.1 54 25 := hS58.1 25 (by decide)
        have e37 : S23.1 54 25 = S11.1 54 25 := hS23.1 25 (by decide)
        have e38 : S137.1 54 30 = S131.1 54 30 := hS137.1 30 (by decide)
        have e39 : S131.1 54 30 = S121.1 54 30 := hS131.1 30 (by decide)
        have e40 : S121.1 54 30 = S63.1 54 30 := hS121.1 30 (by decide)
        have e41 : S63.1 54 30 = S58.1 54 30 := hS63.1 30 (by decide)
        have e42 : S58.1 54 30 = S23.1 54 30 := hS58.1 30 (by decide)
        have e43 : S137.2 75 a1 = S131.2 75 a1 := congrFun (hS137.2 75 (by decide)) _
        have e44 : S131.2 75 a1 = S121.2 75 a1 := congrFun (hS131.2 75 (by decide)) _
        have e45 : S121.2 75 a1 = S63.2 75 a1 := congrFun (hS121.2 75 (by decide)) _
        have e46 : S63.2 75 a1 = S58.2 75 a1 := congrFun (hS63.2 75 (by decide)) _
        have e47 : S58.2 75 a1 = S23.2 75 a1 := congrFun (hS58.2 75 (by decide)) _
        have e48 : S23.2 75 a1 = S11.2 75 a1 := congrFun (hS23.2 75 (by decide)) _
        have e49 : S11.2 75 a1 = S.2 75 a1 := congrFun (hS11.2 75 (by decide)) _
        exact tX11_begin_143 g1 g2 g3 g4 g5 p1 p2 p3 p4 p5 p6 p7 p8 p9 p10 p11 p12 p13 (Ch.wk (Ch.tr (Ch.tr (Ch.tr (Ch.tr (Ch.tr (Ch.tr hS11 hS23) hS58) hS63) hS121) hS131) hS137) (by decide) (by decide)) (by omega) (by omega) (by omega) (by omega) (by omega) (by omega) (by omega) (PW.mv n11_2 (((Ch.tr (Ch.tr (Ch.tr (Ch.tr (Ch.tr hS23 hS58) hS63) hS121) hS131) hS137)).1 25 (by decide)) (((Ch.tr (Ch.tr (Ch.tr (Ch.tr (Ch.tr hS23 hS58) hS63) hS121) hS131) hS137)).2 72 (by decide))) (by
              unfold BW
              intro x
              have e50 : S137.2 75 x = S131.2 75 x := congrFun (hS137.2 75 (by decide)) _
              have e51 : S131.2 75 x = S121.2 75 x := congrFun (hS131.2 75 (by decide)) _
              have e52 : S121.2 75 x = S63.2 75 x := congrFun (hS121.2 75 (by decide)) _
              have e53 : S63.2 75 x = S58.2 75 x := congrFun (hS63.2 75 (by decide)) _
              have e54 : S58.2 75 x = S23.2 75 x := congrFun (hS58.2 75 (by decide)) _
              have e55 : S23.2 75 x = S11.2 75 x := congrFun (hS23.2 75 (by decide)) _
              have e56 : S11.2 75 x = S.2 75 x := congrFun (hS11.2 75 (by decide)) _
              have e57 := p11 x
              omega) (by omega) (by omega) hK
    · refine tX11_putAttribute  (fun r80 S80 hS80 n80_0 n80_1 => ?_)
      refine tX11_putWord  (fun r91 S91 hS91 n91_0 n91_1 n91_2 => ?_)
      refine ⟨by omega, ?_⟩
      have e58 : S91.2 57 ((S91.2 68 (a1))) = S80.2 57 ((S91.2 68 (a1))) := congrFun (hS91.2 57 (by decide)) _
      have e59 : S80.2 57 ((S91.2 68 (a1))) = S63.2 57 ((S91.2 68 (a1))) := congrFun (hS80.2 57 (by decide)) _
      have e60 : S63.2 57 ((S91.2 68 (a1))) = S58.2 57 ((S91.2 68 (a1))) := congrFun (hS63.2 57 (by decide)) _
      have e61 : S58.2 57 ((S91.2 68 (a1))) = S23.2 57 ((S91.2 68 (a1))) := congrFun (hS58.2 57 (by decide)) _
      have e62 : S23.2 57 ((S91.2 68 (a1))) = S11.2 57 ((S91.2 68 (a1))) := congrFun (hS23.2 57 (by decide)) _
      have e63 : S11.2 57 ((S91.2 68 (a1))) = S.2 57 ((S91.2 68 (a1))) := congrFun (hS11.2 57 (by decide)) _
      refine tX11_putName (by omega) (fun r97 S97 hS97 n97_0 n97_1 => ?_)
      refine tX11_put  (fun r103 S103 hS103 n103_0 => ?_)
      unfold wX11_begin_106
      refine ⟨by omega, ?_⟩
      refine ⟨fun h109 => ?_, fun h109 => ?_⟩
      · unfold wX11_begin_140
        have e64 : S103.1 54 25 = S97.1 54 25 := hS103.1 25 (by decide)
        have e65 : S97.1 54 25 = S91.1 54 25 := hS97.1 25 (by decide)
        have e66 : S91.1 54 25 = S80.1 54 25 := hS91.1 25 (by decide)
        have e67 : S80.1 54 25 = S63.1 54 25 := hS80.1 25 (by decide)
        have e68 : S63.1 54 25 = S58.1 54 25 := hS63.1 25 (by decide)
        have e69 : S58.1 54 25 = S23.1 54 25 := hS58.1 25 (by decide)
        have e70 : S23.1 54 25 = S11.1 54 25 := hS23.1 25 (by decide)
        have e71 : S103.1 54 30 = S97.1 54 30 := hS103.1 30 (by decide)
        have e72 : S97.1 54 30 = S91.1 54 30 := hS97.1 30 (by decide)
        have e73 : S91.1 54 30 = S80.1 54 30 := hS91.1 30 (by decide)
        have e74 : S80.1 54 30 = S63.1 54 30 := hS80.1 30 (by decide)
        have e75 : S63.1 54 30 = S58.1 54 30 := hS63.1 30 (by decide)
        have e76 : S58.1 54 30 = S23.1 54 30 := hS58.1 30 (by decide)
        have e77 : S103.2 75 a1 = S97.2 75 a1 := congrFun (hS103.2 75 (by decide)) _
        have e78 : S97.2 75 a1 = S91.2 75 a1 := congrFun (hS97.2 75 (by decide)) _
        have e79 : S91.2 75 a1 = S80.2 75 a1 := congrFun (hS91.2 75 (by decide)) _
        have e80 : S80.2 75 a1 = S63.2 75 a1 := congrFun (hS80.2 75 (by decide)) _
        have e81 : S63.2 75 a1 = S58.2 75 a1 := congrFun (hS63.2 75 (by decide)) _
        have e82 : S58.2 75 a1 = S23.2 75 a1 := congrFun (hS58.2 75 (by decide)) _
        have e83 : S23.2 75 a1 = S11.2 75 a1 := congrFun (hS23.2 75 (by decide)) _
        have e84 : S11.2 75 a1 = S.2 75 a1 := congrFun (hS11.2 75 (by decide)) _
        exact tX11_begin_143 g1 g2 g3 g4 g5 p1 p2 p3 p4 p5 p6 p7 p8 p9 p10 p11 p12 p13 (Ch.wk (Ch.tr (Ch.tr (Ch.tr (Ch.tr (Ch.tr (Ch.tr (Ch.tr hS11 hS23) hS58) hS63) hS80) hS91) hS97) hS103) (by decide) (by decide)) (by omega) (by omega) (by omega) (by omega) (by omega) (by omega) (by omega) (PW.mv n11_2 (((Ch.tr (Ch.tr (Ch.tr (Ch.tr (Ch.tr (Ch.tr hS23 hS58) hS63) hS80) hS91) hS97) hS103)).1 25 (by decide)) (((Ch.tr (Ch.tr (Ch.tr (Ch.tr (Ch.tr (Ch.tr hS23 hS58) hS63) hS80) hS91) hS97) hS103)).2 72 (by decide))) (by
              unfold BW
              intro x
              have e85 : S103.2 75 x = S97.2 75 x := congrFun (hS103.2 75 (by decide)) _
              have e86 : S97.2 75 x = S91.2 75 x := congrFun (hS97.2 75 (by decide)) _
              have e87 : S91.2 75 x = S80.2 75 x := congrFun (hS91.2 75 (by decide)) _
              have e88 : S80.2 75 x = S63.2 75 x := congrFun (hS80.2 75 (by decide)) _
              have e89 : S63.2 75 x = S58.2 75 x := congrFun (hS63.2 75 (by decide)) _
              have e90 : S58.2 75 x = S23.2 75 x := congrFun (hS58.2 75 (by decide)) _
              have e91 : S23.2 75 x = S11.2 75 x := congrFun (hS23.2 75 (by decide)) _
              have e92 : S11.2 75 x = S.2 75 x := congrFun (hS11.2 75 (by decide)) _
              have e93 := p11 x
              omega) (by omega) (by omega) hK
      · refine tX11_putAttribute  (fun r121 S121 hS121 n121_0 n121_1 => ?_)
        refine ⟨by omega, by omega, ?_⟩
        intro q94
        have e95 : S121.2 76 (a1) = S103.2 76 (a1) := congrFun (hS121.2 76 (by decide)) _
        have e96 : S103.2 76 (a1) = S97.2 76 (a1) := congrFun (hS103.2 76 (by decide)) _
        have e97 : S97.2 76 (a1) = S91.2 76 (a1) := congrFun (hS97.2 76 (by decide)) _
        have e98 : S91.2 76 (a1) = S80.2 76 (a1) := congrFun (hS91.2 76 (by decide)) _
        have e99 : S80.2 76 (a1) = S63.2 76 (a1) := congrFun (hS80.2 76 (by decide)) _
        have e100 : S63.2 76 (a1) = S58.2 76 (a1) := congrFun (hS63.2 76 (by decide)) _
        have e101 : S58.2 76 (a1) = S23.2 76 (a1) := congrFun (hS58.2 76 (by decide)) _
        have e102 : S23.2 76 (a1) = S11.2 76 (a1) := congrFun (hS23.2 76 (by decide)) _
        have e103 : S11.2 76 (a1) = S.2 76 (a1) := congrFun (hS11.2 76 (by decide)) _
        refine tX11_putNumber  (fun r131 S131 hS131 n131_0 => ?_)
        refine tX11_put  (fun r137 S137 hS137 n137_0 => ?_)
        unfold wX11_begin_140
        have e104 : S137.1 54 25 = S131.1 54 25 := hS137.1 25 (by decide)
        have e105 : S131.1 54 25 = S121.1 54 25 := hS131.1 25 (by decide)
        have e106 : S121.1 54 25 = S103.1 54 25 := hS121.1 25 (by decide)
        have e107 : S103.1 54 25 = S97.1 54 25 := hS103.1 25 (by decide)
        have e108 : S97.1 54 25 = S91.1 54 25 := hS97.1 25 (by decide)
        have e109 : S91.1 54 25 = S80.1 54 25 := hS91.1 25 (by decide)
        have e110 : S80.1 54 25 = S63.1 54 25 := hS80.1 25 (by decide)
        have e111 : S63.1 54 25 = S58.1 54 25 := hS63.1 25 (by decide)
        have e112 : S58.1 54 25 = S23.1 54 25 := hS58.1 25 (by decide)
        have e113 : S23.1 54 25 = S11.1 54 25 := hS23.1 25 (by decide)
        have e114 : S137.1 54 30 = S131.1 54 30 := hS137.1 30 (by decide)
        have e115 : S131.1 54 30 = S121.1 54 30 := hS131.1 30 (by decide)
        have e116 : S121.1 54 30 = S103.1 54 30 := hS121.1 30 (by decide)
        have e117 : S103.1 54 30 = S97.1 54 30 := hS103.1 30 (by decide)
        have e118 : S97.1 54 30 = S91.1 54 30 := hS97.1 30 (by decide)
        have e119 : S91.1 54 30 = S80.1 54 30 := hS91.1 30 (by decide)
        have e120 : S80.1 54 30 = S63.1 54 30 := hS80.1 30 (by decide)
        have e121 : S63.1 54 30 = S58.1 54 30 := hS63.1 30 (by decide)
        have e122 : S58.1 54 30 = S23.1 54 30 := hS58.1 30 (by decide)
        have e123 : S137.2 75 a1 = S131.2 75 a1 := congrFun (hS137.2 75 (by decide)) _
        have e124 : S131.2 75 a1 = S121.2 75 a1 := congrFun (hS131.2 75 (by decide)) _
        have e125 : S121.2 75 a1 = S103.2 75 a1 := congrFun (hS121.2 75 (by decide)) _
        have e126 : S103.2 75 a1 = S97.2 75 a1 := congrFun (hS103.2 75 (by decide)) _
        have e127 : S97.2 75 a1 = S91.2 75 a1 := congrFun (hS97.2 75 (by decide)) _
        have e128 : S91.2 75 a1 = S80.2 75 a1 := congrFun (hS91.2 75 (by decide)) _
        have e129 : S80.2 75 a1 = S63.2 75 a1 := congrFun (hS80.2 75 (by decide)) _
        have e130 : S63.2 75 a1 = S58.2 75 a1 := congrFun (hS63.2 75 (by decide)) _
        have e131 : S58.2 75 a1 = S23.2 75 a1 := congrFun (hS58.2 75 (by decide)) _
        have e132 : S23.2 75 a1 = S11.2 75 a1 := congrFun (hS23.2 75 (by decide)) _
        have e133 : S11.2 75 a1 = S.2 75 a1 := congrFun (hS11.2 75 (by decide)) _
        exact tX11_begin_143 g1 g2 g3 g4 g5 p1 p2 p3 p4 p5 p6 p7 p8 p9 p10 p11 p12 p13 (Ch.wk (Ch.tr (Ch.tr (Ch.tr (Ch.tr (Ch.tr (Ch.tr (Ch.tr (Ch.tr (Ch.tr (Ch.tr hS11 hS23) hS58) hS63) hS80) hS91) hS97) hS103) hS121) hS131) hS137) (by decide) (by decide)) (by omega) (by omega) (by omega) (by omega) (by omega) (by omega) (by omega) (PW.mv n11_2 (((Ch.tr (Ch.tr (Ch.tr (Ch.tr (Ch.tr (Ch.tr (Ch.tr (Ch.tr (Ch.tr hS23 hS58) hS63) hS80) hS91) hS97) hS103) hS121) hS131) hS137)).1 25 (by decide)) (((Ch.tr (Ch.tr (Ch.tr (Ch.tr (Ch.tr (Ch.tr (Ch.tr (Ch.tr (Ch.tr hS23 hS58) hS63) hS80) hS91) hS97) hS103) hS121) hS131) hS137)).2 72 (by decide))) (by
              unfold BW
              intro x
              have e134 : S137.2 75 x = S131.2 75 x := congrFun (hS137.2 75 (by decide)) _
              have e135 : S131.2 75 x = S121.2 75 x := congrFun (hS131.2 75 (by decide)) _
              have e136 : S121.2 75 x = S103.2 75 x := congrFun (hS121.2 75 (by decide)) _
              have e137 : S103.2 75 x = S97.2 75 x := congrFun (hS103.2 75 (by decide)) _
              have e138 : S97.2 75 x = S91.2 75 x := congrFun (hS97.2 75 (by decide)) _
              have e139 : S91.2 75 x = S80.2 75 x := congrFun (hS91.2 75 (by decide)) _
              have e140 : S80.2 75 x = S63.2 75 x := congrFun (hS80.2 75 (by decide)) _
              have e141 : S63.2 75 x = S58.2 75 x := congrFun (hS63.2 75 (by decide)) _
              have e142 : S58.2 75 x = S23.2 75 x := congrFun (hS58.2 75 (by decide)) _
              have e143 : S23.2 75 x = S11.2 75 x := congrFun (hS23.2 75 (by decide)) _
              have e144 : S11.2 75 x = S.2 75 x := congrFun (hS11.2 75 (by decide)) _
              have e145 := p11 x
              omega) (by omega) (by omega) hK
  · refine ⟨by omega, by omega, ?_⟩
    refine ⟨by omega, ?_⟩
    intro S44 hS44e
    have hS44 : Ch [] [75] S23 S44 := Ch_A hS44e
    have hS44v : ∀ x, S44.2 75 x = if x = a1 then r11 else S23.2 75 x := pA_at hS44e
    intro q146
    have e147 : S44.1 54 30 = S23.1 54 30 := hS44.1 30 (by decide)
    refine ⟨by omega, by omega, ?_⟩
    intro S54 hS54e
    have hS54 : Ch [] [76] S44 S54 := Ch_A hS54e
    have hS54v : ∀ x, S54.2 76 x = if x = a1 then S44.1 54 30 else S44.2 76 x := pA_at hS54e
    unfold wX11_begin_55
    have e148 : S54.1 54 39 = S44.1 54 39 := hS54.1 39 (by decide)
    have e149 : S44.1 54 39 = S23.1 54 39 := hS44.1 39 (by decide)
    have e150 : S23.1 54 39 = S11.1 54 39 := hS23.1 39 (by decide)
    have e151 : S11.1 54 39 = S.1 54 39 := hS11.1 39 (by decide)
    refine tX11_put  (fun r58 S58 hS58 n58_0 => ?_)
    refine ⟨by omega, ?_⟩
    have e152 : S58.2 57 (a3) = S54.2 57 (a3) := congrFun (hS58.2 57 (by decide)) _
    have e153 : S54.2 57 (a3) = S44.2 57 (a3) := congrFun (hS54.2 57 (by decide)) _
    have e154 : S44.2 57 (a3) = S23.2 57 (a3) := congrFun (hS44.2 57 (by decide)) _
    have e155 : S23.2 57 (a3) = S11.2 57 (a3) := congrFun (hS23.2 57 (by decide)) _
    have e156 : S11.2 57 (a3) = S.2 57 (a3) := congrFun (hS11.2 57 (by decide)) _
    refine tX11_putName (by omega) (fun r63 S63 hS63 n63_0 n63_1 => ?_)
    refine ⟨by omega, ?_⟩
    refine ⟨fun h68 => ?_, fun h68 => ?_⟩
    · unfold wX11_begin_106
      refine ⟨by omega, ?_⟩
      refine ⟨fun h109 => ?_, fun h109 => ?_⟩
      · unfold wX11_begin_140
        have e157 : S63.1 54 25 = S58.1 54 25 := hS63.1 25 (by decide)
        have e158 : S58.1 54 25 = S54.1 54 25 := hS58.1 25 (by decide)
        have e159 : S54.1 54 25 = S44.1 54 25 := hS54.1 25 (by decide)
        have e160 : S44.1 54 25 = S23.1 54 25 := hS44.1 25 (by decide)
        have e161 : S23.1 54 25 = S11.1 54 25 := hS23.1 25 (by decide)
        have e162 : S63.1 54 30 = S58.1 54 30 := hS63.1 30 (by decide)
        have e163 : S58.1 54 30 = S54.1 54 30 := hS58.1 30 (by decide)
        have e164 : S54.1 54 30 = S44.1 54 30 := hS54.1 30 (by decide)
        have e165 : S44.1 54 30 = S23.1 54 30 := hS44.1 30 (by decide)
        have e166 : S63.2 75 a1 = S58.2 75 a1 := congrFun (hS63.2 75 (by decide)) _
        have e167 : S58.2 75 a1 = S54.2 75 a1 := congrFun (hS58.2 75 (by decide)) _
        have e168 : S54.2 75 a1 = S44.2 75 a1 := congrFun (hS54.2 75 (by decide)) _
        have e169 := hS44v a1
        have e170 : S23.2 75 a1 = S11.2 75 a1 := congrFun (hS23.2 75 (by decide)) _
        have e171 : S11.2 75 a1 = S.2 75 a1 := congrFun (hS11.2 75 (by decide)) _
        exact tX11_begin_143 g1 g2 g3 g4 g5 p1 p2 p3 p4 p5 p6 p7 p8 p9 p10 p11 p12 p13 (Ch.wk (Ch.tr (Ch.tr (Ch.tr (Ch.tr (Ch.tr hS11 hS23) hS44) hS54) hS58) hS63) (by decide) (by decide)) (by omega) (by omega) (by omega) (by omega) (by omega) (by omega) (by omega) (PW.mv n11_2 (((Ch.tr (Ch.tr (Ch.tr (Ch.tr hS23 hS44) hS54) hS58) hS63)).1 25 (by decide)) (((Ch.tr (Ch.tr (Ch.tr (Ch.tr hS23 hS44) hS54) hS58) hS63)).2 72 (by decide))) (by
              unfold BW
              intro x
              have e172 : S63.2 75 x = S58.2 75 x := congrFun (hS63.2 75 (by decide)) _
              have e173 : S58.2 75 x = S54.2 75 x := congrFun (hS58.2 75 (by decide)) _
              have e174 : S54.2 75 x = S44.2 75 x := congrFun (hS54.2 75 (by decide)) _
              have e175 := hS44v x
              have e176 : S23.2 75 x = S11.2 75 x := congrFun (hS23.2 75 (by decide)) _
              have e177 : S11.2 75 x = S.2 75 x := congrFun (hS11.2 75 (by decide)) _
              have e178 := p11 x
              omega) (by omega) (by omega) hK
      · refine tX11_putAttribute  (fun r121 S121 hS121 n121_0 n121_1 => ?_)
        refine ⟨by omega, by omega, ?_⟩
        intro q179
        have e180 : S121.2 76 (a1) = S63.2 76 (a1) := congrFun (hS121.2 76 (by decide)) _
        have e181 : S63.2 76 (a1) = S58.2 76 (a1) := congrFun (hS63.2 76 (by decide)) _
        have e182 : S58.2 76 (a1) = S54.2 76 (a1) := congrFun (hS58.2 76 (by decide)) _
        have e183 := hS54v (a1)
        have e184 : S44.2 76 (a1) = S23.2 76 (a1) := congrFun (hS44.2 76 (by decide)) _
        have e185 : S23.2 76 (a1) = S11.2 76 (a1) := congrFun (hS23.2 76 (by decide)) _
        have e186 : S11.2 76 (a1) = S.2 76 (a1) := congrFun (hS11.2 76 (by decide)) _
        refine tX11_putNumber  (fun r131 S131 hS131 n131_0 => ?_)
        refine tX11_put  (fun r137 S137 hS137 n137_0 => ?_)
        unfold wX11_begin_140
        have e187 : S137.1 54 25 = S131.1 54 25 := hS137.1 25 (by decide)
        have e188 : S131.1 54 25 = S121.1 54 25 := hS131.1 25 (by decide)
        have e189 : S121.1 54 25 = S63.1 54 25 := hS121.1 25 (by decide)
        have e190 : S63.1 54 25 = S58.1 54 25 := hS63.1 25 (by decide)
        have e191 : S58.1 54 25 = S54.1 54 25 := hS58.1 25 (by decide)
        have e192 : S54.1 54 25 = S44.1 54 25 := hS54.1 25 (by decide)
        have e193 : S44.1 54 25 = S23.1 54 25 := hS44.1 25 (by decide)
        have e194 : S23.1 54 25 = S11.1 54 25 := hS23.1 25 (by decide)
        have e195 : S137.1 54 30 = S131.1 54 30 := hS137.1 30 (by decide)
        have e196 : S131.1 54 30 = S121.1 54 30 := hS131.1 30 (by decide)
        have e197 : S121.1 54 30 = S63.1 54 30 := hS121.1 30 (by decide)
        have e198 : S63.1 54 30 = S58.1 54 30 := hS63.1 30 (by decide)
        have e199 : S58.1 54 30 = S54.1 54 30 := hS58.1 30 (by decide)
        have e200 : S54.1 54 30 = S44.1 54 30 := hS54.1 30 (by decide)
        have e201 : S44.1 54 30 = S23.1 54 30 := hS44.1 30 (by decide)
        have e202 : S137.2 75 a1 = S131.2 75 a1 := congrFun (hS137.2 75 (by decide)) _
        have e203 : S131.2 75 a1 = S121.2 75 a1 := congrFun (hS131.2 75 (by decide)) _
        have e204 : S121.2 75 a1 = S63.2 75 a1 := congrFun (hS121.2 75 (by decide)) _
        have e205 : S63.2 75 a1 = S58.2 75 a1 := congrFun (hS63.2 75 (by decide)) _
        have e206 : S58.2 75 a1 = S54.2 75 a1 := congrFun (hS58.2 75 (by decide)) _
        have e207 : S54.2 75 a1 = S44.2 75 a1 := congrFun (hS54.2 75 (by decide)) _
        have e208 := hS44v a1
        have e209 : S23.2 75 a1 = S11.2 75 a1 := congrFun (hS23.2 75 (by decide)) _
        have e210 : S11.2 75 a1 = S.2 75 a1 := congrFun (hS11.2 75 (by decide)) _
        exact tX11_begin_143 g1 g2 g3 g4 g5 p1 p2 p3 p4 p5 p6 p7 p8 p9 p10 p11 p12 p13 (Ch.wk (Ch.tr (Ch.tr (Ch.tr (Ch.tr (Ch.tr (Ch.tr (Ch.tr (Ch.tr hS11 hS23) hS44) hS54) hS58) hS63) hS121) hS131) hS137) (by decide) (by decide)) (by omega) (by omega) (by omega) (by omega) (by omega) (by omega) (by omega) (PW.mv n11_2 (((Ch.tr (Ch.tr (Ch.tr (Ch.tr (Ch.tr (Ch.tr (Ch.tr hS23 hS44) hS54) hS58) hS63) hS121) hS131) hS137)).1 25 (by decide)) (((Ch.tr (Ch.tr (Ch.tr (Ch.tr (Ch.tr (Ch.tr (Ch.tr hS23 hS44) hS54) hS58) hS63) hS121) hS131) hS137)).2 72 (by decide))) (by
              unfold BW
              intro x
              have e211 : S137.2 75 x = S131.2 75 x := congrFun (hS137.2 75 (by decide)) _
              have e212 : S131.2 75 x = S121.2 75 x := congrFun (hS131.2 75 (by decide)) _
              have e213 : S121.2 75 x = S63.2 75 x := congrFun (hS121.2 75 (by decide)) _
              have e214 : S63.2 75 x = S58.2 75 x := congrFun (hS63.2 75 (by decide)) _
              have e215 : S58.2 75 x = S54.2 75 x := congrFun (hS58.2 75 (by decide)) _
              have e216 : S54.2 75 x = S44.2 75 x := congrFun (hS54.2 75 (by decide)) _
              have e217 := hS44v x
              have e218 : S23.2 75 x = S11.2 75 x := congrFun (hS23.2 75 (by decide)) _
              have e219 : S11.2 75 x = S.2 75 x := congrFun (hS11.2 75 (by decide)) _
              have e220 := p11 x
              omega) (by omega) (by omega) hK
    · refine tX11_putAttribute  (fun r80 S80 hS80 n80_0 n80_1 => ?_)
      refine tX11_putWord  (fun r91 S91 hS91 n91_0 n91_1 n91_2 => ?_)
      refine ⟨by omega, ?_⟩
      have e221 : S91.2 57 ((S91.2 68 (a1))) = S80.2 57 ((S91.2 68 (a1))) := congrFun (hS91.2 57 (by decide)) _
      have e222 : S80.2 57 ((S91.2 68 (a1))) = S63.2 57 ((S91.2 68 (a1))) := congrFun (hS80.2 57 (by decide)) _
      have e223 : S63.2 57 ((S91.2 68 (a1))) = S58.2 57 ((S91.2 68 (a1))) := congrFun (hS63.2 57 (by decide)) _
      have e224 : S58.2 57 ((S91.2 68 (a1))) = S54.2 57 ((S91.2 68 (a1))) := congrFun (hS58.2 57 (by decide)) _
      have e225 : S54.2 57 ((S91.2 68 (a1))) = S44.2 57 ((S91.2 68 (a1))) := congrFun (hS54.2 57 (by decide)) _
      have e226 : S44.2 57 ((S91.2 68 (a1))) = S23.2 57 ((S91.2 68 (a1))) := congrFun (hS44.2 57 (by decide)) _
      have e227 : S23.2 57 ((S91.2 68 (a1))) = S11.2 57 ((S91.2 68 (a1))) := congrFun (hS23.2 57 (by decide)) _
      have e228 : S11.2 57 ((S91.2 68 (a1))) = S.2 57 ((S91.2 68 (a1))) := congrFun (hS11.2 57 (by decide)) _
      refine tX11_putName (by omega) (fun r97 S97 hS97 n97_0 n97_1 => ?_)
      refine tX11_put  (fun r103 S103 hS103 n103_0 => ?_)
      unfold wX11_begin_106
      refine ⟨by omega, ?_⟩
      refine ⟨fun h109 => ?_, fun h109 => ?_⟩
      · unfold wX11_begin_140
        have e229 : S103.1 54 25 = S97.1 54 25 := hS103.1 25 (by decide)
        have e230 : S97.1 54 25 = S91.1 54 25 := hS97.1 25 (by decide)
        have e231 : S91.1 54 25 = S80.1 54 25 := hS91.1 25 (by decide)
        have e232 : S80.1 54 25 = S63.1 54 25 := hS80.1 25 (by decide)
        have e233 : S63.1 54 25 = S58.1 54 25 := hS63.1 25 (by decide)
        have e234 : S58.1 54 25 = S54.1 54 25 := hS58.1 25 (by decide)
        have e235 : S54.1 54 25 = S44.1 54 25 := hS54.1 25 (by decide)
        have e236 : S44.1 54 25 = S23.1 54 25 := hS44.1 25 (by decide)
        have e237 : S23.1 54 25 = S11.1 54 25 := hS23.1 25 (by decide)
        have e238 : S103.1 54 30 = S97.1 54 30 := hS103.1 30 (by decide)
        have e239 : S97.1 54 30 = S91.1 54 30 := hS97.1 30 (by decide)
        have e240 : S91.1 54 30 = S80.1 54 30 := hS91.1 30 (by decide)
        have e241 : S80.1 54 30 = S63.1 54 30 := hS80.1 30 (by decide)
        have e242 : S63.1 54 30 = S58.1 54 30 := hS63.1 30 (by decide)
        have e243 : S58.1 54 30 = S54.1 54 30 := hS58.1 30 (by decide)
        have e244 : S54.1 54 30 = S44.1 54 30 := hS54.1 30 (by decide)
        have e245 : S44.1 54 30 = S23.1 54 30 := hS44.1 30 (by decide)
        have e246 : S103.2 75 a1 = S97.2 75 a1 := congrFun (hS103.2 75 (by decide)) _
        have e247 : S97.2 75 a1 = S91.2 75 a1 := congrFun (hS97.2 75 (by decide)) _
        have e248 : S91.2 75 a1 = S80.2 75 a1 := congrFun (hS91.2 75 (by decide)) _
        have e249 : S80.2 75 a1 = S63.2 75 a1 := congrFun (hS80.2 75 (by decide)) _
        have e250 : S63.2 75 a1 = S58.2 75 a1 := congrFun (hS63.2 75 (by decide)) _
        have e251 : S58.2 75 a1 = S54.2 75 a1 := congrFun (hS58.2 75 (by decide)) _
        have e252 : S54.2 75 a1 = S44.2 75 a1 := congrFun (hS54.2 75 (by decide)) _
        have e253 := hS44v a1
        have e254 : S23.2 75 a1 = S11.2 75 a1 := congrFun (hS23.2 75 (by decide)) _
        have e255 : S11.2 75 a1 = S.2 75 a1 := congrFun (hS11.2 75 (by decide)) _
        exact tX11_begin_143 g1 g2 g3 g4 g5 p1 p2 p3 p4 p5 p6 p7 p8 p9 p10 p11 p12 p13 (Ch.wk (Ch.tr (Ch.tr (Ch.tr (Ch.tr (Ch.tr (Ch.tr (Ch.tr (Ch.tr (Ch.tr hS11 hS23) hS44) hS54) hS58) hS63) hS80) hS91) hS97) hS103) (by decide) (by decide)) (by omega) (by omega) (by omega) (by omega) (by omega) (by omega) (by omega) (PW.mv n11_2 (((Ch.tr (Ch.tr (Ch.tr (Ch.tr (Ch.tr (Ch.tr (Ch.tr (Ch.tr hS23 hS44) hS54) hS58) hS63) hS80) hS91) hS97) hS103)).1 25 (by decide)) (((Ch.tr (Ch.tr (Ch.tr (Ch.tr (Ch.tr (Ch.tr (Ch.tr (Ch.tr hS23 hS44) hS54) hS58) hS63) hS80) hS91) hS97) hS103)).2 72 (by decide))) (by
              unfold BW
              intro x
              have e256 : S103.2 75 x = S97.2 75 x := congrFun (hS103.2 75 (by decide)) _
              have e257 : S97.2 75 x = S91.2 75 x := congrFun (hS97.2 75 (by decide)) _
              have e258 : S91.2 75 x = S80.2 75 x := congrFun (hS91.2 75 (by decide)) _
              have e259 : S80.2 75 x = S63.2 75 x := congrFun (hS80.2 75 (by decide)) _
              have e260 : S63.2 75 x = S58.2 75 x := congrFun (hS63.2 75 (by decide)) _
              have e261 : S58.2 75 x = S54.2 75 x := congrFun (hS58.2 75 (by decide)) _
              have e262 : S54.2 75 x = S44.2 75 x := congrFun (hS54.2 75 (by decide)) _
              have e263 := hS44v x
              have e264 : S23.2 75 x = S11.2 75 x := congrFun (hS23.2 75 (by decide)) _
              have e265 : S11.2 75 x = S.2 75 x := congrFun (hS11.2 75 (by decide)) _
              have e266 := p11 x
              omega) (by omega) (by omega) hK
      · refine tX11_putAttribute  (fun r121 S121 hS121 n121_0 n121_1 => ?_)
        refine ⟨by omega, by omega, ?_⟩
        intro q267
        have e268 : S121.2 76 (a1) = S103.2 76 (a1) := congrFun (hS121.2 76 (by decide)) _
        have e269 : S103.2 76 (a1) = S97.2 76 (a1) := congrFun (hS103.2 76 (by decide)) _
        have e270 : S97.2 76 (a1) = S91.2 76 (a1) := congrFun (hS97.2 76 (by decide)) _
        have e271 : S91.2 76 (a1) = S80.2 76 (a1) := congrFun (hS91.2 76 (by decide)) _
        have e272 : S80.2 76 (a1) = S63.2 76 (a1) := congrFun (hS80.2 76 (by decide)) _
        have e273 : S63.2 76 (a1) = S58.2 76 (a1) := congrFun (hS63.2 76 (by decide)) _
        have e274 : S58.2 76 (a1) = S54.2 76 (a1) := congrFun (hS58.2 76 (by decide)) _
        have e275 := hS54v (a1)
        have e276 : S44.2 76 (a1) = S23.2 76 (a1) := congrFun (hS44.2 76 (by decide)) _
        have e277 : S23.2 76 (a1) = S11.2 76 (a1) := congrFun (hS23.2 76 (by decide)) _
        have e278 : S11.2 76 (a1) = S.2 76 (a1) := congrFun (hS11.2 76 (by decide)) _
        refine tX11_putNumber  (fun r131 S131 hS131 n131_0 => ?_)
        refine tX11_put  (fun r137 S137 hS137 n137_0 => ?_)
        unfold wX11_begin_140
        have e279 : S137.1 54 25 = S131.1 54 25 := hS137.1 25 (by decide)
        have e280 : S131.1 54 25 = S121.1 54 25 := hS131.1 25 (by decide)
        have e281 : S121.1 54 25 = S103.1 54 25 := hS121.1 25 (by decide)
        have e282 : S103.1 54 25 = S97.1 54 25 := hS103.1 25 (by decide)
        have e283 : S97.1 54 25 = S91.1 54 25 := hS97.1 25 (by decide)
        have e284 : S91.1 54 25 = S80.1 54 25 := hS91.1 25 (by decide)
        have e285 : S80.1 54 25 = S63.1 54 25 := hS80.1 25 (by decide)
        have e286 : S63.1 54 25 = S58.1 54 25 := hS63.1 25 (by decide)
        have e287 : S58.1 54 25 = S54.1 54 25 := hS58.1 25 (by decide)
        have e288 : S54.1 54 25 = S44.1 54 25 := hS54.1 25 (by decide)
        have e289 : S44.1 54 25 = S23.1 54 25 := hS44.1 25 (by decide)
        have e290 : S23.1 54 25 = S11.1 54 25 := hS23.1 25 (by decide)
        have e291 : S137.1 54 30 = S131.1 54 30 := hS137.1 30 (by decide)
        have e292 : S131.1 54 30 = S121.1 54 30 := hS131.1 30 (by decide)
        have e293 : S121.1 54 30 = S103.1 54 30 := hS121.1 30 (by decide)
        have e294 : S103.1 54 30 = S97.1 54 30 := hS103.1 30 (by decide)
        have e295 : S97.1 54 30 = S91.1 54 30 := hS97.1 30 (by decide)
        have e296 : S91.1 54 30 = S80.1 54 30 := hS91.1 30 (by decide)
        have e297 : S80.1 54 30 = S63.1 54 30 := hS80.1 30 (by decide)
        have e298 : S63.1 54 30 = S58.1 54 30 := hS63.1 30 (by decide)
        have e299 : S58.1 54 30 = S54.1 54 30 := hS58.1 30 (by decide)
        have e300 : S54.1 54 30 = S44.1 54 30 := hS54.1 30 (by decide)
        have e301 : S44.1 54 30 = S23.1 54 30 := hS44.1 30 (by decide)
        have e302 : S137.2 75 a1 = S131.2 75 a1 := congrFun (hS137.2 75 (by decide)) _
        have e303 : S131.2 75 a1 = S121.2 75 a1 := congrFun (hS131.2 75 (by decide)) _
        have e304 : S121.2 75 a1 = S103.2 75 a1 := congrFun (hS121.2 75 (by decide)) _
        have e305 : S103.2 75 a1 = S97.2 75 a1 := congrFun (hS103.2 75 (by decide)) _
        have e306 : S97.2 75 a1 = S91.2 75 a1 := congrFun (hS97.2 75 (by decide)) _
        have e307 : S91.2 75 a1 = S80.2 75 a1 := congrFun (hS91.2 75 (by decide)) _
        have e308 : S80.2 75 a1 = S63.2 75 a1 := congrFun (hS80.2 75 (by decide)) _
        have e309 : S63.2 75 a1 = S58.2 75 a1 := congrFun (hS63.2 75 (by decide)) _
        have e310 : S58.2 75 a1 = S54.2 75 a1 := congrFun (hS58.2 75 (by decide)) _
        have e311 : S54.2 75 a1 = S44.2 75 a1 := congrFun (hS54.2 75 (by decide)) _
        have e312 := hS44v a1
        have e313 : S23.2 75 a1 = S11.2 75 a1 := congrFun (hS23.2 75 (by decide)) _
        have e314 : S11.2 75 a1 = S.2 75 a1 := congrFun (hS11.2 75 (by decide)) _
        exact tX11_begin_143 g1 g2 g3 g4 g5 p1 p2 p3 p4 p5 p6 p7 p8 p9 p10 p11 p12 p13 (Ch.wk (Ch.tr (Ch.tr (Ch.tr (Ch.tr (Ch.tr (Ch.tr (Ch.tr (Ch.tr (Ch.tr (Ch.tr (Ch.tr (Ch.tr hS11 hS23) hS44) hS54) hS58) hS63) hS80) hS91) hS97) hS103) hS121) hS131) hS137) (by decide) (by decide)) (by omega) (by omega) (by omega) (by omega) (by omega) (by omega) (by omega) (PW.mv n11_2 (((Ch.tr (Ch.tr (Ch.tr (Ch.tr (Ch.tr (Ch.tr (Ch.tr (Ch.tr (Ch.tr (Ch.tr (Ch.tr hS23 hS44) hS54) hS58) hS63) hS80) hS91) hS97) hS103) hS121) hS131) hS137)).1 25 (by decide)) (((Ch.tr (Ch.tr (Ch.tr (Ch.tr (Ch.tr (Ch.tr (Ch.tr (Ch.tr (Ch.tr (Ch.tr (Ch.tr hS23 hS44) hS54) hS58) hS63) hS80) hS91) hS97) hS103) hS121) hS131) hS137)).2 72 (by decide))) (by
              unfold BW
              intro x
              have e315 : S137.2 75 x = S131.2 75 x := congrFun (hS137.2 75 (by decide)) _
              have e316 : S131.2 75 x = S121.2 75 x := congrFun (hS131.2 75 (by decide)) _
              have e317 : S121.2 75 x = S103.2 75 x := congrFun (hS121.2 75 (by decide)) _
              have e318 : S103.2 75 x = S97.2 75 x := congrFun (hS103.2 75 (by decide)) _
              have e319 : S97.2 75 x = S91.2 75 x := congrFun (hS97.2 75 (by decide)) _
              have e320 : S91.2 75 x = S80.2 75 x := congrFun (hS91.2 75 (by decide)) _
              have e321 : S80.2 75 x = S63.2 75 x := congrFun (hS80.2 75 (by decide)) _
              have e322 : S63.2 75 x = S58.2 75 x := congrFun (hS63.2 75 (by decide)) _
              have e323 : S58.2 75 x = S54.2 75 x := congrFun (hS58.2 75 (by decide)) _
              have e324 : S54.2 75 x = S44.2 75 x := congrFun (hS54.2 75 (by decide)) _
              have e325 := hS44v x
              have e326 : S23.2 75 x = S11.2 75 x := congrFun (hS23.2 75 (by decide)) _
              have e327 : S11.2 75 x = S.2 75 x := congrFun (hS11.2 75 (by decide)) _
              have e328 := p11 x
              omega) (by omega) (by omega) hK

set_option maxRecDepth 100000 in
set_option maxHeartbeats 4000000 in
theorem tX11_isAround {a1 a2 : Int} {S : St} {K : Int → St → Prop} (p1 : PW S) (p2 : iv (-2) 899 a2) (p3 : a2 < (S.1 54 25)) (hK : ∀ (r : Int) (S' : St), Ch [] [] S S' → (iv 0 1 r) → K r S') : wX11_isAround a1 a2 S K := by
  unfold wX11_isAround
  intro g1 g2
  unfold wX11_isAround_2
  refine ⟨fun u1 u3 Sx => Ch [] [] S Sx ∧ a1 = u1 ∧ (iv (-2) 899 u3) ∧ (u3 < (S.1 54 25)), fun u1 u3 Sx => (u3 + 3).toNat, ?_, fun v2_1 v2_3 S2h hI => ?_⟩
  · exact ⟨Ch.re, rfl, by omega, by omega⟩
  obtain ⟨hS2h, rfl, i2_0, i2_1⟩ := hI
  unfold wX11_isAround_2'
  refine ⟨by omega, ?_⟩
  refine ⟨fun h3 => ?_, fun h3 => ?_⟩
  · unfold wX11_isAround_21
    refine ⟨by omega, ?_⟩
    refine ⟨by omega, ?_⟩
    refine ⟨fun h23 => ?_, fun h23 => ?_⟩
    · exact hK (0) S2h (Ch.wk hS2h (by decide) (by decide)) (by omega)
    · exact hK (1) S2h (Ch.wk hS2h (by decide) (by decide)) (by omega)
  · refine ⟨by omega, ?_⟩
    refine ⟨fun h8 => ?_, fun h8 => ?_⟩
    · unfold wX11_isAround_21
      refine ⟨by omega, ?_⟩
      refine ⟨by omega, ?_⟩
      refine ⟨fun h23 => ?_, fun h23 => ?_⟩
      · exact hK (0) S2h (Ch.wk hS2h (by decide) (by decide)) (by omega)
      · exact hK (1) S2h (Ch.wk hS2h (by decide) (by decide)) (by omega)
    · have hpw := p1 (v2_3)
      refine ⟨by omega, by omega, ?_⟩
      intro q1
      have e2 : S2h.2 72 (v2_3) = S.2 72 (v2_3) := congrFun (hS2h.2 72 (by decide)) _
      intro x17 hx17
      subst hx17
      exact ⟨⟨(Ch.wk hS2h (by decide) (by decide)), rfl, by omega, by omega⟩, show (((S2h.2 72 (v2_3))) + 3).toNat < (v2_3 + 3).toNat by omega⟩

set_option maxRecDepth 100000 in
set_option maxHeartbeats 4000000 in
theorem tX11_putStep {a1 : Int} {S : St} {K : Int → St → Prop} (p1 : iv 0 899 a1) (hK : ∀ (r : Int) (S' : St), Ch [39] [83] S S' → ((S.1 54 39) ≤ (S'.1 54 39)) → K r S') : wX11_putStep a1 S K := by
  unfold wX11_putStep
  intro g1
  refine ⟨by omega, by omega, ?_⟩
  intro q1
  refine tX11_putName (by omega) (fun r7 S7 hS7 n7_0 n7_1 => ?_)
  refine ⟨by omega, by omega, ?_⟩
  intro q2
  have e3 : S7.2 74 (a1) = S.2 74 (a1) := congrFun (hS7.2 74 (by decide)) _
  refine ⟨fun h17 => ?_, fun h17 => ?_⟩
  · exact hK (0) S7 (Ch.wk hS7 (by decide) (by decide)) (by omega)
  · refine tX11_put  (fun r23 S23 hS23 n23_0 => ?_)
    refine ⟨by omega, by omega, ?_⟩
    intro q4
    have e5 : S23.2 74 (a1) = S7.2 74 (a1) := congrFun (hS23.2 74 (by decide)) _
    have e6 : S7.2 74 (a1) = S.2 74 (a1) := congrFun (hS7.2 74 (by decide)) _
    refine tX11_putNumber  (fun r33 S33 hS33 n33_0 => ?_)
    refine tX11_put  (fun r39 S39 hS39 n39_0 => ?_)
    exact hK (0) S39 (Ch.wk (Ch.tr (Ch.tr (Ch.tr hS7 hS23) hS33) hS39) (by decide) (by decide)) (by omega)

set_option maxRecDepth 100000 in
set_option maxHeartbeats 4000000 in
theorem tX11_putSteps {a1 a2 a3 : Int} {S : St} {K : Int → St → Prop} (p1 : PW S) (p2 : iv 0 899 a1) (p3 : a1 < (S.1 54 25)) (p4 : iv (-2) 899 a2) (p5 : a2 < (S.1 54 25)) (p6 : iv 0 1 a3) (hK : ∀ (r : Int) (S' : St), Ch [39] [83] S S' → ((S.1 54 39) ≤ (S'.1 54 39)) → K r S') : wX11_putSteps a1 a2 a3 S K := by
  unfold wX11_putSteps
  intro g1 g2 g3
  unfold wX11_putSteps_6
  refine ⟨fun u1 u2 u3 u4 u5 Sx => Ch [] [] S Sx ∧ a1 = u1 ∧ a2 = u2 ∧ a3 = u3 ∧ (iv (-2) 899 u5) ∧ (u5 < (S.1 54 25)) ∧ (0 ≤ u4) ∧ (u4 ≤ a1 + 1) ∧ (u5 < 0 ∨ u4 + u5 ≤ a1) ∧ (u5 = itp S a1 u4.toNat) ∧ (∀ x, x < 0 ∨ u4 ≤ x ∨ 0 ≤ itp S a1 x.toNat), fun u1 u2 u3 u4 u5 Sx => (u5 + 3).toNat, ?_, fun v6_1 v6_2 v6_3 v6_4 v6_5 S6h hI => ?_⟩
  · exact ⟨Ch.re, rfl, rfl, rfl, by omega, by omega, by omega, by omega, by omega, rfl, (by
        intro x
        omega)⟩
  obtain ⟨hS6h, rfl, rfl, rfl, i6_0, i6_1, i6_2, i6_3, i6_4, i6_5, i6_6⟩ := hI
  unfold wX11_putSteps_6'
  refine ⟨by omega, ?_⟩
  refine ⟨fun h8 => ?_, fun h8 => ?_⟩
  · intro x33 hx33
    subst hx33
    unfold wX11_putSteps_35
    have e1 : S6h.1 54 39 = S.1 54 39 := hS6h.1 39 (by decide)
    refine ⟨fun u1 u2 u5 u6 Sx => Ch [39] [83] S6h Sx ∧ a1 = u1 ∧ a2 = u2 ∧ (-1 ≤ u6) ∧ (u6 ≤ a1) ∧ (iv 0 1 u5) ∧ (∀ x, x < 0 ∨ u6 < x ∨ 0 ≤ itp S a1 x.toNat) ∧ ((S.1 54 39) ≤ (Sx.1 54 39)), fun u1 u2 u5 u6 Sx => (u6 + 2).toNat, ?_, fun v35_1 v35_2 v35_5 v35_6 S35h hI => ?_⟩
    · exact ⟨Ch.re, rfl, rfl, by omega, by omega, by omega, (by
          intro x
          have e2 := i6_6 x
          omega), by omega⟩
    obtain ⟨hS35h, rfl, rfl, i35_0, i35_1, i35_2, i35_3, i35_4⟩ := hI
    unfold wX11_putSteps_35'
    refine ⟨by omega, ?_⟩
    refine ⟨fun h37 => ?_, fun h37 => ?_⟩
    · exact hK (0) S35h (Ch.wk (Ch.tr hS6h hS35h) (by decide) (by decide)) (by omega)
    · unfold wX11_putSteps_46
      refine ⟨fun u1 u2 u5 u6 u7 u8 Sx => Ch [] [] S35h Sx ∧ a1 = u1 ∧ a2 = u2 ∧ v35_5 = u5 ∧ v35_6 = u6 ∧ (0 ≤ u8) ∧ (u8 ≤ u6) ∧ (iv (-2) 899 u7) ∧ (u7 = itp S a1 u8.toNat), fun u1 u2 u5 u6 u7 u8 Sx => (u6 - u8 + 1).toNat, ?_, fun v46_1 v46_2 v46_5 v46_6 v46_7 v46_8 S46h hI => ?_⟩
      · exact ⟨Ch.re, rfl, rfl, rfl, rfl, by omega, by omega, by omega, rfl⟩
      obtain ⟨hS46h, rfl, rfl, rfl, rfl, i46_0, i46_1, i46_2, i46_3⟩ := hI
      unfold wX11_putSteps_46'
      refine ⟨by omega, ?_⟩
      refine ⟨by omega, ?_⟩
      refine ⟨fun h50 => ?_, fun h50 => ?_⟩
      · have hx := i35_3 v46_8
        refine ⟨by omega, ?_⟩
        refine ⟨fun h71 => ?_, fun h71 => ?_⟩
        · unfold wX11_putSteps_84
          refine ⟨by omega, ?_⟩
          refine ⟨fun h86 => ?_, fun h86 => ?_⟩
          · unfold wX11_putSteps_95
            refine ⟨by omega, ?_⟩
            have e3 : S46h.1 54 39 = S35h.1 54 39 := hS46h.1 39 (by decide)
            refine tX11_putStep (by omega) (fun r98 S98 hS98 n98_0 => ?_)
            unfold wX11_putSteps_104
            exact ⟨⟨(Ch.wk (Ch.tr (Ch.tr hS35h hS46h) hS98) (by decide) (by decide)), rfl, rfl, by omega, by omega, by omega, (by
                  intro x
                  have e4 := i35_3 x
                  omega), by omega⟩, show (((v35_6 + (-1))) + 2).toNat < (v35_6 + 2).toNat by omega⟩
          · have e5 : S46h.1 54 39 = S35h.1 54 39 := hS46h.1 39 (by decide)
            refine tX11_put  (fun r92 S92 hS92 n92_0 => ?_)
            unfold wX11_putSteps_95
            refine ⟨by omega, ?_⟩
            refine tX11_putStep (by omega) (fun r98 S98 hS98 n98_0 => ?_)
            unfold wX11_putSteps_104
            exact ⟨⟨(Ch.wk (Ch.tr (Ch.tr (Ch.tr hS35h hS46h) hS92) hS98) (by decide) (by decide)), rfl, rfl, by omega, by omega, by omega, (by
                  intro x
                  have e6 := i35_3 x
                  omega), by omega⟩, show (((v35_6 + (-1))) + 2).toNat < (v35_6 + 2).toNat by omega⟩
        · refine ⟨by omega, ?_⟩
          have e7 : S46h.1 54 25 = S35h.1 54 25 := hS46h.1 25 (by decide)
          have e8 : S35h.1 54 25 = S6h.1 54 25 := hS35h.1 25 (by decide)
          have e9 : S6h.1 54 25 = S.1 54 25 := hS6h.1 25 (by decide)
          refine tX11_isAround (PW.mv p1 (((Ch.tr (Ch.tr hS6h hS35h) hS46h)).1 25 (by decide)) (((Ch.tr (Ch.tr hS6h hS35h) hS46h)).2 72 (by decide))) (by omega) (by omega) (fun r78 S78 hS78 n78_0 => ?_)
          refine ⟨by omega, ?_⟩
          refine ⟨fun h81 => ?_, fun h81 => ?_⟩
          · unfold wX11_putSteps_104
            have e10 : S78.1 54 39 = S46h.1 54 39 := hS78.1 39 (by decide)
            have e11 : S46h.1 54 39 = S35h.1 54 39 := hS46h.1 39 (by decide)
            exact ⟨⟨(Ch.wk (Ch.tr (Ch.tr hS35h hS46h) hS78) (by decide) (by decide)), rfl, rfl, by omega, by omega, by omega, (by
                  intro x
                  have e12 := i35_3 x
                  omega), by omega⟩, show (((v35_6 + (-1))) + 2).toNat < (v35_6 + 2).toNat by omega⟩
          · unfold wX11_putSteps_84
            refine ⟨by omega, ?_⟩
            refine ⟨fun h86 => ?_, fun h86 => ?_⟩
            · unfold wX11_putSteps_95
              refine ⟨by omega, ?_⟩
              have e13 : S78.1 54 39 = S46h.1 54 39 := hS78.1 39 (by decide)
              have e14 : S46h.1 54 39 = S35h.1 54 39 := hS46h.1 39 (by decide)
              refine tX11_putStep (by omega) (fun r98 S98 hS98 n98_0 => ?_)
              unfold wX11_putSteps_104
              exact ⟨⟨(Ch.wk (Ch.tr (Ch.tr (Ch.tr hS35h hS46h) hS78) hS98) (by decide) (by decide)), rfl, rfl, by omega, by omega, by omega, (by
                    intro x
                    have e15 := i35_3 x
                    omega), by omega⟩, show (((v35_6 + (-1))) + 2).toNat < (v35_6 + 2).toNat by omega⟩
            · have e16 : S78.1 54 39 = S46h.1 54 39 := hS78.1 39 (by decide)
              have e17 : S46h.1 54 39 = S35h.1 54 39 := hS46h.1 39 (by decide)
              refine tX11_put  (fun r92 S92 hS92 n92_0 => ?_)
              unfold wX11_putSteps_95
              refine ⟨by omega, ?_⟩
              refine tX11_putStep (by omega) (fun r98 S98 hS98 n98_0 => ?_)
              unfold wX11_putSteps_104
              exact ⟨⟨(Ch.wk (Ch.tr (Ch.tr (Ch.tr (Ch.tr hS35h hS46h) hS78) hS92) hS98) (by decide) (by decide)), rfl, rfl, by omega, by omega, by omega, (by
                    intro x
                    have e18 := i35_3 x
                    omega), by omega⟩, show (((v35_6 + (-1))) + 2).toNat < (v35_6 + 2).toNat by omega⟩
      · have hx := i35_3 v46_8
        refine ⟨by omega, by omega, ?_⟩
        intro q19
        have e20 : S46h.2 72 (v46_7) = S35h.2 72 (v46_7) := congrFun (hS46h.2 72 (by decide)) _
        have e21 : S35h.2 72 (v46_7) = S6h.2 72 (v46_7) := congrFun (hS35h.2 72 (by decide)) _
        have e22 : S6h.2 72 (v46_7) = S.2 72 (v46_7) := congrFun (hS6h.2 72 (by decide)) _
        intro x60 hx60
        subst hx60
        exact ⟨⟨(Ch.wk hS46h (by decide) (by decide)), rfl, rfl, rfl, rfl, by omega, by omega, by omega, by rw [itp_succ (by omega), ← i46_3]; exact congrFun ((Ch.tr (Ch.tr hS6h hS35h) hS46h).2 72 (by decide)) _⟩, show (v35_6 - ((v46_8 + 1)) + 1).toNat < (v35_6 - v46_8 + 1).toNat by omega⟩
  · have hpw := p1 (v6_5)
    refine ⟨by omega, by omega, ?_⟩
    intro q23
    have e24 : S6h.2 72 (v6_5) = S.2 72 (v6_5) := congrFun (hS6h.2 72 (by decide)) _
    intro x21 hx21
    subst hx21
    exact ⟨⟨(Ch.wk hS6h (by decide) (by decide)), rfl, rfl, rfl, by omega, by omega, by omega, by omega, by omega, by rw [itp_succ (by omega), ← i6_5]; exact congrFun (hS6h.2 72 (by decide)) _, (by
          intro x
          have e25 := i6_6 x
          by_cases hx : x = v6_4
          · subst hx
            omega
          · omega)⟩, show (((S6h.2 72 (v6_5))) + 3).toNat < (v6_5 + 3).toNat by omega⟩

set_option maxRecDepth 100000 in
set_option maxHeartbeats 4000000 in
theorem tX11_putWay {a1 a2 a3 : Int} {S : St} {K : Int → St → Prop} (p1 : PW S) (p2 : iv 0 899 a1) (p3 : a1 < (S.1 54 25)) (p4 : iv 0 899 a2) (p5 : a2 < (S.1 54 25)) (hK : ∀ (r : Int) (S' : St), Ch [39] [83] S S' → ((S.1 54 39) ≤ (S'.1 54 39)) → K r S') : wX11_putWay a1 a2 a3 S K := by
  unfold wX11_putWay
  intro g1 g2 g3
  refine ⟨fun h2 => ?_, fun h2 => ?_⟩
  · unfold wX11_putWay_20
    refine ⟨fun u1 u2 u4 u5 Sx => Ch [39] [83] S Sx ∧ a1 = u1 ∧ a2 = u2 ∧ (iv (-2) 899 u5) ∧ (u5 < (S.1 54 25)) ∧ (iv 0 1 u4) ∧ ((S.1 54 39) ≤ (Sx.1 54 39)), fun u1 u2 u4 u5 Sx => (u5 + 3).toNat, ?_, fun v20_1 v20_2 v20_4 v20_5 S20h hI => ?_⟩
    · exact ⟨Ch.re, rfl, rfl, by omega, by omega, by omega, by omega⟩
    obtain ⟨hS20h, rfl, rfl, i20_0, i20_1, i20_2, i20_3⟩ := hI
    unfold wX11_putWay_20'
    refine ⟨by omega, ?_⟩
    refine ⟨fun h22 => ?_, fun h22 => ?_⟩
    · refine ⟨by omega, ?_⟩
      refine ⟨by omega, ?_⟩
      refine ⟨by omega, ?_⟩
      have e1 : S20h.1 54 25 = S.1 54 25 := hS20h.1 25 (by decide)
      have e2 : S20h.1 54 25 = S.1 54 25 := hS20h.1 25 (by decide)
      refine tX11_putSteps (PW.mv p1 ((hS20h).1 25 (by decide)) ((hS20h).2 72 (by decide))) (by omega) (by omega) (by omega) (by omega) (by omega) (fun r78 S78 hS78 n78_0 => ?_)
      exact hK (0) S78 (Ch.wk (Ch.tr hS20h hS78) (by decide) (by decide)) (by omega)
    · refine ⟨by omega, ?_⟩
      have e3 : S20h.1 54 25 = S.1 54 25 := hS20h.1 25 (by decide)
      refine tX11_isAround (PW.mv p1 ((hS20h).1 25 (by decide)) ((hS20h).2 72 (by decide))) (by omega) (by omega) (fun r29 S29 hS29 n29_0 => ?_)
      refine ⟨by omega, ?_⟩
      refine ⟨fun h32 => ?_, fun h32 => ?_⟩
      · unfold wX11_putWay_61
        have hpw := p1 (v20_5)
        refine ⟨by omega, by omega, ?_⟩
        intro q4
        have e5 : S29.2 72 (v20_5) = S20h.2 72 (v20_5) := congrFun (hS29.2 72 (by decide)) _
        have e6 : S20h.2 72 (v20_5) = S.2 72 (v20_5) := congrFun (hS20h.2 72 (by decide)) _
        intro x68 hx68
        subst hx68
        have e7 : S29.1 54 39 = S20h.1 54 39 := hS29.1 39 (by decide)
        exact ⟨⟨(Ch.wk (Ch.tr hS20h hS29) (by decide) (by decide)), rfl, rfl, by omega, by omega, by omega, by omega⟩, show (((S29.2 72 (v20_5))) + 3).toNat < (v20_5 + 3).toNat by omega⟩
      · refine ⟨by omega, ?_⟩
        refine ⟨fun h37 => ?_, fun h37 => ?_⟩
        · unfold wX11_putWay_46
          have e8 : S29.1 54 39 = S20h.1 54 39 := hS29.1 39 (by decide)
          refine tX11_put  (fun r49 S49 hS49 n49_0 => ?_)
          refine tX11_put  (fun r55 S55 hS55 n55_0 => ?_)
          unfold wX11_putWay_61
          have hpw := p1 (v20_5)
          refine ⟨by omega, by omega, ?_⟩
          intro q9
          have e10 : S55.2 72 (v20_5) = S49.2 72 (v20_5) := congrFun (hS55.2 72 (by decide)) _
          have e11 : S49.2 72 (v20_5) = S29.2 72 (v20_5) := congrFun (hS49.2 72 (by decide)) _
          have e12 : S29.2 72 (v20_5) = S20h.2 72 (v20_5) := congrFun (hS29.2 72 (by decide)) _
          have e13 : S20h.2 72 (v20_5) = S.2 72 (v20_5) := congrFun (hS20h.2 72 (by decide)) _
          intro x68 hx68
          subst hx68
          exact ⟨⟨(Ch.wk (Ch.tr (Ch.tr (Ch.tr hS20h hS29) hS49) hS55) (by decide) (by decide)), rfl, rfl, by omega, by omega, by omega, by omega⟩, show (((S55.2 72 (v20_5))) + 3).toNat < (v20_5 + 3).toNat by omega⟩
        · have e14 : S29.1 54 39 = S20h.1 54 39 := hS29.1 39 (by decide)
          refine tX11_put  (fun r43 S43 hS43 n43_0 => ?_)
          unfold wX11_putWay_46
          refine tX11_put  (fun r49 S49 hS49 n49_0 => ?_)
          refine tX11_put  (fun r55 S55 hS55 n55_0 => ?_)
          unfold wX11_putWay_61
          have hpw := p1 (v20_5)
          refine ⟨by omega, by omega, ?_⟩
          intro q15
          have e16 : S55.2 72 (v20_5) = S49.2 72 (v20_5) := congrFun (hS55.2 72 (by decide)) _
          have e17 : S49.2 72 (v20_5) = S43.2 72 (v20_5) := congrFun (hS49.2 72 (by decide)) _
          have e18 : S43.2 72 (v20_5) = S29.2 72 (v20_5) := congrFun (hS43.2 72 (by decide)) _
          have e19 : S29.2 72 (v20_5) = S20h.2 72 (v20_5) := congrFun (hS29.2 72 (by decide)) _
          have e20 : S20h.2 72 (v20_5) = S.2 72 (v20_5) := congrFun (hS20h.2 72 (by decide)) _
          intro x68 hx68
          subst hx68
          exact ⟨⟨(Ch.wk (Ch.tr (Ch.tr (Ch.tr (Ch.tr hS20h hS29) hS43) hS49) hS55) (by decide) (by decide)), rfl, rfl, by omega, by omega, by omega, by omega⟩, show (((S55.2 72 (v20_5))) + 3).toNat < (v20_5 + 3).toNat by omega⟩
  · refine tX11_putSteps p1 (by omega) (by omega) (by omega) (by omega) (by omega) (fun r10 S10 hS10 n10_0 => ?_)
    exact hK (0) S10 (Ch.wk hS10 (by decide) (by decide)) (by omega)

set_option maxRecDepth 100000 in
set_option maxHeartbeats 4000000 in
theorem tX11_refer {a1 a2 a3 a4 : Int} {S : St} {K : Int → St → Prop} (p1 : iv 0 29 a1) (p2 : iv (-2) 899 a2) (p3 : a2 < (S.1 54 25)) (p4 : iv 0 29 a3) (p5 : (S.1 54 25) ≤ 899) (p6 : PW S) (p7 : BW S) (p8 : 0 ≤ (S.2 75) a1) (hK : ∀ (r : Int) (S' : St), Ch [25, 39] [72, 73, 74, 83] S S' → ((S'.1 54 25) = (S.1 54 25) + 1) → (PW S') → (BW S') → ((S.1 54 39) ≤ (S'.1 54 39)) → ((S'.1 54 39) = 3001 ∨ (S.1 54 39) + 4 ≤ (S'.1 54 39)) → K r S') : wX11_refer a1 a2 a3 a4 S K := by
  unfold wX11_refer
  intro g1 g2 g3 g4
  refine tX11_element (by omega) (by omega) (by omega) (by omega) (p6) (p7) (fun r3 S3 hS3 n3_0 n3_1 n3_2 n3_3 => ?_)
  have e1 : S3.1 54 39 = S.1 54 39 := hS3.1 39 (by decide)
  refine tX11_put  (fun r11 S11 hS11 n11_0 => ?_)
  have e2 : S11.2 57 (a3) = S3.2 57 (a3) := congrFun (hS11.2 57 (by decide)) _
  have e3 : S3.2 57 (a3) = S.2 57 (a3) := congrFun (hS3.2 57 (by decide)) _
  refine tX11_putName (by omega) (fun r16 S16 hS16 n16_0 n16_1 => ?_)
  refine tX11_putAttribute  (fun r28 S28 hS28 n28_0 n28_1 => ?_)
  refine tX11_putWord  (fun r40 S40 hS40 n40_0 n40_1 n40_2 => ?_)
  refine tX11_putWord  (fun r51 S51 hS51 n51_0 n51_1 n51_2 => ?_)
  refine ⟨fun h57 => ?_, fun h57 => ?_⟩
  · refine ⟨by omega, by omega, ?_⟩
    intro q4
    have e5 : S51.2 75 (a1) = S40.2 75 (a1) := congrFun (hS51.2 75 (by decide)) _
    have e6 : S40.2 75 (a1) = S28.2 75 (a1) := congrFun (hS40.2 75 (by decide)) _
    have e7 : S28.2 75 (a1) = S16.2 75 (a1) := congrFun (hS28.2 75 (by decide)) _
    have e8 : S16.2 75 (a1) = S11.2 75 (a1) := congrFun (hS16.2 75 (by decide)) _
    have e9 : S11.2 75 (a1) = S3.2 75 (a1) := congrFun (hS11.2 75 (by decide)) _
    have e10 : S3.2 75 (a1) = S.2 75 (a1) := congrFun (hS3.2 75 (by decide)) _
    have hb := p7 a1
    refine ⟨by omega, ?_⟩
    have e11 : S51.1 54 25 = S40.1 54 25 := hS51.1 25 (by decide)
    have e12 : S40.1 54 25 = S28.1 54 25 := hS40.1 25 (by decide)
    have e13 : S28.1 54 25 = S16.1 54 25 := hS28.1 25 (by decide)
    have e14 : S16.1 54 25 = S11.1 54 25 := hS16.1 25 (by decide)
    have e15 : S11.1 54 25 = S3.1 54 25 := hS11.1 25 (by decide)
    have e16 : S51.1 54 25 = S40.1 54 25 := hS51.1 25 (by decide)
    have e17 : S40.1 54 25 = S28.1 54 25 := hS40.1 25 (by decide)
    have e18 : S28.1 54 25 = S16.1 54 25 := hS28.1 25 (by decide)
    have e19 : S16.1 54 25 = S11.1 54 25 := hS16.1 25 (by decide)
    have e20 : S11.1 54 25 = S3.1 54 25 := hS11.1 25 (by decide)
    refine tX11_putWay (PW.mv n3_2 ((Ch.tr (Ch.tr (Ch.tr (Ch.tr hS11 hS16) hS28) hS40) hS51 |>.1) 25 (by decide)) ((Ch.tr (Ch.tr (Ch.tr (Ch.tr hS11 hS16) hS28) hS40) hS51 |>.2) 72 (by decide))) (by omega) (by omega) (by omega) (by omega) (fun r84 S84 hS84 n84_0 => ?_)
    unfold wX11_refer_87
    refine tX11_putWord  (fun r95 S95 hS95 n95_0 n95_1 n95_2 => ?_)
    have e21 : S95.1 54 25 = S84.1 54 25 := hS95.1 25 (by decide)
    have e22 : S84.1 54 25 = S51.1 54 25 := hS84.1 25 (by decide)
    have e23 : S51.1 54 25 = S40.1 54 25 := hS51.1 25 (by decide)
    have e24 : S40.1 54 25 = S28.1 54 25 := hS40.1 25 (by decide)
    have e25 : S28.1 54 25 = S16.1 54 25 := hS28.1 25 (by decide)
    have e26 : S16.1 54 25 = S11.1 54 25 := hS16.1 25 (by decide)
    have e27 : S11.1 54 25 = S3.1 54 25 := hS11.1 25 (by decide)
    exact hK (0) S95 (Ch.wk (Ch.tr (Ch.tr (Ch.tr (Ch.tr (Ch.tr (Ch.tr (Ch.tr hS3 hS11) hS16) hS28) hS40) hS51) hS84) hS95) (by decide) (by decide)) (by omega) (PW.mv n3_2 (((Ch.tr (Ch.tr (Ch.tr (Ch.tr (Ch.tr (Ch.tr hS11 hS16) hS28) hS40) hS51) hS84) hS95)).1 25 (by decide)) (((Ch.tr (Ch.tr (Ch.tr (Ch.tr (Ch.tr (Ch.tr hS11 hS16) hS28) hS40) hS51) hS84) hS95)).2 72 (by decide))) (BW.mv n3_3 (Int.le_of_eq ((((Ch.tr (Ch.tr (Ch.tr (Ch.tr (Ch.tr (Ch.tr hS11 hS16) hS28) hS40) hS51) hS84) hS95)).1 25 (by decide)).symm)) (((Ch.tr (Ch.tr (Ch.tr (Ch.tr (Ch.tr (Ch.tr hS11 hS16) hS28) hS40) hS51) hS84) hS95)).2 75 (by decide))) (by omega) (by omega)
  · refine ⟨by omega, by omega, ?_⟩
    intro q28
    have e29 : S51.2 76 (a1) = S40.2 76 (a1) := congrFun (hS51.2 76 (by decide)) _
    have e30 : S40.2 76 (a1) = S28.2 76 (a1) := congrFun (hS40.2 76 (by decide)) _
    have e31 : S28.2 76 (a1) = S16.2 76 (a1) := congrFun (hS28.2 76 (by decide)) _
    have e32 : S16.2 76 (a1) = S11.2 76 (a1) := congrFun (hS16.2 76 (by decide)) _
    have e33 : S11.2 76 (a1) = S3.2 76 (a1) := congrFun (hS11.2 76 (by decide)) _
    have e34 : S3.2 76 (a1) = S.2 76 (a1) := congrFun (hS3.2 76 (by decide)) _
    refine tX11_putNumber  (fun r67 S67 hS67 n67_0 => ?_)
    unfold wX11_refer_87
    refine tX11_putWord  (fun r95 S95 hS95 n95_0 n95_1 n95_2 => ?_)
    have e35 : S95.1 54 25 = S67.1 54 25 := hS95.1 25 (by decide)
    have e36 : S67.1 54 25 = S51.1 54 25 := hS67.1 25 (by decide)
    have e37 : S51.1 54 25 = S40.1 54 25 := hS51.1 25 (by decide)
    have e38 : S40.1 54 25 = S28.1 54 25 := hS40.1 25 (by decide)
    have e39 : S28.1 54 25 = S16.1 54 25 := hS28.1 25 (by decide)
    have e40 : S16.1 54 25 = S11.1 54 25 := hS16.1 25 (by decide)
    have e41 : S11.1 54 25 = S3.1 54 25 := hS11.1 25 (by decide)
    exact hK (0) S95 (Ch.wk (Ch.tr (Ch.tr (Ch.tr (Ch.tr (Ch.tr (Ch.tr (Ch.tr hS3 hS11) hS16) hS28) hS40) hS51) hS67) hS95) (by decide) (by decide)) (by omega) (PW.mv n3_2 (((Ch.tr (Ch.tr (Ch.tr (Ch.tr (Ch.tr (Ch.tr hS11 hS16) hS28) hS40) hS51) hS67) hS95)).1 25 (by decide)) (((Ch.tr (Ch.tr (Ch.tr (Ch.tr (Ch.tr (Ch.tr hS11 hS16) hS28) hS40) hS51) hS67) hS95)).2 72 (by decide))) (BW.mv n3_3 (Int.le_of_eq ((((Ch.tr (Ch.tr (Ch.tr (Ch.tr (Ch.tr (Ch.tr hS11 hS16) hS28) hS40) hS51) hS67) hS95)).1 25 (by decide)).symm)) (((Ch.tr (Ch.tr (Ch.tr (Ch.tr (Ch.tr (Ch.tr hS11 hS16) hS28) hS40) hS51) hS67) hS95)).2 75 (by decide))) (by omega) (by omega)

set_option maxRecDepth 100000 in
set_option maxHeartbeats 4000000 in
theorem tX11_child {a1 a2 a3 a4 a5 : Int} {S : St} {K : Int → St → Prop} (p1 : iv 0 29 a1) (p2 : iv (-2) 899 a2) (p3 : a2 < (S.1 54 25)) (p4 : iv 0 29 a3) (p5 : 1 ≤ (S.2 57) a3) (p6 : iv 0 1 a4) (p7 : (S.1 54 32) ≤ (S.1 54 19)) (p8 : (S.1 54 25) ≤ 899) (p9 : (S.1 54 30) ≤ (S.1 54 25)) (p10 : PW S) (p11 : BW S) (p12 : OK0 S) (p13 : a1 < (S.2 67) 0) (hK : ∀ (r : Int) (S' : St), Ch [25, 30, 32, 39] [72, 73, 74, 75, 76, 77, 78, 79, 80, 81, 82, 83] S S' → (iv 0 1 r) → ((S.1 54 25) ≤ (S'.1 54 25) ∧ (S'.1 54 25) ≤ (S.1 54 25) + 1 ∧ (S'.1 54 30) ≤ (S'.1 54 25)) → (PW S') → (BW S') → ((r = 0 ∧ (S'.1 54 32) = (S.1 54 32) ∧ (S'.1 54 39) = (S.1 54 39) ∧ (S'.1 54 25) = (S.1 54 25)) ∨ (r = 1 ∧ (S'.1 54 32) = (S.1 54 32) ∧ (S'.1 54 25) = (S.1 54 25) + 1 ∧ ((S'.1 54 39) = 3001 ∨ (S.1 54 39) + 4 ≤ (S'.1 54 39))) ∨ (r = 1 ∧ (S'.1 54 32) = (S.1 54 32) + 1 ∧ (S'.1 54 32) ≤ (S.1 54 19) ∧ (S'.1 54 25) = (S.1 54 25) + 1 ∧ ((S'.1 54 39) = 3001 ∨ (S.1 54 39) + 3 ≤ (S'.1 54 39)) ∧ (S'.2 77) ((S.1 54 32)) = a1 ∧ (S'.2 78) ((S.1 54 32)) = (S.1 54 25) ∧ (S'.2 79) ((S.1 54 32)) = a3 ∧ (S'.2 80) ((S.1 54 32)) = 0 ∧ (S'.2 81) ((S.1 54 32)) = 0 ∧ (S'.2 82) ((S.1 54 32)) = -2 ∧ 0 ≤ (S.2 56) ((S.2 68) a1))) → ((S.1 54 39) ≤ (S'.1 54 39)) → (∀ x, x = (S.1 54 32) ∨ (S'.2 77) x = (S.2 77) x) → (∀ x, x = (S.1 54 32) ∨ (S'.2 78) x = (S.2 78) x) → (∀ x, x = (S.1 54 32) ∨ (S'.2 79) x = (S.2 79) x) → (∀ x, x = (S.1 54 32) ∨ (S'.2 80) x = (S.2 80) x) → (∀ x, x = (S.1 54 32) ∨ (S'.2 81) x = (S.2 81) x) → (∀ x, x = (S.1 54 32) ∨ (S'.2 82) x = (S.2 82) x) → K r S') : wX11_child a1 a2 a3 a4 a5 S K := by
  unfold wX11_child
  intro g1 g2 g3 g4 g5
  refine ⟨fun h3 => ?_, fun h3 => ?_⟩
  · unfold wX11_child_28
    intro q1
    intro q2
    refine ⟨fun h36 => ?_, fun h36 => ?_⟩
    · refine ⟨by omega, ?_⟩
      refine ⟨by omega, ?_⟩
      refine ⟨by omega, ?_⟩
      refine ⟨by omega, ?_⟩
      refine ⟨by omega, ?_⟩
      refine tX11_begin (by omega) (by omega) (by omega) (by omega) (by omega) (by omega) (by omega) (by omega) (by omega) (p10) (p11) (p12) (by omega) (fun r49 S49 hS49 n49_0 n49_1 n49_2 n49_3 n49_4 n49_5 n49_6 n49_7 n49_8 n49_9 n49_10 n49_11 n49_12 n49_13 => ?_)
      have e9 := n49_7 ((S.1 54 32))
      have e10 := n49_8 ((S.1 54 32))
      have e11 := n49_9 ((S.1 54 32))
      have e12 := n49_10 ((S.1 54 32))
      have e13 := n49_11 ((S.1 54 32))
      have e14 := n49_12 ((S.1 54 32))
      exact hK (1) S49 (Ch.wk hS49 (by decide) (by decide)) (by omega) (by omega) (n49_2) (n49_3) (by omega) (by omega) (by
            intro x
            have e3 := n49_7 x
            omega) (by
            intro x
            have e4 := n49_8 x
            omega) (by
            intro x
            have e5 := n49_9 x
            omega) (by
            intro x
            have e6 := n49_10 x
            omega) (by
            intro x
            have e7 := n49_11 x
            omega) (by
            intro x
            have e8 := n49_12 x
            omega)
    · exact hK (0) S (Ch.wk Ch.rf (by decide) (by decide)) (by omega) (by omega) (p10) (p11) (by omega) (by omega) (by
            intro x
            omega) (by
            intro x
            omega) (by
            intro x
            omega) (by
            intro x
            omega) (by
            intro x
            omega) (by
            intro x
            omega)
  · refine ⟨by omega, by omega, ?_⟩
    intro q15
    refine ⟨fun h14 => ?_, fun h14 => ?_⟩
    · unfold wX11_child_28
      intro q16
      intro q17
      refine ⟨fun h36 => ?_, fun h36 => ?_⟩
      · refine ⟨by omega, ?_⟩
        refine ⟨by omega, ?_⟩
        refine ⟨by omega, ?_⟩
        refine ⟨by omega, ?_⟩
        refine ⟨by omega, ?_⟩
        refine tX11_begin (by omega) (by omega) (by omega) (by omega) (by omega) (by omega) (by omega) (by omega) (by omega) (p10) (p11) (p12) (by omega) (fun r49 S49 hS49 n49_0 n49_1 n49_2 n49_3 n49_4 n49_5 n49_6 n49_7 n49_8 n49_9 n49_10 n49_11 n49_12 n49_13 => ?_)
        have e24 := n49_7 ((S.1 54 32))
        have e25 := n49_8 ((S.1 54 32))
        have e26 := n49_9 ((S.1 54 32))
        have e27 := n49_10 ((S.1 54 32))
        have e28 := n49_11 ((S.1 54 32))
        have e29 := n49_12 ((S.1 54 32))
        exact hK (1) S49 (Ch.wk hS49 (by decide) (by decide)) (by omega) (by omega) (n49_2) (n49_3) (by omega) (by omega) (by
              intro x
              have e18 := n49_7 x
              omega) (by
              intro x
              have e19 := n49_8 x
              omega) (by
              intro x
              have e20 := n49_9 x
              omega) (by
              intro x
              have e21 := n49_10 x
              omega) (by
              intro x
              have e22 := n49_11 x
              omega) (by
              intro x
              have e23 := n49_12 x
              omega)
      · exact hK (0) S (Ch.wk Ch.rf (by decide) (by decide)) (by omega) (by omega) (p10) (p11) (by omega) (by omega) (by
              intro x
              omega) (by
              intro x
              omega) (by
              intro x
              omega) (by
              intro x
              omega) (by
              intro x
              omega) (by
              intro x
              omega)
    · have hb := p11 a1
      refine tX11_refer (by omega) (by omega) (by omega) (by omega) (by omega) (p10) (p11) (by omega) (fun r23 S23 hS23 n23_0 n23_1 n23_2 n23_3 n23_4 => ?_)
      have e36 : S23.1 54 30 = S.1 54 30 := hS23.1 30 (by decide)
      have e37 : S23.1 54 32 = S.1 54 32 := hS23.1 32 (by decide)
      have e38 : S23.2 77 ((S.1 54 32)) = S.2 77 ((S.1 54 32)) := congrFun (hS23.2 77 (by decide)) _
      have e39 : S23.2 78 ((S.1 54 32)) = S.2 78 ((S.1 54 32)) := congrFun (hS23.2 78 (by decide)) _
      have e40 : S23.2 79 ((S.1 54 32)) = S.2 79 ((S.1 54 32)) := congrFun (hS23.2 79 (by decide)) _
      have e41 : S23.2 80 ((S.1 54 32)) = S.2 80 ((S.1 54 32)) := congrFun (hS23.2 80 (by decide)) _
      have e42 : S23.2 81 ((S.1 54 32)) = S.2 81 ((S.1 54 32)) := congrFun (hS23.2 81 (by decide)) _
      have e43 : S23.2 82 ((S.1 54 32)) = S.2 82 ((S.1 54 32)) := congrFun (hS23.2 82 (by decide)) _
      exact hK (1) S23 (Ch.wk hS23 (by decide) (by decide)) (by omega) (by omega) (n23_1) (n23_2) (by omega) (by omega) (by
            intro x
            have e30 : S23.2 77 x = S.2 77 x := congrFun (hS23.2 77 (by decide)) _
            omega) (by
            intro x
            have e31 : S23.2 78 x = S.2 78 x := congrFun (hS23.2 78 (by decide)) _
            omega) (by
            intro x
            have e32 : S23.2 79 x = S.2 79 x := congrFun (hS23.2 79 (by decide)) _
            omega) (by
            intro x
            have e33 : S23.2 80 x = S.2 80 x := congrFun (hS23.2 80 (by decide)) _
            omega) (by
            intro x
            have e34 : S23.2 81 x = S.2 81 x := congrFun (hS23.2 81 (by decide)) _
            omega) (by
            intro x
            have e35 : S23.2 82 x = S.2 82 x := congrFun (hS23.2 82 (by decide)) _
            omega)

set_option maxRecDepth 100000 in
set_option maxHeartbeats 4000000 in
theorem tX11_end {a1 : Int} {S : St} {K : Int → St → Prop} (p1 : iv 0 29 a1) (hK : ∀ (r : Int) (S' : St), Ch [39] [83] S S' → ((S.1 54 39) ≤ (S'.1 54 39)) → ((S'.1 54 39) = 3001 ∨ (S.1 54 39) + 3 ≤ (S'.1 54 39)) → ((S.2 57) a1 = 0 ∨ (S'.1 54 39) = 3001 ∨ (S.1 54 39) + 4 ≤ (S'.1 54 39)) → K r S') : wX11_end a1 S K := by
  unfold wX11_end
  intro g1
  refine tX11_putWord  (fun r7 S7 hS7 n7_0 n7_1 n7_2 => ?_)
  have e1 : S7.2 57 (a1) = S.2 57 (a1) := congrFun (hS7.2 57 (by decide)) _
  refine tX11_putName (by omega) (fun r12 S12 hS12 n12_0 n12_1 => ?_)
  refine tX11_put  (fun r18 S18 hS18 n18_0 => ?_)
  exact hK (0) S18 (Ch.wk (Ch.tr (Ch.tr hS7 hS12) hS18) (by decide) (by decide)) (by omega) (by omega) (by omega)

set_option maxRecDepth 100000 in
set_option maxHeartbeats 4000000 in
theorem tX11_lists_74 {a1 a2 a3 a4 l1 l2 l3 l4 l5 l6 : Int} {S S1c : St} {K : Int → St → Prop} (g1 : rng a1) (g2 : rng a2) (g3 : rng a3) (g4 : rng a4) (p1 : a1 = (S.1 54 32) - 1) (p2 : 0 ≤ a1) (p3 : a2 = 4 * (S.2 68) ((S.2 77) a1) + (S.2 80) a1) (p4 : (S.2 80) a1 + 1 ≤ (S.2 56) ((S.2 68) ((S.2 77) a1))) (p5 : (S.2 59) a2 = 3) (p6 : a3 = (S.2 69) (4 * (S.2 77) a1 + (S.2 80) a1)) (p7 : (S.1 54 39) ≤ 3000) (p8 : (S.1 54 30) ≤ (S.1 54 25)) (p9 : (S.1 54 32) ≤ (S.1 54 19)) (p10 : PW S) (p11 : BW S) (p12 : OK0 S) (p13 : OL0 S) (p14 : NMS S) (p15 : OWI S) (p16 : EWI S) (p17 : iv 0 29 ((S.2 77) a1)) (p18 : iv 0 4 ((S.2 80) a1)) (p19 : (S.1 54 32) ≤ 20) (p20 : iv 0 5 ((S.2 68) ((S.2 77) a1))) (p21 : (S.2 56) ((S.2 68) ((S.2 77) a1)) ≤ 4) (p22 : iv 1 20 (S.1 54 19)) (p23 : (S.2 67) 0 ≤ 30) (hS1c : Ch [25, 39] [72, 73, 74, 82, 83] S S1c) (c1 : a1 = l1) (c2 : a2 = l2) (c3 : a3 = l3) (c4 : a4 = l4) (c5 : 6 + a2 = l5) (c6 : (S.2 81) a1 = l6) (c7 : (S.1 54 25) ≤ (S1c.1 54 25)) (c8 : (S1c.1 54 25) ≤ (S.1 54 25) + 1) (c9 : PW S1c) (c10 : BW S1c) (c11 : ∀ x, x = a1 ∨ (S1c.2 82) x = (S.2 82) x) (c12 : (S1c.2 82) a1 < (S1c.1 54 25)) (c13 : ((S1c.1 54 25) = (S.1 54 25) ∧ (S1c.1 54 39) = (S.1 54 39) ∧ (¬ l6 = 0 ∨ ¬ (S.2 60) a2 = 0)) ∨ ((S1c.1 54 25) = (S.1 54 25) + 1 ∧ l6 = 0 ∧ (S.2 60) a2 = 0 ∧ ((S1c.1 54 39) = 3001 ∨ (a3 = 0 ∧ (S.1 54 39) + 4 ≤ (S1c.1 54 39)) ∨ (¬ a3 = 0 ∧ (S.1 54 39) + 3 ≤ (S1c.1 54 39))))) (c14 : (S.1 54 39) ≤ (S1c.1 54 39)) (hK : ∀ (r : Int) (S' : St), Ch [25, 30, 32, 39] [72, 73, 74, 75, 76, 77, 78, 79, 80, 81, 82, 83] S S' → (iv 0 1 r) → ((S'.1 54 30) ≤ (S'.1 54 25)) → ((S'.1 54 32) ≤ (S.1 54 19)) → (PW S') → (BW S') → (OWI S') → (EWI S') → ((S'.1 54 39) = 3001 ∨ (S.1 54 39) < (S'.1 54 39) ∨ r = 0 ∨ ((S'.1 54 39) = (S.1 54 39) ∧ (S'.1 54 32) = (S.1 54 32) ∧ (S'.2 80) a1 = (S.2 80) a1 + 1 ∧ 0 ≤ (S.2 80) a1 ∧ (S.2 80) a1 ≤ 3)) → ((S.1 54 39) ≤ (S'.1 54 39)) → K r S') : wX11_lists_74 l1 l2 l3 l4 l5 l6 S1c K := by
  unfold wX11_lists_74
  have hk3 : (S1c.2 59) (4 * (S1c.2 68) ((S1c.2 77) a1) + (S1c.2 80) a1) = 3 := by rw [← p3]; exact p5
  have hk8 := p12 ((S1c.2 77) a1) ((S1c.2 80) a1)
  unfold tyV at hk8
  have hel := EWI_lt p16 p7 (by omega) (by omega)
  have hw6 := owi_of p15 (x := a1) (by omega) (by omega)
  unfold owi at hw6
  have hnm := p14 ((S1c.2 77) a1) ((S1c.2 80) a1)
  rw [← p3] at hnm
  refine ⟨by omega, ?_⟩
  refine ⟨by omega, ?_⟩
  refine ⟨fun h77 => ?_, fun h77 => ?_⟩
  · refine ⟨by omega, by omega, ?_⟩
    intro q1
    have e2 : S1c.2 60 (l2) = S.2 60 (l2) := congrFun (hS1c.2 60 (by decide)) _
    refine ⟨fun h165 => ?_, fun h165 => ?_⟩
    · unfold wX11_lists_178
      refine ⟨by omega, by omega, ?_⟩
      intro q3
      have e4 : S1c.2 80 (l1) = S.2 80 (l1) := congrFun (hS1c.2 80 (by decide)) _
      refine ⟨by omega, by omega, ?_⟩
      refine ⟨by omega, ?_⟩
      intro S187 hS187e
      have hS187 : Ch [] [80] S1c S187 := Ch_A hS187e
      have hS187v : ∀ x, S187.2 80 x = if x = l1 then (S1c.2 80 (l1) + 1) else S1c.2 80 x := pA_at hS187e
      refine ⟨by omega, by omega, ?_⟩
      intro S194 hS194e
      have hS194 : Ch [] [81] S187 S194 := Ch_A hS194e
      have hS194v : ∀ x, S194.2 81 x = if x = l1 then 0 else S187.2 81 x := pA_at hS194e
      have e32 : S194.1 54 30 = S187.1 54 30 := hS194.1 30 (by decide)
      have e33 : S187.1 54 30 = S1c.1 54 30 := hS187.1 30 (by decide)
      have e34 : S1c.1 54 30 = S.1 54 30 := hS1c.1 30 (by decide)
      have e35 : S194.1 54 32 = S187.1 54 32 := hS194.1 32 (by decide)
      have e36 : S187.1 54 32 = S1c.1 54 32 := hS187.1 32 (by decide)
      have e37 : S1c.1 54 32 = S.1 54 32 := hS1c.1 32 (by decide)
      have e38 : S194.1 54 39 = S187.1 54 39 := hS194.1 39 (by decide)
      have e39 : S187.1 54 39 = S1c.1 54 39 := hS187.1 39 (by decide)
      have e40 : S194.2 80 a1 = S187.2 80 a1 := congrFun (hS194.2 80 (by decide)) _
      have e41 := hS187v a1
      have e42 : S1c.2 80 a1 = S.2 80 a1 := congrFun (hS1c.2 80 (by decide)) _
      have e43 : S194.1 54 39 = S187.1 54 39 := hS194.1 39 (by decide)
      have e44 : S187.1 54 39 = S1c.1 54 39 := hS187.1 39 (by decide)
      have e45 : S194.2 77 a1 = S187.2 77 a1 := congrFun (hS194.2 77 (by decide)) _
      have e46 : S187.2 77 a1 = S1c.2 77 a1 := congrFun (hS187.2 77 (by decide)) _
      have e47 : S1c.2 77 a1 = S.2 77 a1 := congrFun (hS1c.2 77 (by decide)) _
      have e48 : S194.2 78 a1 = S187.2 78 a1 := congrFun (hS194.2 78 (by decide)) _
      have e49 : S187.2 78 a1 = S1c.2 78 a1 := congrFun (hS187.2 78 (by decide)) _
      have e50 : S1c.2 78 a1 = S.2 78 a1 := congrFun (hS1c.2 78 (by decide)) _
      have e51 : S194.2 79 a1 = S187.2 79 a1 := congrFun (hS194.2 79 (by decide)) _
      have e52 : S187.2 79 a1 = S1c.2 79 a1 := congrFun (hS187.2 79 (by decide)) _
      have e53 : S1c.2 79 a1 = S.2 79 a1 := congrFun (hS1c.2 79 (by decide)) _
      have e54 : S194.2 80 a1 = S187.2 80 a1 := congrFun (hS194.2 80 (by decide)) _
      have e55 := hS187v a1
      have e56 : S1c.2 80 a1 = S.2 80 a1 := congrFun (hS1c.2 80 (by decide)) _
      have e57 := hS194v a1
      have e58 : S187.2 81 a1 = S1c.2 81 a1 := congrFun (hS187.2 81 (by decide)) _
      have e59 : S1c.2 81 a1 = S.2 81 a1 := congrFun (hS1c.2 81 (by decide)) _
      have e60 : S194.2 82 a1 = S187.2 82 a1 := congrFun (hS194.2 82 (by decide)) _
      have e61 : S187.2 82 a1 = S1c.2 82 a1 := congrFun (hS187.2 82 (by decide)) _
      have e62 := c11 a1
      have fb := fl_z (S := S194) (o := a1) (by omega)
      have fa := fl_is (S := S) (o := a1) (k := a2) p3
      exact hK (1) S194 (Ch.wk (Ch.tr (Ch.tr hS1c hS187) hS194) (by decide) (by decide)) (by omega) (by omega) (by omega) (PW.mv c9 (((Ch.tr hS187 hS194)).1 25 (by decide)) (((Ch.tr hS187 hS194)).2 72 (by decide))) (BW.mv2 c10 (((Ch.tr hS187 hS194)).1 25 (by decide)) (((Ch.tr hS187 hS194)).2 75 (by decide))) (OWI_step (o := a1) (Ch.wk (Ch.tr (Ch.tr hS1c hS187) hS194) (by decide) (by decide)) (by omega) (by omega) (by omega) p15 (by
            intro x
            have e5 : S194.2 77 x = S187.2 77 x := congrFun (hS194.2 77 (by decide)) _
            have e6 : S187.2 77 x = S1c.2 77 x := congrFun (hS187.2 77 (by decide)) _
            have e7 : S1c.2 77 x = S.2 77 x := congrFun (hS1c.2 77 (by decide)) _
            omega) (by
            intro x
            have e8 : S194.2 78 x = S187.2 78 x := congrFun (hS194.2 78 (by decide)) _
            have e9 : S187.2 78 x = S1c.2 78 x := congrFun (hS187.2 78 (by decide)) _
            have e10 : S1c.2 78 x = S.2 78 x := congrFun (hS1c.2 78 (by decide)) _
            omega) (by
            intro x
            have e11 : S194.2 79 x = S187.2 79 x := congrFun (hS194.2 79 (by decide)) _
            have e12 : S187.2 79 x = S1c.2 79 x := congrFun (hS187.2 79 (by decide)) _
            have e13 : S1c.2 79 x = S.2 79 x := congrFun (hS1c.2 79 (by decide)) _
            omega) (by
            intro x
            have e14 : S194.2 80 x = S187.2 80 x := congrFun (hS194.2 80 (by decide)) _
            have e15 := hS187v x
            have e16 : S1c.2 80 x = S.2 80 x := congrFun (hS1c.2 80 (by decide)) _
            omega) (by
            intro x
            have e17 := hS194v x
            have e18 : S187.2 81 x = S1c.2 81 x := congrFun (hS187.2 81 (by decide)) _
            have e19 : S1c.2 81 x = S.2 81 x := congrFun (hS1c.2 81 (by decide)) _
            omega) (by
            intro x
            have e20 : S194.2 82 x = S187.2 82 x := congrFun (hS194.2 82 (by decide)) _
            have e21 : S187.2 82 x = S1c.2 82 x := congrFun (hS187.2 82 (by decide)) _
            have e22 := c11 x
            omega) (Or.inr (owi_top (Ch.wk (Ch.tr (Ch.tr hS1c hS187) hS194) (by decide) (by decide)) (owi_of p15 (by omega) (by omega)) (by omega) (by omega) (by omega) (by omega) (by omega) (by omega))) (Or.inl (by omega))) (EWI_step (o := a1) (by omega) (Ch.wk (Ch.tr (Ch.tr hS1c hS187) hS194) (by decide) (by decide)) (by omega) p16 (by omega) (by
            intro x
            have e23 : S194.2 77 x = S187.2 77 x := congrFun (hS194.2 77 (by decide)) _
            have e24 : S187.2 77 x = S1c.2 77 x := congrFun (hS187.2 77 (by decide)) _
            have e25 : S1c.2 77 x = S.2 77 x := congrFun (hS1c.2 77 (by decide)) _
            omega) (by
            intro x
            have e26 : S194.2 80 x = S187.2 80 x := congrFun (hS194.2 80 (by decide)) _
            have e27 := hS187v x
            have e28 : S1c.2 80 x = S.2 80 x := congrFun (hS1c.2 80 (by decide)) _
            omega) (by
            intro x
            have e29 := hS194v x
            have e30 : S187.2 81 x = S1c.2 81 x := congrFun (hS187.2 81 (by decide)) _
            have e31 : S1c.2 81 x = S.2 81 x := congrFun (hS1c.2 81 (by decide)) _
            omega) (by omega)) (by omega) (by omega)
    · refine ⟨fun h169 => ?_, fun h169 => ?_⟩
      · unfold wX11_lists_178
        refine ⟨by omega, by omega, ?_⟩
        intro q63
        have e64 : S1c.2 80 (l1) = S.2 80 (l1) := congrFun (hS1c.2 80 (by decide)) _
        refine ⟨by omega, by omega, ?_⟩
        refine ⟨by omega, ?_⟩
        intro S187 hS187e
        have hS187 : Ch [] [80] S1c S187 := Ch_A hS187e
        have hS187v : ∀ x, S187.2 80 x = if x = l1 then (S1c.2 80 (l1) + 1) else S1c.2 80 x := pA_at hS187e
        refine ⟨by omega, by omega, ?_⟩
        intro S194 hS194e
        have hS194 : Ch [] [81] S187 S194 := Ch_A hS194e
        have hS194v : ∀ x, S194.2 81 x = if x = l1 then 0 else S187.2 81 x := pA_at hS194e
        have e92 : S194.1 54 30 = S187.1 54 30 := hS194.1 30 (by decide)
        have e93 : S187.1 54 30 = S1c.1 54 30 := hS187.1 30 (by decide)
        have e94 : S1c.1 54 30 = S.1 54 30 := hS1c.1 30 (by decide)
        have e95 : S194.1 54 32 = S187.1 54 32 := hS194.1 32 (by decide)
        have e96 : S187.1 54 32 = S1c.1 54 32 := hS187.1 32 (by decide)
        have e97 : S1c.1 54 32 = S.1 54 32 := hS1c.1 32 (by decide)
        have e98 : S194.1 54 39 = S187.1 54 39 := hS194.1 39 (by decide)
        have e99 : S187.1 54 39 = S1c.1 54 39 := hS187.1 39 (by decide)
        have e100 : S194.2 80 a1 = S187.2 80 a1 := congrFun (hS194.2 80 (by decide)) _
        have e101 := hS187v a1
        have e102 : S1c.2 80 a1 = S.2 80 a1 := congrFun (hS1c.2 80 (by decide)) _
        have e103 : S194.1 54 39 = S187.1 54 39 := hS194.1 39 (by decide)
        have e104 : S187.1 54 39 = S1c.1 54 39 := hS187.1 39 (by decide)
        have e105 : S194.2 77 a1 = S187.2 77 a1 := congrFun (hS194.2 77 (by decide)) _
        have e106 : S187.2 77 a1 = S1c.2 77 a1 := congrFun (hS187.2 77 (by decide)) _
        have e107 : S1c.2 77 a1 = S.2 77 a1 := congrFun (hS1c.2 77 (by decide)) _
        have e108 : S194.2 78 a1 = S187.2 78 a1 := congrFun (hS194.2 78 (by decide)) _
        have e109 : S187.2 78 a1 = S1c.2 78 a1 := congrFun (hS187.2 78 (by decide)) _
        have e110 : S1c.2 78 a1 = S.2 78 a1 := congrFun (hS1c.2 78 (by decide)) _
        have e111 : S194.2 79 a1 = S187.2 79 a1 := congrFun (hS194.2 79 (by decide)) _
        have e112 : S187.2 79 a1 = S1c.2 79 a1 := congrFun (hS187.2 79 (by decide)) _
        have e113 : S1c.2 79 a1 = S.2 79 a1 := congrFun (hS1c.2 79 (by decide)) _
        have e114 : S194.2 80 a1 = S187.2 80 a1 := congrFun (hS194.2 80 (by decide)) _
        have e115 := hS187v a1
        have e116 : S1c.2 80 a1 = S.2 80 a1 := congrFun (hS1c.2 80 (by decide)) _
        have e117 := hS194v a1
        have e118 : S187.2 81 a1 = S1c.2 81 a1 := congrFun (hS187.2 81 (by decide)) _
        have e119 : S1c.2 81 a1 = S.2 81 a1 := congrFun (hS1c.2 81 (by decide)) _
        have e120 : S194.2 82 a1 = S187.2 82 a1 := congrFun (hS194.2 82 (by decide)) _
        have e121 : S187.2 82 a1 = S1c.2 82 a1 := congrFun (hS187.2 82 (by decide)) _
        have e122 := c11 a1
        have fb := fl_z (S := S194) (o := a1) (by omega)
        have fa := fl_is (S := S) (o := a1) (k := a2) p3
        exact hK (1) S194 (Ch.wk (Ch.tr (Ch.tr hS1c hS187) hS194) (by decide) (by decide)) (by omega) (by omega) (by omega) (PW.mv c9 (((Ch.tr hS187 hS194)).1 25 (by decide)) (((Ch.tr hS187 hS194)).2 72 (by decide))) (BW.mv2 c10 (((Ch.tr hS187 hS194)).1 25 (by decide)) (((Ch.tr hS187 hS194)).2 75 (by decide))) (OWI_step (o := a1) (Ch.wk (Ch.tr (Ch.tr hS1c hS187) hS194) (by decide) (by decide)) (by omega) (by omega) (by omega) p15 (by
              intro x
              have e65 : S194.2 77 x = S187.2 77 x := congrFun (hS194.2 77 (by decide)) _
              have e66 : S187.2 77 x = S1c.2 77 x := congrFun (hS187.2 77 (by decide)) _
              have e67 : S1c.2 77 x = S.2 77 x := congrFun (hS1c.2 77 (by decide)) _
              omega) (by
              intro x
              have e68 : S194.2 78 x = S187.2 78 x := congrFun (hS194.2 78 (by decide)) _
              have e69 : S187.2 78 x = S1c.2 78 x := congrFun (hS187.2 78 (by decide)) _
              have e70 : S1c.2 78 x = S.2 78 x := congrFun (hS1c.2 78 (by decide)) _
              omega) (by
              intro x
              have e71 : S194.2 79 x = S187.2 79 x := congrFun (hS194.2 79 (by decide)) _
              have e72 : S187.2 79 x = S1c.2 79 x := congrFun (hS187.2 79 (by decide)) _
              have e73 : S1c.2 79 x = S.2 79 x := congrFun (hS1c.2 79 (by decide)) _
              omega) (by
              intro x
              have e74 : S194.2 80 x = S187.2 80 x := congrFun (hS194.2 80 (by decide)) _
              have e75 := hS187v x
              have e76 : S1c.2 80 x = S.2 80 x := congrFun (hS1c.2 80 (by decide)) _
              omega) (by
              intro x
              have e77 := hS194v x
              have e78 : S187.2 81 x = S1c.2 81 x := congrFun (hS187.2 81 (by decide)) _
              have e79 : S1c.2 81 x = S.2 81 x := congrFun (hS1c.2 81 (by decide)) _
              omega) (by
              intro x
              have e80 : S194.2 82 x = S187.2 82 x := congrFun (hS194.2 82 (by decide)) _
              have e81 : S187.2 82 x = S1c.2 82 x := congrFun (hS187.2 82 (by decide)) _
              have e82 := c11 x
              omega) (Or.inr (owi_top (Ch.wk (Ch.tr (Ch.tr hS1c hS187) hS194) (by decide) (by decide)) (owi_of p15 (by omega) (by omega)) (by omega) (by omega) (by omega) (by omega) (by omega) (by omega))) (Or.inl (by omega))) (EWI_step (o := a1) (by omega) (Ch.wk (Ch.tr (Ch.tr hS1c hS187) hS194) (by decide) (by decide)) (by omega) p16 (by omega) (by
              intro x
              have e83 : S194.2 77 x = S187.2 77 x := congrFun (hS194.2 77 (by decide)) _
              have e84 : S187.2 77 x = S1c.2 77 x := congrFun (hS187.2 77 (by decide)) _
              have e85 : S1c.2 77 x = S.2 77 x := congrFun (hS1c.2 77 (by decide)) _
              omega) (by
              intro x
              have e86 : S194.2 80 x = S187.2 80 x := congrFun (hS194.2 80 (by decide)) _
              have e87 := hS187v x
              have e88 : S1c.2 80 x = S.2 80 x := congrFun (hS1c.2 80 (by decide)) _
              omega) (by
              intro x
              have e89 := hS194v x
              have e90 : S187.2 81 x = S1c.2 81 x := congrFun (hS187.2 81 (by decide)) _
              have e91 : S1c.2 81 x = S.2 81 x := congrFun (hS1c.2 81 (by decide)) _
              omega) (by omega)) (by omega) (by omega)
      · refine ⟨by omega, ?_⟩
        have e123 : S1c.2 57 (l5) = S.2 57 (l5) := congrFun (hS1c.2 57 (by decide)) _
        refine tX11_end (by omega) (fun r175 S175 hS175 n175_0 n175_1 n175_2 => ?_)
        unfold wX11_lists_178
        refine ⟨by omega, by omega, ?_⟩
        intro q124
        have e125 : S175.2 80 (l1) = S1c.2 80 (l1) := congrFun (hS175.2 80 (by decide)) _
        have e126 : S1c.2 80 (l1) = S.2 80 (l1) := congrFun (hS1c.2 80 (by decide)) _
        refine ⟨by omega, by omega, ?_⟩
        refine ⟨by omega, ?_⟩
        intro S187 hS187e
        have hS187 : Ch [] [80] S175 S187 := Ch_A hS187e
        have hS187v : ∀ x, S187.2 80 x = if x = l1 then (S175.2 80 (l1) + 1) else S175.2 80 x := pA_at hS187e
        refine ⟨by omega, by omega, ?_⟩
        intro S194 hS194e
        have hS194 : Ch [] [81] S187 S194 := Ch_A hS194e
        have hS194v : ∀ x, S194.2 81 x = if x = l1 then 0 else S187.2 81 x := pA_at hS194e
        have e163 : S194.1 54 30 = S187.1 54 30 := hS194.1 30 (by decide)
        have e164 : S187.1 54 30 = S175.1 54 30 := hS187.1 30 (by decide)
        have e165 : S175.1 54 30 = S1c.1 54 30 := hS175.1 30 (by decide)
        have e166 : S1c.1 54 30 = S.1 54 30 := hS1c.1 30 (by decide)
        have e167 : S194.1 54 32 = S187.1 54 32 := hS194.1 32 (by decide)
        have e168 : S187.1 54 32 = S175.1 54 32 := hS187.1 32 (by decide)
        have e169 : S175.1 54 32 = S1c.1 54 32 := hS175.1 32 (by decide)
        have e170 : S1c.1 54 32 = S.1 54 32 := hS1c.1 32 (by decide)
        have e171 : S194.1 54 39 = S187.1 54 39 := hS194.1 39 (by decide)
        have e172 : S187.1 54 39 = S175.1 54 39 := hS187.1 39 (by decide)
        have e173 : S194.2 80 a1 = S187.2 80 a1 := congrFun (hS194.2 80 (by decide)) _
        have e174 := hS187v a1
        have e175 : S175.2 80 a1 = S1c.2 80 a1 := congrFun (hS175.2 80 (by decide)) _
        have e176 : S1c.2 80 a1 = S.2 80 a1 := congrFun (hS1c.2 80 (by decide)) _
        have e177 : S194.1 54 39 = S187.1 54 39 := hS194.1 39 (by decide)
        have e178 : S187.1 54 39 = S175.1 54 39 := hS187.1 39 (by decide)
        have e179 : S194.2 77 a1 = S187.2 77 a1 := congrFun (hS194.2 77 (by decide)) _
        have e180 : S187.2 77 a1 = S175.2 77 a1 := congrFun (hS187.2 77 (by decide)) _
        have e181 : S175.2 77 a1 = S1c.2 77 a1 := congrFun (hS175.2 77 (by decide)) _
        have e182 : S1c.2 77 a1 = S.2 77 a1 := congrFun (hS1c.2 77 (by decide)) _
        have e183 : S194.2 78 a1 = S187.2 78 a1 := congrFun (hS194.2 78 (by decide)) _
        have e184 : S187.2 78 a1 = S175.2 78 a1 := congrFun (hS187.2 78 (by decide)) _
        have e185 : S175.2 78 a1 = S1c.2 78 a1 := congrFun (hS175.2 78 (by decide)) _
        have e186 : S1c.2 78 a1 = S.2 78 a1 := congrFun (hS1c.2 78 (by decide)) _
        have e187 : S194.2 79 a1 = S187.2 79 a1 := congrFun (hS194.2 79 (by decide)) _
        have e188 : S187.2 79 a1 = S175.2 79 a1 := congrFun (hS187.2 79 (by decide)) _
        have e189 : S175.2 79 a1 = S1c.2 79 a1 := congrFun (hS175.2 79 (by decide)) _
        have e190 : S1c.2 79 a1 = S.2 79 a1 := congrFun (hS1c.2 79 (by decide)) _
        have e191 : S194.2 80 a1 = S187.2 80 a1 := congrFun (hS194.2 80 (by decide)) _
        have e192 := hS187v a1
        have e193 : S175.2 80 a1 = S1c.2 80 a1 := congrFun (hS175.2 80 (by decide)) _
        have e194 : S1c.2 80 a1 = S.2 80 a1 := congrFun (hS1c.2 80 (by decide)) _
        have e195 := hS194v a1
        have e196 : S187.2 81 a1 = S175.2 81 a1 := congrFun (hS187.2 81 (by decide)) _
        have e197 : S175.2 81 a1 = S1c.2 81 a1 := congrFun (hS175.2 81 (by decide)) _
        have e198 : S1c.2 81 a1 = S.2 81 a1 := congrFun (hS1c.2 81 (by decide)) _
        have e199 : S194.2 82 a1 = S187.2 82 a1 := congrFun (hS194.2 82 (by decide)) _
        have e200 : S187.2 82 a1 = S175.2 82 a1 := congrFun (hS187.2 82 (by decide)) _
        have e201 : S175.2 82 a1 = S1c.2 82 a1 := congrFun (hS175.2 82 (by decide)) _
        have e202 := c11 a1
        have fb := fl_z (S := S194) (o := a1) (by omega)
        have fa := fl_is (S := S) (o := a1) (k := a2) p3
        exact hK (1) S194 (Ch.wk (Ch.tr (Ch.tr (Ch.tr hS1c hS175) hS187) hS194) (by decide) (by decide)) (by omega) (by omega) (by omega) (PW.mv c9 (((Ch.tr (Ch.tr hS175 hS187) hS194)).1 25 (by decide)) (((Ch.tr (Ch.tr hS175 hS187) hS194)).2 72 (by decide))) (BW.mv2 c10 (((Ch.tr (Ch.tr hS175 hS187) hS194)).1 25 (by decide)) (((Ch.tr (Ch.tr hS175 hS187) hS194)).2 75 (by decide))) (OWI_step (o := a1) (Ch.wk (Ch.tr (Ch.tr (Ch.tr hS1c hS175) hS187) hS194) (by decide) (by decide)) (by omega) (by omega) (by omega) p15 (by
              intro x
              have e127 : S194.2 77 x = S187.2 77 x := congrFun (hS194.2 77 (by decide)) _
              have e128 : S187.2 77 x = S175.2 77 x := congrFun (hS187.2 77 (by decide)) _
              have e129 : S175.2 77 x = S1c.2 77 x := congrFun (hS175.2 77 (by decide)) _
              have e130 : S1c.2 77 x = S.2 77 x := congrFun (hS1c.2 77 (by decide)) _
              omega) (by
              intro x
              have e131 : S194.2 78 x = S187.2 78 x := congrFun (hS194.2 78 (by decide)) _
              have e132 : S187.2 78 x = S175.2 78 x := congrFun (hS187.2 78 (by decide)) _
              have e133 : S175.2 78 x = S1c.2 78 x := congrFun (hS175.2 78 (by decide)) _
              have e134 : S1c.2 78 x = S.2 78 x := congrFun (hS1c.2 78 (by decide)) _
              omega) (by
              intro x
              have e135 : S194.2 79 x = S187.2 79 x := congrFun (hS194.2 79 (by decide)) _
              have e136 : S187.2 79 x = S175.2 79 x := congrFun (hS187.2 79 (by decide)) _
              have e137 : S175.2 79 x = S1c.2 79 x := congrFun (hS175.2 79 (by decide)) _
              have e138 : S1c.2 79 x = S.2 79 x := congrFun (hS1c.2 79 (by decide)) _
              omega) (by
              intro x
              have e139 : S194.2 80 x = S187.2 80 x := congrFun (hS194.2 80 (by decide)) _
              have e140 := hS187v x
              have e141 : S175.2 80 x = S1c.2 80 x := congrFun (hS175.2 80 (by decide)) _
              have e142 : S1c.2 80 x = S.2 80 x := congrFun (hS1c.2 80 (by decide)) _
              omega) (by
              intro x
              have e143 := hS194v x
              have e144 : S187.2 81 x = S175.2 81 x := congrFun (hS187.2 81 (by decide)) _
              have e145 : S175.2 81 x = S1c.2 81 x := congrFun (hS175.2 81 (by decide)) _
              have e146 : S1c.2 81 x = S.2 81 x := congrFun (hS1c.2 81 (by decide)) _
              omega) (by
              intro x
              have e147 : S194.2 82 x = S187.2 82 x := congrFun (hS194.2 82 (by decide)) _
              have e148 : S187.2 82 x = S175.2 82 x := congrFun (hS187.2 82 (by decide)) _
              have e149 : S175.2 82 x = S1c.2 82 x := congrFun (hS175.2 82 (by decide)) _
              have e150 := c11 x
              omega) (Or.inr (owi_top (Ch.wk (Ch.tr (Ch.tr (Ch.tr hS1c hS175) hS187) hS194) (by decide) (by decide)) (owi_of p15 (by omega) (by omega)) (by omega) (by omega) (by omega) (by omega) (by omega) (by omega))) (Or.inl (by omega))) (EWI_step (o := a1) (by omega) (Ch.wk (Ch.tr (Ch.tr (Ch.tr hS1c hS175) hS187) hS194) (by decide) (by decide)) (by omega) p16 (by omega) (by
              intro x
              have e151 : S194.2 77 x = S187.2 77 x := congrFun (hS194.2 77 (by decide)) _
              have e152 : S187.2 77 x = S175.2 77 x := congrFun (hS187.2 77 (by decide)) _
              have e153 : S175.2 77 x = S1c.2 77 x := congrFun (hS175.2 77 (by decide)) _
              have e154 : S1c.2 77 x = S.2 77 x := congrFun (hS1c.2 77 (by decide)) _
              omega) (by
              intro x
              have e155 : S194.2 80 x = S187.2 80 x := congrFun (hS194.2 80 (by decide)) _
              have e156 := hS187v x
              have e157 : S175.2 80 x = S1c.2 80 x := congrFun (hS175.2 80 (by decide)) _
              have e158 : S1c.2 80 x = S.2 80 x := congrFun (hS1c.2 80 (by decide)) _
              omega) (by
              intro x
              have e159 := hS194v x
              have e160 : S187.2 81 x = S175.2 81 x := congrFun (hS187.2 81 (by decide)) _
              have e161 : S175.2 81 x = S1c.2 81 x := congrFun (hS175.2 81 (by decide)) _
              have e162 : S1c.2 81 x = S.2 81 x := congrFun (hS1c.2 81 (by decide)) _
              omega) (by omega)) (by omega) (by omega)
  · refine ⟨by omega, by omega, ?_⟩
    intro q203
    have e204 : S1c.2 81 (l1) = S.2 81 (l1) := congrFun (hS1c.2 81 (by decide)) _
    refine ⟨by omega, by omega, ?_⟩
    refine ⟨by omega, ?_⟩
    intro S89 hS89e
    have hS89 : Ch [] [81] S1c S89 := Ch_A hS89e
    have hS89v : ∀ x, S89.2 81 x = if x = l1 then (S1c.2 81 (l1) + 1) else S1c.2 81 x := pA_at hS89e
    refine ⟨by omega, by omega, ?_⟩
    intro q205
    have e206 : S89.2 77 (l1) = S1c.2 77 (l1) := congrFun (hS89.2 77 (by decide)) _
    have e207 : S1c.2 77 (l1) = S.2 77 (l1) := congrFun (hS1c.2 77 (by decide)) _
    refine ⟨by omega, by omega, ?_⟩
    intro q208
    have e209 : S89.2 80 (l1) = S1c.2 80 (l1) := congrFun (hS89.2 80 (by decide)) _
    have e210 : S1c.2 80 (l1) = S.2 80 (l1) := congrFun (hS1c.2 80 (by decide)) _
    refine ⟨by omega, by omega, ?_⟩
    intro q211
    have e212 : S89.2 70 (((20 * ((4 * S89.2 77 (l1)) + S89.2 80 (l1))) + l6)) = S1c.2 70 (((20 * ((4 * S89.2 77 (l1)) + S89.2 80 (l1))) + l6)) := congrFun (hS89.2 70 (by decide)) _
    have e213 : S1c.2 70 (((20 * ((4 * S89.2 77 (l1)) + S89.2 80 (l1))) + l6)) = S.2 70 (((20 * ((4 * S89.2 77 (l1)) + S89.2 80 (l1))) + l6)) := congrFun (hS1c.2 70 (by decide)) _
    intro x116 hx116
    subst hx116
    have hti : ((20 * ((4 * S89.2 77 (l1)) + S89.2 80 (l1))) + l6) = 20 * (4 * S.2 77 a1 + S.2 80 a1) + S.2 81 a1 := by omega
    have htp : 0 ≤ S89.2 70 (((20 * ((4 * S89.2 77 (l1)) + S89.2 80 (l1))) + l6)) ∧ S89.2 70 (((20 * ((4 * S89.2 77 (l1)) + S89.2 80 (l1))) + l6)) < S.2 67 0 := by
      rw [(show S89.2 70 = S.2 70 from ((Ch.tr hS1c hS89)).2 70 (by decide)), hti]
      have := p13 (S.2 77 a1) (S.2 80 a1) (S.2 81 a1)
      omega
    have hs0 := p14 (S89.2 70 (((20 * ((4 * S89.2 77 (l1)) + S89.2 80 (l1))) + l6))) 0
    have hs : 1 ≤ S89.2 57 (S89.2 68 (S89.2 70 (((20 * ((4 * S89.2 77 (l1)) + S89.2 80 (l1))) + l6)))) := by
      rw [(show S89.2 57 = S.2 57 from ((Ch.tr hS1c hS89)).2 57 (by decide)), (show S89.2 68 = S.2 68 from ((Ch.tr hS1c hS89)).2 68 (by decide))]
      omega
    refine ⟨by omega, by omega, ?_⟩
    intro q214
    have e215 : S89.2 60 (l2) = S1c.2 60 (l2) := congrFun (hS89.2 60 (by decide)) _
    have e216 : S1c.2 60 (l2) = S.2 60 (l2) := congrFun (hS1c.2 60 (by decide)) _
    refine ⟨fun h127 => ?_, fun h127 => ?_⟩
    · refine ⟨by omega, by omega, ?_⟩
      intro q217
      have e218 : S89.2 82 (l1) = S1c.2 82 (l1) := congrFun (hS89.2 82 (by decide)) _
      have e219 := c11 (l1)
      unfold wX11_lists_145
      refine ⟨by omega, by omega, ?_⟩
      intro q220
      have e221 : S89.2 68 ((S89.2 70 (((20 * ((4 * S89.2 77 (l1)) + S89.2 80 (l1))) + l6)))) = S1c.2 68 ((S89.2 70 (((20 * ((4 * S89.2 77 (l1)) + S89.2 80 (l1))) + l6)))) := congrFun (hS89.2 68 (by decide)) _
      have e222 : S1c.2 68 ((S89.2 70 (((20 * ((4 * S89.2 77 (l1)) + S89.2 80 (l1))) + l6)))) = S.2 68 ((S89.2 70 (((20 * ((4 * S89.2 77 (l1)) + S89.2 80 (l1))) + l6)))) := congrFun (hS1c.2 68 (by decide)) _
      refine ⟨by omega, ?_⟩
      refine ⟨by omega, ?_⟩
      refine ⟨by omega, ?_⟩
      have e223 : S89.1 54 25 = S1c.1 54 25 := hS89.1 25 (by decide)
      have e224 : S89.1 54 32 = S1c.1 54 32 := hS89.1 32 (by decide)
      have e225 : S1c.1 54 32 = S.1 54 32 := hS1c.1 32 (by decide)
      have e226 : S89.1 54 19 = S1c.1 54 19 := hS89.1 19 (by decide)
      have e227 : S1c.1 54 19 = S.1 54 19 := hS1c.1 19 (by decide)
      have e228 : S89.1 54 25 = S1c.1 54 25 := hS89.1 25 (by decide)
      have e229 : S89.1 54 30 = S1c.1 54 30 := hS89.1 30 (by decide)
      have e230 : S1c.1 54 30 = S.1 54 30 := hS1c.1 30 (by decide)
      have e231 : S89.1 54 25 = S1c.1 54 25 := hS89.1 25 (by decide)
      have e232 : S89.2 67 0 = S1c.2 67 0 := congrFun (hS89.2 67 (by decide)) _
      have e233 : S1c.2 67 0 = S.2 67 0 := congrFun (hS1c.2 67 (by decide)) _
      have e234 : S89.1 54 25 = S1c.1 54 25 := hS89.1 25 (by decide)
      have e235 : S89.1 54 32 = S1c.1 54 32 := hS89.1 32 (by decide)
      have e236 : S1c.1 54 32 = S.1 54 32 := hS1c.1 32 (by decide)
      have e237 : S89.1 54 39 = S1c.1 54 39 := hS89.1 39 (by decide)
      have e238 : S89.1 54 25 = S1c.1 54 25 := hS89.1 25 (by decide)
      have e239 : S89.1 54 19 = S1c.1 54 19 := hS89.1 19 (by decide)
      have e240 : S1c.1 54 19 = S.1 54 19 := hS1c.1 19 (by decide)
      have e241 : S89.1 54 39 = S1c.1 54 39 := hS89.1 39 (by decide)
      have e242 : S89.1 54 32 = S1c.1 54 32 := hS89.1 32 (by decide)
      have e243 : S1c.1 54 32 = S.1 54 32 := hS1c.1 32 (by decide)
      have e244 : S89.1 54 32 = S1c.1 54 32 := hS89.1 32 (by decide)
      have e245 : S1c.1 54 32 = S.1 54 32 := hS1c.1 32 (by decide)
      have e246 : S89.1 54 32 = S1c.1 54 32 := hS89.1 32 (by decide)
      have e247 : S1c.1 54 32 = S.1 54 32 := hS1c.1 32 (by decide)
      have e248 : S89.1 54 32 = S1c.1 54 32 := hS89.1 32 (by decide)
      have e249 : S1c.1 54 32 = S.1 54 32 := hS1c.1 32 (by decide)
      have e250 : S89.1 54 32 = S1c.1 54 32 := hS89.1 32 (by decide)
      have e251 : S1c.1 54 32 = S.1 54 32 := hS1c.1 32 (by decide)
      have e252 : S89.1 54 32 = S1c.1 54 32 := hS89.1 32 (by decide)
      have e253 : S1c.1 54 32 = S.1 54 32 := hS1c.1 32 (by decide)
      refine tX11_child (by omega) (by omega) (by omega) (by omega) (by omega) (by omega) (by omega) (by omega) (by omega) (PW.mv c9 ((hS89).1 25 (by decide)) ((hS89).2 72 (by decide))) (BW.mv2 c10 ((hS89).1 25 (by decide)) ((hS89).2 75 (by decide))) (OK0.mv p12  (((Ch.tr hS1c hS89)).2 59 (by decide)) (((Ch.tr hS1c hS89)).2 67 (by decide)) (((Ch.tr hS1c hS89)).2 68 (by decide)) (((Ch.tr hS1c hS89)).2 69 (by decide))) (by omega) (fun r155 S155 hS155 n155_0 n155_1 n155_2 n155_3 n155_4 n155_5 n155_6 n155_7 n155_8 n155_9 n155_10 n155_11 => ?_)
      refine ⟨by omega, ?_⟩
      have e281 := n155_9 a1
      have e282 : S89.2 80 a1 = S1c.2 80 a1 := congrFun (hS89.2 80 (by decide)) _
      have e283 : S1c.2 80 a1 = S.2 80 a1 := congrFun (hS1c.2 80 (by decide)) _
      have e284 := n155_6 a1
      have e285 : S89.2 77 a1 = S1c.2 77 a1 := congrFun (hS89.2 77 (by decide)) _
      have e286 : S1c.2 77 a1 = S.2 77 a1 := congrFun (hS1c.2 77 (by decide)) _
      have e287 := n155_7 a1
      have e288 : S89.2 78 a1 = S1c.2 78 a1 := congrFun (hS89.2 78 (by decide)) _
      have e289 : S1c.2 78 a1 = S.2 78 a1 := congrFun (hS1c.2 78 (by decide)) _
      have e290 := n155_8 a1
      have e291 : S89.2 79 a1 = S1c.2 79 a1 := congrFun (hS89.2 79 (by decide)) _
      have e292 : S1c.2 79 a1 = S.2 79 a1 := congrFun (hS1c.2 79 (by decide)) _
      have e293 := n155_9 a1
      have e294 : S89.2 80 a1 = S1c.2 80 a1 := congrFun (hS89.2 80 (by decide)) _
      have e295 : S1c.2 80 a1 = S.2 80 a1 := congrFun (hS1c.2 80 (by decide)) _
      have e296 := n155_10 a1
      have e297 := hS89v a1
      have e298 : S1c.2 81 a1 = S.2 81 a1 := congrFun (hS1c.2 81 (by decide)) _
      have e299 := n155_11 a1
      have e300 : S89.2 82 a1 = S1c.2 82 a1 := congrFun (hS89.2 82 (by decide)) _
      have e301 := c11 a1
      have hop : S89.1 54 32 = a1 + 1 := by omega
      rw [hop] at n155_4
      have fb := fl_it (S := S) (S' := S155) (o := a1) (k := a2) (Ch.wk (Ch.tr (Ch.tr hS1c hS89) hS155) (by decide) (by decide)) (by omega) (by omega) p3
      have fa := fl_is (S := S) (o := a1) (k := a2) p3
      exact hK (r155) S155 (Ch.wk (Ch.tr (Ch.tr hS1c hS89) hS155) (by decide) (by decide)) (by omega) (by omega) (by omega) n155_2 n155_3 (OWI_step (o := a1) (Ch.wk (Ch.tr (Ch.tr hS1c hS89) hS155) (by decide) (by decide)) (by omega) (by omega) (by omega) p15 (by
            intro x
            have e254 := n155_6 x
            have e255 : S89.2 77 x = S1c.2 77 x := congrFun (hS89.2 77 (by decide)) _
            have e256 : S1c.2 77 x = S.2 77 x := congrFun (hS1c.2 77 (by decide)) _
            omega) (by
            intro x
            have e257 := n155_7 x
            have e258 : S89.2 78 x = S1c.2 78 x := congrFun (hS89.2 78 (by decide)) _
            have e259 : S1c.2 78 x = S.2 78 x := congrFun (hS1c.2 78 (by decide)) _
            omega) (by
            intro x
            have e260 := n155_8 x
            have e261 : S89.2 79 x = S1c.2 79 x := congrFun (hS89.2 79 (by decide)) _
            have e262 : S1c.2 79 x = S.2 79 x := congrFun (hS1c.2 79 (by decide)) _
            omega) (by
            intro x
            have e263 := n155_9 x
            have e264 : S89.2 80 x = S1c.2 80 x := congrFun (hS89.2 80 (by decide)) _
            have e265 : S1c.2 80 x = S.2 80 x := congrFun (hS1c.2 80 (by decide)) _
            omega) (by
            intro x
            have e266 := n155_10 x
            have e267 := hS89v x
            have e268 : S1c.2 81 x = S.2 81 x := congrFun (hS1c.2 81 (by decide)) _
            omega) (by
            intro x
            have e269 := n155_11 x
            have e270 : S89.2 82 x = S1c.2 82 x := congrFun (hS89.2 82 (by decide)) _
            have e271 := c11 x
            omega) (Or.inr (owi_top (Ch.wk (Ch.tr (Ch.tr hS1c hS89) hS155) (by decide) (by decide)) (owi_of p15 (by omega) (by omega)) (by omega) (by omega) (by omega) (by omega) (by omega) (by omega))) (by
            rcases n155_4 with ⟨k1, k2, k3, k4⟩ | ⟨k1, k2, k3, k4⟩ | ⟨k1, k2, k3, k4, k5, ⟨m1, m2, m3, m4, m5, m6⟩, m7⟩
            · exact Or.inl (by omega)
            · exact Or.inl (by omega)
            · refine Or.inr (owi_new (Ch.wk (Ch.tr (Ch.tr hS1c hS89) hS155) (by decide) (by decide)) (by omega) (by omega) ?_ (by omega) ?_ (by omega) (by omega) (by omega))
              · rw [m3]
                have hs2 := hs
                rw [(show S89.2 57 = S.2 57 from ((Ch.tr hS1c hS89)).2 57 (by decide))] at hs2
                exact hs2
              · rw [m1]
                have hs2 := m7
                rw [(show S89.2 56 = S.2 56 from ((Ch.tr hS1c hS89)).2 56 (by decide)), (show S89.2 68 = S.2 68 from ((Ch.tr hS1c hS89)).2 68 (by decide))] at hs2
                exact hs2)) (EWI_step (o := a1) (by omega) (Ch.wk (Ch.tr (Ch.tr hS1c hS89) hS155) (by decide) (by decide)) (by omega) p16 (by omega) (by
            intro x
            have e272 := n155_6 x
            have e273 : S89.2 77 x = S1c.2 77 x := congrFun (hS89.2 77 (by decide)) _
            have e274 : S1c.2 77 x = S.2 77 x := congrFun (hS1c.2 77 (by decide)) _
            omega) (by
            intro x
            have e275 := n155_9 x
            have e276 : S89.2 80 x = S1c.2 80 x := congrFun (hS89.2 80 (by decide)) _
            have e277 : S1c.2 80 x = S.2 80 x := congrFun (hS1c.2 80 (by decide)) _
            omega) (by
            intro x
            have e278 := n155_10 x
            have e279 := hS89v x
            have e280 : S1c.2 81 x = S.2 81 x := congrFun (hS1c.2 81 (by decide)) _
            omega) (by omega)) (by omega) (by omega)
    · refine ⟨by omega, by omega, ?_⟩
      intro q302
      have e303 : S89.2 78 (l1) = S1c.2 78 (l1) := congrFun (hS89.2 78 (by decide)) _
      have e304 : S1c.2 78 (l1) = S.2 78 (l1) := congrFun (hS1c.2 78 (by decide)) _
      unfold wX11_lists_145
      refine ⟨by omega, by omega, ?_⟩
      intro q305
      have e306 : S89.2 68 ((S89.2 70 (((20 * ((4 * S89.2 77 (l1)) + S89.2 80 (l1))) + l6)))) = S1c.2 68 ((S89.2 70 (((20 * ((4 * S89.2 77 (l1)) + S89.2 80 (l1))) + l6)))) := congrFun (hS89.2 68 (by decide)) _
      have e307 : S1c.2 68 ((S89.2 70 (((20 * ((4 * S89.2 77 (l1)) + S89.2 80 (l1))) + l6)))) = S.2 68 ((S89.2 70 (((20 * ((4 * S89.2 77 (l1)) + S89.2 80 (l1))) + l6)))) := congrFun (hS1c.2 68 (by decide)) _
      refine ⟨by omega, ?_⟩
      refine ⟨by omega, ?_⟩
      refine ⟨by omega, ?_⟩
      have e308 : S89.1 54 25 = S1c.1 54 25 := hS89.1 25 (by decide)
      have e309 : S89.1 54 32 = S1c.1 54 32 := hS89.1 32 (by decide)
      have e310 : S1c.1 54 32 = S.1 54 32 := hS1c.1 32 (by decide)
      have e311 : S89.1 54 19 = S1c.1 54 19 := hS89.1 19 (by decide)
      have e312 : S1c.1 54 19 = S.1 54 19 := hS1c.1 19 (by decide)
      have e313 : S89.1 54 25 = S1c.1 54 25 := hS89.1 25 (by decide)
      have e314 : S89.1 54 30 = S1c.1 54 30 := hS89.1 30 (by decide)
      have e315 : S1c.1 54 30 = S.1 54 30 := hS1c.1 30 (by decide)
      have e316 : S89.1 54 25 = S1c.1 54 25 := hS89.1 25 (by decide)
      have e317 : S89.2 67 0 = S1c.2 67 0 := congrFun (hS89.2 67 (by decide)) _
      have e318 : S1c.2 67 0 = S.2 67 0 := congrFun (hS1c.2 67 (by decide)) _
      have e319 : S89.1 54 25 = S1c.1 54 25 := hS89.1 25 (by decide)
      have e320 : S89.1 54 32 = S1c.1 54 32 := hS89.1 32 (by decide)
      have e321 : S1c.1 54 32 = S.1 54 32 := hS1c.1 32 (by decide)
      have e322 : S89.1 54 39 = S1c.1 54 39 := hS89.1 39 (by decide)
      have e323 : S89.1 54 25 = S1c.1 54 25 := hS89.1 25 (by decide)
      have e324 : S89.1 54 19 = S1c.1 54 19 := hS89.1 19 (by decide)
      have e325 : S1c.1 54 19 = S.1 54 19 := hS1c.1 19 (by decide)
      have e326 : S89.1 54 39 = S1c.1 54 39 := hS89.1 39 (by decide)
      have e327 : S89.1 54 32 = S1c.1 54 32 := hS89.1 32 (by decide)
      have e328 : S1c.1 54 32 = S.1 54 32 := hS1c.1 32 (by decide)
      have e329 : S89.1 54 32 = S1c.1 54 32 := hS89.1 32 (by decide)
      have e330 : S1c.1 54 32 = S.1 54 32 := hS1c.1 32 (by decide)
      have e331 : S89.1 54 32 = S1c.1 54 32 := hS89.1 32 (by decide)
      have e332 : S1c.1 54 32 = S.1 54 32 := hS1c.1 32 (by decide)
      have e333 : S89.1 54 32 = S1c.1 54 32 := hS89.1 32 (by decide)
      have e334 : S1c.1 54 32 = S.1 54 32 := hS1c.1 32 (by decide)
      have e335 : S89.1 54 32 = S1c.1 54 32 := hS89.1 32 (by decide)
      have e336 : S1c.1 54 32 = S.1 54 32 := hS1c.1 32 (by decide)
      have e337 : S89.1 54 32 = S1c.1 54 32 := hS89.1 32 (by decide)
      have e338 : S1c.1 54 32 = S.1 54 32 := hS1c.1 32 (by decide)
      refine tX11_child (by omega) (by omega) (by omega) (by omega) (by omega) (by omega) (by omega) (by omega) (by omega) (PW.mv c9 ((hS89).1 25 (by decide)) ((hS89).2 72 (by decide))) (BW.mv2 c10 ((hS89).1 25 (by decide)) ((hS89).2 75 (by decide))) (OK0.mv p12  (((Ch.tr hS1c hS89)).2 59 (by decide)) (((Ch.tr hS1c hS89)).2 67 (by decide)) (((Ch.tr hS1c hS89)).2 68 (by decide)) (((Ch.tr hS1c hS89)).2 69 (by decide))) (by omega) (fun r155 S155 hS155 n155_0 n155_1 n155_2 n155_3 n155_4 n155_5 n155_6 n155_7 n155_8 n155_9 n155_10 n155_11 => ?_)
      refine ⟨by omega, ?_⟩
      have e366 := n155_9 a1
      have e367 : S89.2 80 a1 = S1c.2 80 a1 := congrFun (hS89.2 80 (by decide)) _
      have e368 : S1c.2 80 a1 = S.2 80 a1 := congrFun (hS1c.2 80 (by decide)) _
      have e369 := n155_6 a1
      have e370 : S89.2 77 a1 = S1c.2 77 a1 := congrFun (hS89.2 77 (by decide)) _
      have e371 : S1c.2 77 a1 = S.2 77 a1 := congrFun (hS1c.2 77 (by decide)) _
      have e372 := n155_7 a1
      have e373 : S89.2 78 a1 = S1c.2 78 a1 := congrFun (hS89.2 78 (by decide)) _
      have e374 : S1c.2 78 a1 = S.2 78 a1 := congrFun (hS1c.2 78 (by decide)) _
      have e375 := n155_8 a1
      have e376 : S89.2 79 a1 = S1c.2 79 a1 := congrFun (hS89.2 79 (by decide)) _
      have e377 : S1c.2 79 a1 = S.2 79 a1 := congrFun (hS1c.2 79 (by decide)) _
      have e378 := n155_9 a1
      have e379 : S89.2 80 a1 = S1c.2 80 a1 := congrFun (hS89.2 80 (by decide)) _
      have e380 : S1c.2 80 a1 = S.2 80 a1 := congrFun (hS1c.2 80 (by decide)) _
      have e381 := n155_10 a1
      have e382 := hS89v a1
      have e383 : S1c.2 81 a1 = S.2 81 a1 := congrFun (hS1c.2 81 (by decide)) _
      have e384 := n155_11 a1
      have e385 : S89.2 82 a1 = S1c.2 82 a1 := congrFun (hS89.2 82 (by decide)) _
      have e386 := c11 a1
      have hop : S89.1 54 32 = a1 + 1 := by omega
      rw [hop] at n155_4
      have fb := fl_it (S := S) (S' := S155) (o := a1) (k := a2) (Ch.wk (Ch.tr (Ch.tr hS1c hS89) hS155) (by decide) (by decide)) (by omega) (by omega) p3
      have fa := fl_is (S := S) (o := a1) (k := a2) p3
      exact hK (r155) S155 (Ch.wk (Ch.tr (Ch.tr hS1c hS89) hS155) (by decide) (by decide)) (by omega) (by omega) (by omega) n155_2 n155_3 (OWI_step (o := a1) (Ch.wk (Ch.tr (Ch.tr hS1c hS89) hS155) (by decide) (by decide)) (by omega) (by omega) (by omega) p15 (by
            intro x
            have e339 := n155_6 x
            have e340 : S89.2 77 x = S1c.2 77 x := congrFun (hS89.2 77 (by decide)) _
            have e341 : S1c.2 77 x = S.2 77 x := congrFun (hS1c.2 77 (by decide)) _
            omega) (by
            intro x
            have e342 := n155_7 x
            have e343 : S89.2 78 x = S1c.2 78 x := congrFun (hS89.2 78 (by decide)) _
            have e344 : S1c.2 78 x = S.2 78 x := congrFun (hS1c.2 78 (by decide)) _
            omega) (by
            intro x
            have e345 := n155_8 x
            have e346 : S89.2 79 x = S1c.2 79 x := congrFun (hS89.2 79 (by decide)) _
            have e347 : S1c.2 79 x = S.2 79 x := congrFun (hS1c.2 79 (by decide)) _
            omega) (by
            intro x
            have e348 := n155_9 x
            have e349 : S89.2 80 x = S1c.2 80 x := congrFun (hS89.2 80 (by decide)) _
            have e350 : S1c.2 80 x = S.2 80 x := congrFun (hS1c.2 80 (by decide)) _
            omega) (by
            intro x
            have e351 := n155_10 x
            have e352 := hS89v x
            have e353 : S1c.2 81 x = S.2 81 x := congrFun (hS1c.2 81 (by decide)) _
            omega) (by
            intro x
            have e354 := n155_11 x
            have e355 : S89.2 82 x = S1c.2 82 x := congrFun (hS89.2 82 (by decide)) _
            have e356 := c11 x
            omega) (Or.inr (owi_top (Ch.wk (Ch.tr (Ch.tr hS1c hS89) hS155) (by decide) (by decide)) (owi_of p15 (by omega) (by omega)) (by omega) (by omega) (by omega) (by omega) (by omega) (by omega))) (by
            rcases n155_4 with ⟨k1, k2, k3, k4⟩ | ⟨k1, k2, k3, k4⟩ | ⟨k1, k2, k3, k4, k5, ⟨m1, m2, m3, m4, m5, m6⟩, m7⟩
            · exact Or.inl (by omega)
            · exact Or.inl (by omega)
            · refine Or.inr (owi_new (Ch.wk (Ch.tr (Ch.tr hS1c hS89) hS155) (by decide) (by decide)) (by omega) (by omega) ?_ (by omega) ?_ (by omega) (by omega) (by omega))
              · rw [m3]
                have hs2 := hs
                rw [(show S89.2 57 = S.2 57 from ((Ch.tr hS1c hS89)).2 57 (by decide))] at hs2
                exact hs2
              · rw [m1]
                have hs2 := m7
                rw [(show S89.2 56 = S.2 56 from ((Ch.tr hS1c hS89)).2 56 (by decide)), (show S89.2 68 = S.2 68 from ((Ch.tr hS1c hS89)).2 68 (by decide))] at hs2
                exact hs2)) (EWI_step (o := a1) (by omega) (Ch.wk (Ch.tr (Ch.tr hS1c hS89) hS155) (by decide) (by decide)) (by omega) p16 (by omega) (by
            intro x
            have e357 := n155_6 x
            have e358 : S89.2 77 x = S1c.2 77 x := congrFun (hS89.2 77 (by decide)) _
            have e359 : S1c.2 77 x = S.2 77 x := congrFun (hS1c.2 77 (by decide)) _
            omega) (by
            intro x
            have e360 := n155_9 x
            have e361 : S89.2 80 x = S1c.2 80 x := congrFun (hS89.2 80 (by decide)) _
            have e362 : S1c.2 80 x = S.2 80 x := congrFun (hS1c.2 80 (by decide)) _
            omega) (by
            intro x
            have e363 := n155_10 x
            have e364 := hS89v x
            have e365 : S1c.2 81 x = S.2 81 x := congrFun (hS1c.2 81 (by decide)) _
            omega) (by omega)) (by omega) (by omega)
set_option maxRecDepth 100000 in
set_option maxHeartbeats 4000000 in
theorem tX11_lists {a1 a2 a3 a4 : Int} {S : St} {K : Int → St → Prop} (p1 : a1 = (S.1 54 32) - 1) (p2 : 0 ≤ a1) (p3 : a2 = 4 * (S.2 68) ((S.2 77) a1) + (S.2 80) a1) (p4 : (S.2 80) a1 + 1 ≤ (S.2 56) ((S.2 68) ((S.2 77) a1))) (p5 : (S.2 59) a2 = 3) (p6 : a3 = (S.2 69) (4 * (S.2 77) a1 + (S.2 80) a1)) (p7 : (S.1 54 39) ≤ 3000) (p8 : (S.1 54 30) ≤ (S.1 54 25)) (p9 : (S.1 54 32) ≤ (S.1 54 19)) (p10 : PW S) (p11 : BW S) (p12 : OK0 S) (p13 : OL0 S) (p14 : NMS S) (p15 : OWI S) (p16 : EWI S) (p17 : iv 0 29 ((S.2 77) a1)) (p18 : iv 0 4 ((S.2 80) a1)) (p19 : (S.1 54 32) ≤ 20) (p20 : iv 0 5 ((S.2 68) ((S.2 77) a1))) (p21 : (S.2 56) ((S.2 68) ((S.2 77) a1)) ≤ 4) (p22 : iv 1 20 (S.1 54 19)) (p23 : (S.2 67) 0 ≤ 30) (hK : ∀ (r : Int) (S' : St), Ch [25, 30, 32, 39] [72, 73, 74, 75, 76, 77, 78, 79, 80, 81, 82, 83] S S' → (iv 0 1 r) → ((S'.1 54 30) ≤ (S'.1 54 25)) → ((S'.1 54 32) ≤ (S.1 54 19)) → (PW S') → (BW S') → (OWI S') → (EWI S') → ((S'.1 54 39) = 3001 ∨ (S.1 54 39) < (S'.1 54 39) ∨ r = 0 ∨ ((S'.1 54 39) = (S.1 54 39) ∧ (S'.1 54 32) = (S.1 54 32) ∧ (S'.2 80) a1 = (S.2 80) a1 + 1 ∧ 0 ≤ (S.2 80) a1 ∧ (S.2 80) a1 ≤ 3)) → ((S.1 54 39) ≤ (S'.1 54 39)) → K r S') : wX11_lists a1 a2 a3 a4 S K := by
  unfold wX11_lists
  intro g1 g2 g3 g4
  have hk3 : (S.2 59) (4 * (S.2 68) ((S.2 77) a1) + (S.2 80) a1) = 3 := by rw [← p3]; exact p5
  have hk8 := p12 ((S.2 77) a1) ((S.2 80) a1)
  unfold tyV at hk8
  have hel := EWI_lt p16 p7 (by omega) (by omega)
  have hw6 := owi_of p15 (x := a1) (by omega) (by omega)
  unfold owi at hw6
  have hnm := p14 ((S.2 77) a1) ((S.2 80) a1)
  rw [← p3] at hnm
  intro x4 hx4
  subst hx4
  refine ⟨by omega, by omega, ?_⟩
  intro q1
  intro x12 hx12
  subst hx12
  refine ⟨fun h16 => ?_, fun h16 => ?_⟩
  · exact tX11_lists_74 g1 g2 g3 g4 p1 p2 p3 p4 p5 p6 p7 p8 p9 p10 p11 p12 p13 p14 p15 p16 p17 p18 p19 p20 p21 p22 p23 (Ch.wk Ch.rf (by decide) (by decide)) (by omega) (by omega) (by omega) (by omega) (by omega) (by omega) (by omega) (by omega) p10 p11 (by
          intro x
          omega) (by omega) (by omega) (by omega) hK
  · refine ⟨by omega, by omega, ?_⟩
    intro q2
    refine ⟨fun h25 => ?_, fun h25 => ?_⟩
    · exact tX11_lists_74 g1 g2 g3 g4 p1 p2 p3 p4 p5 p6 p7 p8 p9 p10 p11 p12 p13 p14 p15 p16 p17 p18 p19 p20 p21 p22 p23 (Ch.wk Ch.rf (by decide) (by decide)) (by omega) (by omega) (by omega) (by omega) (by omega) (by omega) (by omega) (by omega) p10 p11 (by
            intro x
            omega) (by omega) (by omega) (by omega) hK
    · refine ⟨by omega, by omega, ?_⟩
      intro q3
      refine ⟨by omega, ?_⟩
      refine tX11_element (by omega) (by omega) (by omega) (by omega) p10 p11 (fun r42 S42 hS42 n42_0 n42_1 n42_2 n42_3 => ?_)
      refine ⟨by omega, by omega, ?_⟩
      refine ⟨by omega, ?_⟩
      intro S45 hS45e
      have hS45 : Ch [] [82] S42 S45 := Ch_A hS45e
      have hS45v : ∀ x, S45.2 82 x = if x = a1 then r42 else S42.2 82 x := pA_at hS45e
      have e4 : S45.1 54 39 = S42.1 54 39 := hS45.1 39 (by decide)
      have e5 : S42.1 54 39 = S.1 54 39 := hS42.1 39 (by decide)
      refine tX11_put  (fun r49 S49 hS49 n49_0 => ?_)
      have e6 : S49.2 57 (((6 + a2))) = S45.2 57 (((6 + a2))) := congrFun (hS49.2 57 (by decide)) _
      have e7 : S45.2 57 (((6 + a2))) = S42.2 57 (((6 + a2))) := congrFun (hS45.2 57 (by decide)) _
      have e8 : S42.2 57 (((6 + a2))) = S.2 57 (((6 + a2))) := congrFun (hS42.2 57 (by decide)) _
      refine tX11_putName (by omega) (fun r55 S55 hS55 n55_0 n55_1 => ?_)
      refine ⟨fun h59 => ?_, fun h59 => ?_⟩
      · unfold wX11_lists_68
        refine tX11_put  (fun r71 S71 hS71 n71_0 => ?_)
        have e9 : S71.1 54 25 = S55.1 54 25 := hS71.1 25 (by decide)
        have e10 : S55.1 54 25 = S49.1 54 25 := hS55.1 25 (by decide)
        have e11 : S49.1 54 25 = S45.1 54 25 := hS49.1 25 (by decide)
        have e12 : S45.1 54 25 = S42.1 54 25 := hS45.1 25 (by decide)
        have e13 : S71.1 54 25 = S55.1 54 25 := hS71.1 25 (by decide)
        have e14 : S55.1 54 25 = S49.1 54 25 := hS55.1 25 (by decide)
        have e15 : S49.1 54 25 = S45.1 54 25 := hS49.1 25 (by decide)
        have e16 : S45.1 54 25 = S42.1 54 25 := hS45.1 25 (by decide)
        have e17 : S71.2 82 a1 = S55.2 82 a1 := congrFun (hS71.2 82 (by decide)) _
        have e18 : S55.2 82 a1 = S49.2 82 a1 := congrFun (hS55.2 82 (by decide)) _
        have e19 : S49.2 82 a1 = S45.2 82 a1 := congrFun (hS49.2 82 (by decide)) _
        have e20 := hS45v a1
        have e21 : S42.2 82 a1 = S.2 82 a1 := congrFun (hS42.2 82 (by decide)) _
        have e22 : S71.1 54 25 = S55.1 54 25 := hS71.1 25 (by decide)
        have e23 : S55.1 54 25 = S49.1 54 25 := hS55.1 25 (by decide)
        have e24 : S49.1 54 25 = S45.1 54 25 := hS49.1 25 (by decide)
        have e25 : S45.1 54 25 = S42.1 54 25 := hS45.1 25 (by decide)
        have e26 : S71.1 54 25 = S55.1 54 25 := hS71.1 25 (by decide)
        have e27 : S55.1 54 25 = S49.1 54 25 := hS55.1 25 (by decide)
        have e28 : S49.1 54 25 = S45.1 54 25 := hS49.1 25 (by decide)
        have e29 : S45.1 54 25 = S42.1 54 25 := hS45.1 25 (by decide)
        exact tX11_lists_74 g1 g2 g3 g4 p1 p2 p3 p4 p5 p6 p7 p8 p9 p10 p11 p12 p13 p14 p15 p16 p17 p18 p19 p20 p21 p22 p23 (Ch.wk (Ch.tr (Ch.tr (Ch.tr (Ch.tr hS42 hS45) hS49) hS55) hS71) (by decide) (by decide)) (by omega) (by omega) (by omega) (by omega) (by omega) (by omega) (by omega) (by omega) (PW.mv n42_2 (((Ch.tr (Ch.tr (Ch.tr hS45 hS49) hS55) hS71)).1 25 (by decide)) (((Ch.tr (Ch.tr (Ch.tr hS45 hS49) hS55) hS71)).2 72 (by decide))) (BW.mv2 n42_3 (((Ch.tr (Ch.tr (Ch.tr hS45 hS49) hS55) hS71)).1 25 (by decide)) (((Ch.tr (Ch.tr (Ch.tr hS45 hS49) hS55) hS71)).2 75 (by decide))) (by
              intro x
              have e30 : S71.2 82 x = S55.2 82 x := congrFun (hS71.2 82 (by decide)) _
              have e31 : S55.2 82 x = S49.2 82 x := congrFun (hS55.2 82 (by decide)) _
              have e32 : S49.2 82 x = S45.2 82 x := congrFun (hS49.2 82 (by decide)) _
              have e33 := hS45v x
              have e34 : S42.2 82 x = S.2 82 x := congrFun (hS42.2 82 (by decide)) _
              omega) (by omega) (by omega) (by omega) hK
      · refine tX11_put  (fun r65 S65 hS65 n65_0 => ?_)
        unfold wX11_lists_68
        refine tX11_put  (fun r71 S71 hS71 n71_0 => ?_)
        have e35 : S71.1 54 25 = S65.1 54 25 := hS71.1 25 (by decide)
        have e36 : S65.1 54 25 = S55.1 54 25 := hS65.1 25 (by decide)
        have e37 : S55.1 54 25 = S49.1 54 25 := hS55.1 25 (by decide)
        have e38 : S49.1 54 25 = S45.1 54 25 := hS49.1 25 (by decide)
        have e39 : S45.1 54 25 = S42.1 54 25 := hS45.1 25 (by decide)
        have e40 : S71.1 54 25 = S65.1 54 25 := hS71.1 25 (by decide)
        have e41 : S65.1 54 25 = S55.1 54 25 := hS65.1 25 (by decide)
        have e42 : S55.1 54 25 = S49.1 54 25 := hS55.1 25 (by decide)
        have e43 : S49.1 54 25 = S45.1 54 25 := hS49.1 25 (by decide)
        have e44 : S45.1 54 25 = S42.1 54 25 := hS45.1 25 (by decide)
        have e45 : S71.2 82 a1 = S65.2 82 a1 := congrFun (hS71.2 82 (by decide)) _
        have e46 : S65.2 82 a1 = S55.2 82 a1 := congrFun (hS65.2 82 (by decide)) _
        have e47 : S55.2 82 a1 = S49.2 82 a1 := congrFun (hS55.2 82 (by decide)) _
        have e48 : S49.2 82 a1 = S45.2 82 a1 := congrFun (hS49.2 82 (by decide)) _
        have e49 := hS45v a1
        have e50 : S42.2 82 a1 = S.2 82 a1 := congrFun (hS42.2 82 (by decide)) _
        have e51 : S71.1 54 25 = S65.1 54 25 := hS71.1 25 (by decide)
        have e52 : S65.1 54 25 = S55.1 54 25 := hS65.1 25 (by decide)
        have e53 : S55.1 54 25 = S49.1 54 25 := hS55.1 25 (by decide)
        have e54 : S49.1 54 25 = S45.1 54 25 := hS49.1 25 (by decide)
        have e55 : S45.1 54 25 = S42.1 54 25 := hS45.1 25 (by decide)
        have e56 : S71.1 54 25 = S65.1 54 25 := hS71.1 25 (by decide)
        have e57 : S65.1 54 25 = S55.1 54 25 := hS65.1 25 (by decide)
        have e58 : S55.1 54 25 = S49.1 54 25 := hS55.1 25 (by decide)
        have e59 : S49.1 54 25 = S45.1 54 25 := hS49.1 25 (by decide)
        have e60 : S45.1 54 25 = S42.1 54 25 := hS45.1 25 (by decide)
        exact tX11_lists_74 g1 g2 g3 g4 p1 p2 p3 p4 p5 p6 p7 p8 p9 p10 p11 p12 p13 p14 p15 p16 p17 p18 p19 p20 p21 p22 p23 (Ch.wk (Ch.tr (Ch.tr (Ch.tr (Ch.tr (Ch.tr hS42 hS45) hS49) hS55) hS65) hS71) (by decide) (by decide)) (by omega) (by omega) (by omega) (by omega) (by omega) (by omega) (by omega) (by omega) (PW.mv n42_2 (((Ch.tr (Ch.tr (Ch.tr (Ch.tr hS45 hS49) hS55) hS65) hS71)).1 25 (by decide)) (((Ch.tr (Ch.tr (Ch.tr (Ch.tr hS45 hS49) hS55) hS65) hS71)).2 72 (by decide))) (BW.mv2 n42_3 (((Ch.tr (Ch.tr (Ch.tr (Ch.tr hS45 hS49) hS55) hS65) hS71)).1 25 (by decide)) (((Ch.tr (Ch.tr (Ch.tr (Ch.tr hS45 hS49) hS55) hS65) hS71)).2 75 (by decide))) (by
              intro x
              have e61 : S71.2 82 x = S65.2 82 x := congrFun (hS71.2 82 (by decide)) _
              have e62 : S65.2 82 x = S55.2 82 x := congrFun (hS65.2 82 (by decide)) _
              have e63 : S55.2 82 x = S49.2 82 x := congrFun (hS55.2 82 (by decide)) _
              have e64 : S49.2 82 x = S45.2 82 x := congrFun (hS49.2 82 (by decide)) _
              have e65 := hS45v x
              have e66 : S42.2 82 x = S.2 82 x := congrFun (hS42.2 82 (by decide)) _
              omega) (by omega) (by omega) (by omega) hK

set_option maxRecDepth 100000 in
set_option maxHeartbeats 4000000 in
theorem tX11_goesOn {a1 : Int} {S : St} {K : Int → St → Prop} (p1 : 1 ≤ (S.1 54 32)) (p2 : (S.1 54 39) ≤ 3000) (p3 : (S.1 54 30) ≤ (S.1 54 25)) (p4 : (S.1 54 32) ≤ (S.1 54 19)) (p5 : PW S) (p6 : BW S) (p7 : OK0 S) (p8 : OL0 S) (p9 : NMS S) (p10 : OWI S) (p11 : EWI S) (p12 : (S.2 67) 0 ≤ 30) (p13 : iv 1 20 (S.1 54 19)) (hK : ∀ (r : Int) (S' : St), Ch [25, 30, 32, 39] [72, 73, 74, 75, 76, 77, 78, 79, 80, 81, 82, 83] S S' → (iv 0 1 r) → ((S'.1 54 30) ≤ (S'.1 54 25)) → ((S'.1 54 32) ≤ (S.1 54 19)) → (PW S') → (BW S') → (OWI S') → (EWI S') → ((S'.1 54 39) = 3001 ∨ (S.1 54 39) < (S'.1 54 39) ∨ r = 0 ∨ ((S'.1 54 39) = (S.1 54 39) ∧ (S'.1 54 32) = (S.1 54 32) ∧ (S'.2 80) ((S.1 54 32) - 1) = (S.2 80) ((S.1 54 32) - 1) + 1 ∧ 0 ≤ (S.2 80) ((S.1 54 32) - 1) ∧ (S.2 80) ((S.1 54 32) - 1) ≤ 3)) → ((S.1 54 39) ≤ (S'.1 54 39)) → K r S') : wX11_goesOn a1 S K := by
  unfold wX11_goesOn
  intro g1
  intro q1
  intro x6 hx6
  subst hx6
  refine ⟨by omega, by omega, ?_⟩
  intro q2
  intro x13 hx13
  subst hx13
  refine ⟨by omega, by omega, ?_⟩
  intro q3
  intro x20 hx20
  subst hx20
  refine ⟨by omega, by omega, ?_⟩
  intro q4
  intro x28 hx28
  subst hx28
  have hw6 := owi_of p10 (x := (S.1 54 32 - 1)) (by omega) (by omega)
  unfold owi at hw6
  have hel := EWI_lt p11 p2 (by omega) (by omega)
  refine ⟨by omega, by omega, ?_⟩
  intro q5
  refine ⟨fun h39 => ?_, fun h39 => ?_⟩
  · have hk8 := p7 (S.2 77 (S.1 54 32 - 1)) (S.2 80 (S.1 54 32 - 1))
    unfold tyV at hk8
    have hnm := p9 (S.2 77 (S.1 54 32 - 1)) (S.2 80 (S.1 54 32 - 1))
    intro x71 hx71
    subst hx71
    intro x78 hx78
    subst hx78
    refine ⟨by omega, by omega, ?_⟩
    intro q6
    intro x91 hx91
    subst hx91
    refine ⟨by omega, by omega, ?_⟩
    intro q7
    refine ⟨fun h101 => ?_, fun h101 => ?_⟩
    · refine ⟨by omega, by omega, ?_⟩
      intro q8
      refine ⟨by omega, by omega, ?_⟩
      refine ⟨by omega, ?_⟩
      intro S124 hS124e
      have hS124 : Ch [] [80] S S124 := Ch_A hS124e
      have hS124v : ∀ x, S124.2 80 x = if x = ((S.1 54 32 - 1)) then (S.2 80 (((S.1 54 32 - 1))) + 1) else S.2 80 x := pA_at hS124e
      refine ⟨by omega, by omega, ?_⟩
      intro q9
      have e10 : S124.2 59 ((((4 * (S.2 68 ((S.2 77 (((S.1 54 32 - 1))))))) + (S.2 80 (((S.1 54 32 - 1))))))) = S.2 59 ((((4 * (S.2 68 ((S.2 77 (((S.1 54 32 - 1))))))) + (S.2 80 (((S.1 54 32 - 1))))))) := congrFun (hS124.2 59 (by decide)) _
      refine ⟨fun h133 => ?_, fun h133 => ?_⟩
      · refine ⟨by omega, by omega, ?_⟩
        intro q11
        have e12 : S124.2 60 ((((4 * (S.2 68 ((S.2 77 (((S.1 54 32 - 1))))))) + (S.2 80 (((S.1 54 32 - 1))))))) = S.2 60 ((((4 * (S.2 68 ((S.2 77 (((S.1 54 32 - 1))))))) + (S.2 80 (((S.1 54 32 - 1))))))) := congrFun (hS124.2 60 (by decide)) _
        refine ⟨fun h175 => ?_, fun h175 => ?_⟩
        · have e22 : S124.1 54 30 = S.1 54 30 := hS124.1 30 (by decide)
          have e23 : S124.1 54 32 = S.1 54 32 := hS124.1 32 (by decide)
          have e24 : S124.1 54 39 = S.1 54 39 := hS124.1 39 (by decide)
          have e25 := hS124v ((S.1 54 32) - 1)
          have e26 : S124.1 54 39 = S.1 54 39 := hS124.1 39 (by decide)
          have e27 : S124.2 77 (S.1 54 32 - 1) = S.2 77 (S.1 54 32 - 1) := congrFun (hS124.2 77 (by decide)) _
          have e28 : S124.2 78 (S.1 54 32 - 1) = S.2 78 (S.1 54 32 - 1) := congrFun (hS124.2 78 (by decide)) _
          have e29 : S124.2 79 (S.1 54 32 - 1) = S.2 79 (S.1 54 32 - 1) := congrFun (hS124.2 79 (by decide)) _
          have e30 := hS124v (S.1 54 32 - 1)
          have e31 : S124.2 81 (S.1 54 32 - 1) = S.2 81 (S.1 54 32 - 1) := congrFun (hS124.2 81 (by decide)) _
          have e32 : S124.2 82 (S.1 54 32 - 1) = S.2 82 (S.1 54 32 - 1) := congrFun (hS124.2 82 (by decide)) _
          have fb := fl_z (S := S124) (o := (S.1 54 32 - 1)) (by omega)
          have fa := fl_01 (S := S) (x := (S.1 54 32 - 1))
          have fa0 := fl_z (S := S) (o := (S.1 54 32 - 1)) (by omega)
          exact hK (1) S124 (Ch.wk hS124 (by decide) (by decide)) (by omega) (by omega) (by omega) (PW.mv p5 ((hS124).1 25 (by decide)) ((hS124).2 72 (by decide))) (BW.mv2 p6 ((hS124).1 25 (by decide)) ((hS124).2 75 (by decide))) (OWI_step (o := (S.1 54 32 - 1)) (Ch.wk hS124 (by decide) (by decide)) (by omega) (by omega) (by omega) p10 (by
                intro x
                have e13 : S124.2 77 x = S.2 77 x := congrFun (hS124.2 77 (by decide)) _
                omega) (by
                intro x
                have e14 : S124.2 78 x = S.2 78 x := congrFun (hS124.2 78 (by decide)) _
                omega) (by
                intro x
                have e15 : S124.2 79 x = S.2 79 x := congrFun (hS124.2 79 (by decide)) _
                omega) (by
                intro x
                have e16 := hS124v x
                omega) (by
                intro x
                have e17 : S124.2 81 x = S.2 81 x := congrFun (hS124.2 81 (by decide)) _
                omega) (by
                intro x
                have e18 : S124.2 82 x = S.2 82 x := congrFun (hS124.2 82 (by decide)) _
                omega) (Or.inr (owi_top (Ch.wk hS124 (by decide) (by decide)) (owi_of p10 (by omega) (by omega)) (by omega) (by omega) (by omega) (by omega) (by omega) (by omega))) (Or.inl (by omega))) (EWI_step (o := (S.1 54 32 - 1)) (by omega) (Ch.wk hS124 (by decide) (by decide)) (by omega) p11 (by omega) (by
                intro x
                have e19 : S124.2 77 x = S.2 77 x := congrFun (hS124.2 77 (by decide)) _
                omega) (by
                intro x
                have e20 := hS124v x
                omega) (by
                intro x
                have e21 : S124.2 81 x = S.2 81 x := congrFun (hS124.2 81 (by decide)) _
                omega) (by omega)) (by omega) (by omega)
        · refine ⟨by omega, by omega, ?_⟩
          intro q33
          have e34 : S124.2 78 (((S.1 54 32 - 1))) = S.2 78 (((S.1 54 32 - 1))) := congrFun (hS124.2 78 (by decide)) _
          refine ⟨by omega, ?_⟩
          have e35 : S124.1 54 25 = S.1 54 25 := hS124.1 25 (by decide)
          have e36 : S124.1 54 25 = S.1 54 25 := hS124.1 25 (by decide)
          have e37 : S124.1 54 25 = S.1 54 25 := hS124.1 25 (by decide)
          have e38 : S124.1 54 25 = S.1 54 25 := hS124.1 25 (by decide)
          refine tX11_element (by omega) (by omega) (by omega) (by omega) (PW.mv p5 ((hS124).1 25 (by decide)) ((hS124).2 72 (by decide))) (BW.mv2 p6 ((hS124).1 25 (by decide)) ((hS124).2 75 (by decide))) (fun r187 S187 hS187 n187_0 n187_1 n187_2 n187_3 => ?_)
          have e39 : S187.1 54 39 = S124.1 54 39 := hS187.1 39 (by decide)
          have e40 : S124.1 54 39 = S.1 54 39 := hS124.1 39 (by decide)
          refine tX11_put  (fun r195 S195 hS195 n195_0 => ?_)
          refine tX11_putName (by omega) (fun r201 S201 hS201 n201_0 n201_1 => ?_)
          refine ⟨by omega, by omega, ?_⟩
          intro q41
          have e42 : S201.2 59 ((((4 * (S.2 68 ((S.2 77 (((S.1 54 32 - 1))))))) + (S.2 80 (((S.1 54 32 - 1))))))) = S195.2 59 ((((4 * (S.2 68 ((S.2 77 (((S.1 54 32 - 1))))))) + (S.2 80 (((S.1 54 32 - 1))))))) := congrFun (hS201.2 59 (by decide)) _
          have e43 : S195.2 59 ((((4 * (S.2 68 ((S.2 77 (((S.1 54 32 - 1))))))) + (S.2 80 (((S.1 54 32 - 1))))))) = S187.2 59 ((((4 * (S.2 68 ((S.2 77 (((S.1 54 32 - 1))))))) + (S.2 80 (((S.1 54 32 - 1))))))) := congrFun (hS195.2 59 (by decide)) _
          have e44 : S187.2 59 ((((4 * (S.2 68 ((S.2 77 (((S.1 54 32 - 1))))))) + (S.2 80 (((S.1 54 32 - 1))))))) = S124.2 59 ((((4 * (S.2 68 ((S.2 77 (((S.1 54 32 - 1))))))) + (S.2 80 (((S.1 54 32 - 1))))))) := congrFun (hS187.2 59 (by decide)) _
          have e45 : S124.2 59 ((((4 * (S.2 68 ((S.2 77 (((S.1 54 32 - 1))))))) + (S.2 80 (((S.1 54 32 - 1))))))) = S.2 59 ((((4 * (S.2 68 ((S.2 77 (((S.1 54 32 - 1))))))) + (S.2 80 (((S.1 54 32 - 1))))))) := congrFun (hS124.2 59 (by decide)) _
          refine ⟨fun h212 => ?_, fun h212 => ?_⟩
          · unfold wX11_goesOn_232
            refine tX11_put  (fun r235 S235 hS235 n235_0 => ?_)
            refine ⟨by omega, ?_⟩
            refine ⟨by omega, ?_⟩
            refine ⟨by omega, ?_⟩
            refine tX11_putValue (by omega) (by omega) (by omega) (by omega) (fun r245 S245 hS245 n245_0 => ?_)
            refine ⟨by omega, ?_⟩
            refine tX11_end (by omega) (fun r251 S251 hS251 n251_0 n251_1 n251_2 => ?_)
            have e109 : S251.1 54 30 = S245.1 54 30 := hS251.1 30 (by decide)
            have e110 : S245.1 54 30 = S235.1 54 30 := hS245.1 30 (by decide)
            have e111 : S235.1 54 30 = S201.1 54 30 := hS235.1 30 (by decide)
            have e112 : S201.1 54 30 = S195.1 54 30 := hS201.1 30 (by decide)
            have e113 : S195.1 54 30 = S187.1 54 30 := hS195.1 30 (by decide)
            have e114 : S187.1 54 30 = S124.1 54 30 := hS187.1 30 (by decide)
            have e115 : S124.1 54 30 = S.1 54 30 := hS124.1 30 (by decide)
            have e116 : S251.1 54 32 = S245.1 54 32 := hS251.1 32 (by decide)
            have e117 : S245.1 54 32 = S235.1 54 32 := hS245.1 32 (by decide)
            have e118 : S235.1 54 32 = S201.1 54 32 := hS235.1 32 (by decide)
            have e119 : S201.1 54 32 = S195.1 54 32 := hS201.1 32 (by decide)
            have e120 : S195.1 54 32 = S187.1 54 32 := hS195.1 32 (by decide)
            have e121 : S187.1 54 32 = S124.1 54 32 := hS187.1 32 (by decide)
            have e122 : S124.1 54 32 = S.1 54 32 := hS124.1 32 (by decide)
            have e123 : S251.2 80 ((S.1 54 32) - 1) = S245.2 80 ((S.1 54 32) - 1) := congrFun (hS251.2 80 (by decide)) _
            have e124 : S245.2 80 ((S.1 54 32) - 1) = S235.2 80 ((S.1 54 32) - 1) := congrFun (hS245.2 80 (by decide)) _
            have e125 : S235.2 80 ((S.1 54 32) - 1) = S201.2 80 ((S.1 54 32) - 1) := congrFun (hS235.2 80 (by decide)) _
            have e126 : S201.2 80 ((S.1 54 32) - 1) = S195.2 80 ((S.1 54 32) - 1) := congrFun (hS201.2 80 (by decide)) _
            have e127 : S195.2 80 ((S.1 54 32) - 1) = S187.2 80 ((S.1 54 32) - 1) := congrFun (hS195.2 80 (by decide)) _
            have e128 : S187.2 80 ((S.1 54 32) - 1) = S124.2 80 ((S.1 54 32) - 1) := congrFun (hS187.2 80 (by decide)) _
            have e129 := hS124v ((S.1 54 32) - 1)
            have e130 : S251.2 77 (S.1 54 32 - 1) = S245.2 77 (S.1 54 32 - 1) := congrFun (hS251.2 77 (by decide)) _
            have e131 : S245.2 77 (S.1 54 32 - 1) = S235.2 77 (S.1 54 32 - 1) := congrFun (hS245.2 77 (by decide)) _
            have e132 : S235.2 77 (S.1 54 32 - 1) = S201.2 77 (S.1 54 32 - 1) := congrFun (hS235.2 77 (by decide)) _
            have e133 : S201.2 77 (S.1 54 32 - 1) = S195.2 77 (S.1 54 32 - 1) := congrFun (hS201.2 77 (by decide)) _
            have e134 : S195.2 77 (S.1 54 32 - 1) = S187.2 77 (S.1 54 32 - 1) := congrFun (hS195.2 77 (by decide)) _
            have e135 : S187.2 77 (S.1 54 32 - 1) = S124.2 77 (S.1 54 32 - 1) := congrFun (hS187.2 77 (by decide)) _
            have e136 : S124.2 77 (S.1 54 32 - 1) = S.2 77 (S.1 54 32 - 1) := congrFun (hS124.2 77 (by decide)) _
            have e137 : S251.2 78 (S.1 54 32 - 1) = S245.2 78 (S.1 54 32 - 1) := congrFun (hS251.2 78 (by decide)) _
            have e138 : S245.2 78 (S.1 54 32 - 1) = S235.2 78 (S.1 54 32 - 1) := congrFun (hS245.2 78 (by decide)) _
            have e139 : S235.2 78 (S.1 54 32 - 1) = S201.2 78 (S.1 54 32 - 1) := congrFun (hS235.2 78 (by decide)) _
            have e140 : S201.2 78 (S.1 54 32 - 1) = S195.2 78 (S.1 54 32 - 1) := congrFun (hS201.2 78 (by decide)) _
            have e141 : S195.2 78 (S.1 54 32 - 1) = S187.2 78 (S.1 54 32 - 1) := congrFun (hS195.2 78 (by decide)) _
            have e142 : S187.2 78 (S.1 54 32 - 1) = S124.2 78 (S.1 54 32 - 1) := congrFun (hS187.2 78 (by decide)) _
            have e143 : S124.2 78 (S.1 54 32 - 1) = S.2 78 (S.1 54 32 - 1) := congrFun (hS124.2 78 (by decide)) _
            have e144 : S251.2 79 (S.1 54 32 - 1) = S245.2 79 (S.1 54 32 - 1) := congrFun (hS251.2 79 (by decide)) _
            have e145 : S245.2 79 (S.1 54 32 - 1) = S235.2 79 (S.1 54 32 - 1) := congrFun (hS245.2 79 (by decide)) _
            have e146 : S235.2 79 (S.1 54 32 - 1) = S201.2 79 (S.1 54 32 - 1) := congrFun (hS235.2 79 (by decide)) _
            have e147 : S201.2 79 (S.1 54 32 - 1) = S195.2 79 (S.1 54 32 - 1) := congrFun (hS201.2 79 (by decide)) _
            have e148 : S195.2 79 (S.1 54 32 - 1) = S187.2 79 (S.1 54 32 - 1) := congrFun (hS195.2 79 (by decide)) _
            have e149 : S187.2 79 (S.1 54 32 - 1) = S124.2 79 (S.1 54 32 - 1) := congrFun (hS187.2 79 (by decide)) _
            have e150 : S124.2 79 (S.1 54 32 - 1) = S.2 79 (S.1 54 32 - 1) := congrFun (hS124.2 79 (by decide)) _
            have e151 : S251.2 80 (S.1 54 32 - 1) = S245.2 80 (S.1 54 32 - 1) := congrFun (hS251.2 80 (by decide)) _
            have e152 : S245.2 80 (S.1 54 32 - 1) = S235.2 80 (S.1 54 32 - 1) := congrFun (hS245.2 80 (by decide)) _
            have e153 : S235.2 80 (S.1 54 32 - 1) = S201.2 80 (S.1 54 32 - 1) := congrFun (hS235.2 80 (by decide)) _
            have e154 : S201.2 80 (S.1 54 32 - 1) = S195.2 80 (S.1 54 32 - 1) := congrFun (hS201.2 80 (by decide)) _
            have e155 : S195.2 80 (S.1 54 32 - 1) = S187.2 80 (S.1 54 32 - 1) := congrFun (hS195.2 80 (by decide)) _
            have e156 : S187.2 80 (S.1 54 32 - 1) = S124.2 80 (S.1 54 32 - 1) := congrFun (hS187.2 80 (by decide)) _
            have e157 := hS124v (S.1 54 32 - 1)
            have e158 : S251.2 81 (S.1 54 32 - 1) = S245.2 81 (S.1 54 32 - 1) := congrFun (hS251.2 81 (by decide)) _
            have e159 : S245.2 81 (S.1 54 32 - 1) = S235.2 81 (S.1 54 32 - 1) := congrFun (hS245.2 81 (by decide)) _
            have e160 : S235.2 81 (S.1 54 32 - 1) = S201.2 81 (S.1 54 32 - 1) := congrFun (hS235.2 81 (by decide)) _
            have e161 : S201.2 81 (S.1 54 32 - 1) = S195.2 81 (S.1 54 32 - 1) := congrFun (hS201.2 81 (by decide)) _
            have e162 : S195.2 81 (S.1 54 32 - 1) = S187.2 81 (S.1 54 32 - 1) := congrFun (hS195.2 81 (by decide)) _
            have e163 : S187.2 81 (S.1 54 32 - 1) = S124.2 81 (S.1 54 32 - 1) := congrFun (hS187.2 81 (by decide)) _
            have e164 : S124.2 81 (S.1 54 32 - 1) = S.2 81 (S.1 54 32 - 1) := congrFun (hS124.2 81 (by decide)) _
            have e165 : S251.2 82 (S.1 54 32 - 1) = S245.2 82 (S.1 54 32 - 1) := congrFun (hS251.2 82 (by decide)) _
            have e166 : S245.2 82 (S.1 54 32 - 1) = S235.2 82 (S.1 54 32 - 1) := congrFun (hS245.2 82 (by decide)) _
            have e167 : S235.2 82 (S.1 54 32 - 1) = S201.2 82 (S.1 54 32 - 1) := congrFun (hS235.2 82 (by decide)) _
            have e168 : S201.2 82 (S.1 54 32 - 1) = S195.2 82 (S.1 54 32 - 1) := congrFun (hS201.2 82 (by decide)) _
            have e169 : S195.2 82 (S.1 54 32 - 1) = S187.2 82 (S.1 54 32 - 1) := congrFun (hS195.2 82 (by decide)) _
            have e170 : S187.2 82 (S.1 54 32 - 1) = S124.2 82 (S.1 54 32 - 1) := congrFun (hS187.2 82 (by decide)) _
            have e171 : S124.2 82 (S.1 54 32 - 1) = S.2 82 (S.1 54 32 - 1) := congrFun (hS124.2 82 (by decide)) _
            have fb := fl_z (S := S251) (o := (S.1 54 32 - 1)) (by omega)
            have fa := fl_01 (S := S) (x := (S.1 54 32 - 1))
            have fa0 := fl_z (S := S) (o := (S.1 54 32 - 1)) (by omega)
            exact hK (1) S251 (Ch.wk (Ch.tr (Ch.tr (Ch.tr (Ch.tr (Ch.tr (Ch.tr hS124 hS187) hS195) hS201) hS235) hS245) hS251) (by decide) (by decide)) (by omega) (by omega) (by omega) (PW.mv n187_2 (((Ch.tr (Ch.tr (Ch.tr (Ch.tr hS195 hS201) hS235) hS245) hS251)).1 25 (by decide)) (((Ch.tr (Ch.tr (Ch.tr (Ch.tr hS195 hS201) hS235) hS245) hS251)).2 72 (by decide))) (BW.mv2 n187_3 (((Ch.tr (Ch.tr (Ch.tr (Ch.tr hS195 hS201) hS235) hS245) hS251)).1 25 (by decide)) (((Ch.tr (Ch.tr (Ch.tr (Ch.tr hS195 hS201) hS235) hS245) hS251)).2 75 (by decide))) (OWI_step (o := (S.1 54 32 - 1)) (Ch.wk (Ch.tr (Ch.tr (Ch.tr (Ch.tr (Ch.tr (Ch.tr hS124 hS187) hS195) hS201) hS235) hS245) hS251) (by decide) (by decide)) (by omega) (by omega) (by omega) p10 (by
                  intro x
                  have e46 : S251.2 77 x = S245.2 77 x := congrFun (hS251.2 77 (by decide)) _
                  have e47 : S245.2 77 x = S235.2 77 x := congrFun (hS245.2 77 (by decide)) _
                  have e48 : S235.2 77 x = S201.2 77 x := congrFun (hS235.2 77 (by decide)) _
                  have e49 : S201.2 77 x = S195.2 77 x := congrFun (hS201.2 77 (by decide)) _
                  have e50 : S195.2 77 x = S187.2 77 x := congrFun (hS195.2 77 (by decide)) _
                  have e51 : S187.2 77 x = S124.2 77 x := congrFun (hS187.2 77 (by decide)) _
                  have e52 : S124.2 77 x = S.2 77 x := congrFun (hS124.2 77 (by decide)) _
                  omega) (by
                  intro x
                  have e53 : S251.2 78 x = S245.2 78 x := congrFun (hS251.2 78 (by decide)) _
                  have e54 : S245.2 78 x = S235.2 78 x := congrFun (hS245.2 78 (by decide)) _
                  have e55 : S235.2 78 x = S201.2 78 x := congrFun (hS235.2 78 (by decide)) _
                  have e56 : S201.2 78 x = S195.2 78 x := congrFun (hS201.2 78 (by decide)) _
                  have e57 : S195.2 78 x = S187.2 78 x := congrFun (hS195.2 78 (by decide)) _
                  have e58 : S187.2 78 x = S124.2 78 x := congrFun (hS187.2 78 (by decide)) _
                  have e59 : S124.2 78 x = S.2 78 x := congrFun (hS124.2 78 (by decide)) _
                  omega) (by
                  intro x
                  have e60 : S251.2 79 x = S245.2 79 x := congrFun (hS251.2 79 (by decide)) _
                  have e61 : S245.2 79 x = S235.2 79 x := congrFun (hS245.2 79 (by decide)) _
                  have e62 : S235.2 79 x = S201.2 79 x := congrFun (hS235.2 79 (by decide)) _
                  have e63 : S201.2 79 x = S195.2 79 x := congrFun (hS201.2 79 (by decide)) _
                  have e64 : S195.2 79 x = S187.2 79 x := congrFun (hS195.2 79 (by decide)) _
                  have e65 : S187.2 79 x = S124.2 79 x := congrFun (hS187.2 79 (by decide)) _
                  have e66 : S124.2 79 x = S.2 79 x := congrFun (hS124.2 79 (by decide)) _
                  omega) (by
                  intro x
                  have e67 : S251.2 80 x = S245.2 80 x := congrFun (hS251.2 80 (by decide)) _
                  have e68 : S245.2 80 x = S235.2 80 x := congrFun (hS245.2 80 (by decide)) _
                  have e69 : S235.2 80 x = S201.2 80 x := congrFun (hS235.2 80 (by decide)) _
                  have e70 : S201.2 80 x = S195.2 80 x := congrFun (hS201.2 80 (by decide)) _
                  have e71 : S195.2 80 x = S187.2 80 x := congrFun (hS195.2 80 (by decide)) _
                  have e72 : S187.2 80 x = S124.2 80 x := congrFun (hS187.2 80 (by decide)) _
                  have e73 := hS124v x
                  omega) (by
                  intro x
                  have e74 : S251.2 81 x = S245.2 81 x := congrFun (hS251.2 81 (by decide)) _
                  have e75 : S245.2 81 x = S235.2 81 x := congrFun (hS245.2 81 (by decide)) _
                  have e76 : S235.2 81 x = S201.2 81 x := congrFun (hS235.2 81 (by decide)) _
                  have e77 : S201.2 81 x = S195.2 81 x := congrFun (hS201.2 81 (by decide)) _
                  have e78 : S195.2 81 x = S187.2 81 x := congrFun (hS195.2 81 (by decide)) _
                  have e79 : S187.2 81 x = S124.2 81 x := congrFun (hS187.2 81 (by decide)) _
                  have e80 : S124.2 81 x = S.2 81 x := congrFun (hS124.2 81 (by decide)) _
                  omega) (by
                  intro x
                  have e81 : S251.2 82 x = S245.2 82 x := congrFun (hS251.2 82 (by decide)) _
                  have e82 : S245.2 82 x = S235.2 82 x := congrFun (hS245.2 82 (by decide)) _
                  have e83 : S235.2 82 x = S201.2 82 x := congrFun (hS235.2 82 (by decide)) _
                  have e84 : S201.2 82 x = S195.2 82 x := congrFun (hS201.2 82 (by decide)) _
                  have e85 : S195.2 82 x = S187.2 82 x := congrFun (hS195.2 82 (by decide)) _
                  have e86 : S187.2 82 x = S124.2 82 x := congrFun (hS187.2 82 (by decide)) _
                  have e87 : S124.2 82 x = S.2 82 x := congrFun (hS124.2 82 (by decide)) _
                  omega) (Or.inr (owi_top (Ch.wk (Ch.tr (Ch.tr (Ch.tr (Ch.tr (Ch.tr (Ch.tr hS124 hS187) hS195) hS201) hS235) hS245) hS251) (by decide) (by decide)) (owi_of p10 (by omega) (by omega)) (by omega) (by omega) (by omega) (by omega) (by omega) (by omega))) (Or.inl (by omega))) (EWI_step (o := (S.1 54 32 - 1)) (by omega) (Ch.wk (Ch.tr (Ch.tr (Ch.tr (Ch.tr (Ch.tr (Ch.tr hS124 hS187) hS195) hS201) hS235) hS245) hS251) (by decide) (by decide)) (by omega) p11 (by omega) (by
                  intro x
                  have e88 : S251.2 77 x = S245.2 77 x := congrFun (hS251.2 77 (by decide)) _
                  have e89 : S245.2 77 x = S235.2 77 x := congrFun (hS245.2 77 (by decide)) _
                  have e90 : S235.2 77 x = S201.2 77 x := congrFun (hS235.2 77 (by decide)) _
                  have e91 : S201.2 77 x = S195.2 77 x := congrFun (hS201.2 77 (by decide)) _
                  have e92 : S195.2 77 x = S187.2 77 x := congrFun (hS195.2 77 (by decide)) _
                  have e93 : S187.2 77 x = S124.2 77 x := congrFun (hS187.2 77 (by decide)) _
                  have e94 : S124.2 77 x = S.2 77 x := congrFun (hS124.2 77 (by decide)) _
                  omega) (by
                  intro x
                  have e95 : S251.2 80 x = S245.2 80 x := congrFun (hS251.2 80 (by decide)) _
                  have e96 : S245.2 80 x = S235.2 80 x := congrFun (hS245.2 80 (by decide)) _
                  have e97 : S235.2 80 x = S201.2 80 x := congrFun (hS235.2 80 (by decide)) _
                  have e98 : S201.2 80 x = S195.2 80 x := congrFun (hS201.2 80 (by decide)) _
                  have e99 : S195.2 80 x = S187.2 80 x := congrFun (hS195.2 80 (by decide)) _
                  have e100 : S187.2 80 x = S124.2 80 x := congrFun (hS187.2 80 (by decide)) _
                  have e101 := hS124v x
                  omega) (by
                  intro x
                  have e102 : S251.2 81 x = S245.2 81 x := congrFun (hS251.2 81 (by decide)) _
                  have e103 : S245.2 81 x = S235.2 81 x := congrFun (hS245.2 81 (by decide)) _
                  have e104 : S235.2 81 x = S201.2 81 x := congrFun (hS235.2 81 (by decide)) _
                  have e105 : S201.2 81 x = S195.2 81 x := congrFun (hS201.2 81 (by decide)) _
                  have e106 : S195.2 81 x = S187.2 81 x := congrFun (hS195.2 81 (by decide)) _
                  have e107 : S187.2 81 x = S124.2 81 x := congrFun (hS187.2 81 (by decide)) _
                  have e108 : S124.2 81 x = S.2 81 x := congrFun (hS124.2 81 (by decide)) _
                  omega) (by omega)) (by omega) (by omega)
          · refine ⟨fun h217 => ?_, fun h217 => ?_⟩
            · unfold wX11_goesOn_232
              refine tX11_put  (fun r235 S235 hS235 n235_0 => ?_)
              refine ⟨by omega, ?_⟩
              refine ⟨by omega, ?_⟩
              refine ⟨by omega, ?_⟩
              refine tX11_putValue (by omega) (by omega) (by omega) (by omega) (fun r245 S245 hS245 n245_0 => ?_)
              refine ⟨by omega, ?_⟩
              refine tX11_end (by omega) (fun r251 S251 hS251 n251_0 n251_1 n251_2 => ?_)
              have e235 : S251.1 54 30 = S245.1 54 30 := hS251.1 30 (by decide)
              have e236 : S245.1 54 30 = S235.1 54 30 := hS245.1 30 (by decide)
              have e237 : S235.1 54 30 = S201.1 54 30 := hS235.1 30 (by decide)
              have e238 : S201.1 54 30 = S195.1 54 30 := hS201.1 30 (by decide)
              have e239 : S195.1 54 30 = S187.1 54 30 := hS195.1 30 (by decide)
              have e240 : S187.1 54 30 = S124.1 54 30 := hS187.1 30 (by decide)
              have e241 : S124.1 54 30 = S.1 54 30 := hS124.1 30 (by decide)
              have e242 : S251.1 54 32 = S245.1 54 32 := hS251.1 32 (by decide)
              have e243 : S245.1 54 32 = S235.1 54 32 := hS245.1 32 (by decide)
              have e244 : S235.1 54 32 = S201.1 54 32 := hS235.1 32 (by decide)
              have e245 : S201.1 54 32 = S195.1 54 32 := hS201.1 32 (by decide)
              have e246 : S195.1 54 32 = S187.1 54 32 := hS195.1 32 (by decide)
              have e247 : S187.1 54 32 = S124.1 54 32 := hS187.1 32 (by decide)
              have e248 : S124.1 54 32 = S.1 54 32 := hS124.1 32 (by decide)
              have e249 : S251.2 80 ((S.1 54 32) - 1) = S245.2 80 ((S.1 54 32) - 1) := congrFun (hS251.2 80 (by decide)) _
              have e250 : S245.2 80 ((S.1 54 32) - 1) = S235.2 80 ((S.1 54 32) - 1) := congrFun (hS245.2 80 (by decide)) _
              have e251 : S235.2 80 ((S.1 54 32) - 1) = S201.2 80 ((S.1 54 32) - 1) := congrFun (hS235.2 80 (by decide)) _
              have e252 : S201.2 80 ((S.1 54 32) - 1) = S195.2 80 ((S.1 54 32) - 1) := congrFun (hS201.2 80 (by decide)) _
              have e253 : S195.2 80 ((S.1 54 32) - 1) = S187.2 80 ((S.1 54 32) - 1) := congrFun (hS195.2 80 (by decide)) _
              have e254 : S187.2 80 ((S.1 54 32) - 1) = S124.2 80 ((S.1 54 32) - 1) := congrFun (hS187.2 80 (by decide)) _
              have e255 := hS124v ((S.1 54 32) - 1)
              have e256 : S251.2 77 (S.1 54 32 - 1) = S245.2 77 (S.1 54 32 - 1) := congrFun (hS251.2 77 (by decide)) _
              have e257 : S245.2 77 (S.1 54 32 - 1) = S235.2 77 (S.1 54 32 - 1) := congrFun (hS245.2 77 (by decide)) _
              have e258 : S235.2 77 (S.1 54 32 - 1) = S201.2 77 (S.1 54 32 - 1) := congrFun (hS235.2 77 (by decide)) _
              have e259 : S201.2 77 (S.1 54 32 - 1) = S195.2 77 (S.1 54 32 - 1) := congrFun (hS201.2 77 (by decide)) _
              have e260 : S195.2 77 (S.1 54 32 - 1) = S187.2 77 (S.1 54 32 - 1) := congrFun (hS195.2 77 (by decide)) _
              have e261 : S187.2 77 (S.1 54 32 - 1) = S124.2 77 (S.1 54 32 - 1) := congrFun (hS187.2 77 (by decide)) _
              have e262 : S124.2 77 (S.1 54 32 - 1) = S.2 77 (S.1 54 32 - 1) := congrFun (hS124.2 77 (by decide)) _
              have e263 : S251.2 78 (S.1 54 32 - 1) = S245.2 78 (S.1 54 32 - 1) := congrFun (hS251.2 78 (by decide)) _
              have e264 : S245.2 78 (S.1 54 32 - 1) = S235.2 78 (S.1 54 32 - 1) := congrFun (hS245.2 78 (by decide)) _
              have e265 : S235.2 78 (S.1 54 32 - 1) = S201.2 78 (S.1 54 32 - 1) := congrFun (hS235.2 78 (by decide)) _
              have e266 : S201.2 78 (S.1 54 32 - 1) = S195.2 78 (S.1 54 32 - 1) := congrFun (hS201.2 78 (by decide)) _
              have e267 : S195.2 78 (S.1 54 32 - 1) = S187.2 78 (S.1 54 32 - 1) := congrFun (hS195.2 78 (by decide)) _
              have e268 : S187.2 78 (S.1 54 32 - 1) = S124.2 78 (S.1 54 32 - 1) := congrFun (hS187.2 78 (by decide)) _
              have e269 : S124.2 78 (S.1 54 32 - 1) = S.2 78 (S.1 54 32 - 1) := congrFun (hS124.2 78 (by decide)) _
              have e270 : S251.2 79 (S.1 54 32 - 1) = S245.2 79 (S.1 54 32 - 1) := congrFun (hS251.2 79 (by decide)) _
              have e271 : S245.2 79 (S.1 54 32 - 1) = S235.2 79 (S.1 54 32 - 1) := congrFun (hS245.2 79 (by decide)) _
              have e272 : S235.2 79 (S.1 54 32 - 1) = S201.2 79 (S.1 54 32 - 1) := congrFun (hS235.2 79 (by decide)) _
              have e273 : S201.2 79 (S.1 54 32 - 1) = S195.2 79 (S.1 54 32 - 1) := congrFun (hS201.2 79 (by decide)) _
              have e274 : S195.2 79 (S.1 54 32 - 1) = S187.2 79 (S.1 54 32 - 1) := congrFun (hS195.2 79 (by decide)) _
              have e275 : S187.2 79 (S.1 54 32 - 1) = S124.2 79 (S.1 54 32 - 1) := congrFun (hS187.2 79 (by decide)) _
              have e276 : S124.2 79 (S.1 54 32 - 1) = S.2 79 (S.1 54 32 - 1) := congrFun (hS124.2 79 (by decide)) _
              have e277 : S251.2 80 (S.1 54 32 - 1) = S245.2 80 (S.1 54 32 - 1) := congrFun (hS251.2 80 (by decide)) _
              have e278 : S245.2 80 (S.1 54 32 - 1) = S235.2 80 (S.1 54 32 - 1) := congrFun (hS245.2 80 (by decide)) _
              have e279 : S235.2 80 (S.1 54 32 - 1) = S201.2 80 (S.1 54 32 - 1) := congrFun (hS235.2 80 (by decide)) _
              have e280 : S201.2 80 (S.1 54 32 - 1) = S195.2 80 (S.1 54 32 - 1) := congrFun (hS201.2 80 (by decide)) _
              have e281 : S195.2 80 (S.1 54 32 - 1) = S187.2 80 (S.1 54 32 - 1) := congrFun (hS195.2 80 (by decide)) _
              have e282 : S187.2 80 (S.1 54 32 - 1) = S124.2 80 (S.1 54 32 - 1) := congrFun (hS187.2 80 (by decide)) _
              have e283 := hS124v (S.1 54 32 - 1)
              have e284 : S251.2 81 (S.1 54 32 - 1) = S245.2 81 (S.1 54 32 - 1) := congrFun (hS251.2 81 (by decide)) _
              have e285 : S245.2 81 (S.1 54 32 - 1) = S235.2 81 (S.1 54 32 - 1) := congrFun (hS245.2 81 (by decide)) _
              have e286 : S235.2 81 (S.1 54 32 - 1) = S201.2 81 (S.1 54 32 - 1) := congrFun (hS235.2 81 (by decide)) _
              have e287 : S201.2 81 (S.1 54 32 - 1) = S195.2 81 (S.1 54 32 - 1) := congrFun (hS201.2 81 (by decide)) _
              have e288 : S195.2 81 (S.1 54 32 - 1) = S187.2 81 (S.1 54 32 - 1) := congrFun (hS195.2 81 (by decide)) _
              have e289 : S187.2 81 (S.1 54 32 - 1) = S124.2 81 (S.1 54 32 - 1) := congrFun (hS187.2 81 (by decide)) _
              have e290 : S124.2 81 (S.1 54 32 - 1) = S.2 81 (S.1 54 32 - 1) := congrFun (hS124.2 81 (by decide)) _
              have e291 : S251.2 82 (S.1 54 32 - 1) = S245.2 82 (S.1 54 32 - 1) := congrFun (hS251.2 82 (by decide)) _
              have e292 : S245.2 82 (S.1 54 32 - 1) = S235.2 82 (S.1 54 32 - 1) := congrFun (hS245.2 82 (by decide)) _
              have e293 : S235.2 82 (S.1 54 32 - 1) = S201.2 82 (S.1 54 32 - 1) := congrFun (hS235.2 82 (by decide)) _
              have e294 : S201.2 82 (S.1 54 32 - 1) = S195.2 82 (S.1 54 32 - 1) := congrFun (hS201.2 82 (by decide)) _
              have e295 : S195.2 82 (S.1 54 32 - 1) = S187.2 82 (S.1 54 32 - 1) := congrFun (hS195.2 82 (by decide)) _
              have e296 : S187.2 82 (S.1 54 32 - 1) = S124.2 82 (S.1 54 32 - 1) := congrFun (hS187.2 82 (by decide)) _
              have e297 : S124.2 82 (S.1 54 32 - 1) = S.2 82 (S.1 54 32 - 1) := congrFun (hS124.2 82 (by decide)) _
              have fb := fl_z (S := S251) (o := (S.1 54 32 - 1)) (by omega)
              have fa := fl_01 (S := S) (x := (S.1 54 32 - 1))
              have fa0 := fl_z (S := S) (o := (S.1 54 32 - 1)) (by omega)
              exact hK (1) S251 (Ch.wk (Ch.tr (Ch.tr (Ch.tr (Ch.tr (Ch.tr (Ch.tr hS124 hS187) hS195) hS201) hS235) hS245) hS251) (by decide) (by decide)) (by omega) (by omega) (by omega) (PW.mv n187_2 (((Ch.tr (Ch.tr (Ch.tr (Ch.tr hS195 hS201) hS235) hS245) hS251)).1 25 (by decide)) (((Ch.tr (Ch.tr (Ch.tr (Ch.tr hS195 hS201) hS235) hS245) hS251)).2 72 (by decide))) (BW.mv2 n187_3 (((Ch.tr (Ch.tr (Ch.tr (Ch.tr hS195 hS201) hS235) hS245) hS251)).1 25 (by decide)) (((Ch.tr (Ch.tr (Ch.tr (Ch.tr hS195 hS201) hS235) hS245) hS251)).2 75 (by decide))) (OWI_step (o := (S.1 54 32 - 1)) (Ch.wk (Ch.tr (Ch.tr (Ch.tr (Ch.tr (Ch.tr (Ch.tr hS124 hS187) hS195) hS201) hS235) hS245) hS251) (by decide) (by decide)) (by omega) (by omega) (by omega) p10 (by
                    intro x
                    have e172 : S251.2 77 x = S245.2 77 x := congrFun (hS251.2 77 (by decide)) _
                    have e173 : S245.2 77 x = S235.2 77 x := congrFun (hS245.2 77 (by decide)) _
                    have e174 : S235.2 77 x = S201.2 77 x := congrFun (hS235.2 77 (by decide)) _
                    have e175 : S201.2 77 x = S195.2 77 x := congrFun (hS201.2 77 (by decide)) _
                    have e176 : S195.2 77 x = S187.2 77 x := congrFun (hS195.2 77 (by decide)) _
                    have e177 : S187.2 77 x = S124.2 77 x := congrFun (hS187.2 77 (by decide)) _
                    have e178 : S124.2 77 x = S.2 77 x := congrFun (hS124.2 77 (by decide)) _
                    omega) (by
                    intro x
                    have e179 : S251.2 78 x = S245.2 78 x := congrFun (hS251.2 78 (by decide)) _
                    have e180 : S245.2 78 x = S235.2 78 x := congrFun (hS245.2 78 (by decide)) _
                    have e181 : S235.2 78 x = S201.2 78 x := congrFun (hS235.2 78 (by decide)) _
                    have e182 : S201.2 78 x = S195.2 78 x := congrFun (hS201.2 78 (by decide)) _
                    have e183 : S195.2 78 x = S187.2 78 x := congrFun (hS195.2 78 (by decide)) _
                    have e184 : S187.2 78 x = S124.2 78 x := congrFun (hS187.2 78 (by decide)) _
                    have e185 : S124.2 78 x = S.2 78 x := congrFun (hS124.2 78 (by decide)) _
                    omega) (by
                    intro x
                    have e186 : S251.2 79 x = S245.2 79 x := congrFun (hS251.2 79 (by decide)) _
                    have e187 : S245.2 79 x = S235.2 79 x := congrFun (hS245.2 79 (by decide)) _
                    have e188 : S235.2 79 x = S201.2 79 x := congrFun (hS235.2 79 (by decide)) _
                    have e189 : S201.2 79 x = S195.2 79 x := congrFun (hS201.2 79 (by decide)) _
                    have e190 : S195.2 79 x = S187.2 79 x := congrFun (hS195.2 79 (by decide)) _
                    have e191 : S187.2 79 x = S124.2 79 x := congrFun (hS187.2 79 (by decide)) _
                    have e192 : S124.2 79 x = S.2 79 x := congrFun (hS124.2 79 (by decide)) _
                    omega) (by
                    intro x
                    have e193 : S251.2 80 x = S245.2 80 x := congrFun (hS251.2 80 (by decide)) _
                    have e194 : S245.2 80 x = S235.2 80 x := congrFun (hS245.2 80 (by decide)) _
                    have e195 : S235.2 80 x = S201.2 80 x := congrFun (hS235.2 80 (by decide)) _
                    have e196 : S201.2 80 x = S195.2 80 x := congrFun (hS201.2 80 (by decide)) _
                    have e197 : S195.2 80 x = S187.2 80 x := congrFun (hS195.2 80 (by decide)) _
                    have e198 : S187.2 80 x = S124.2 80 x := congrFun (hS187.2 80 (by decide)) _
                    have e199 := hS124v x
                    omega) (by
                    intro x
                    have e200 : S251.2 81 x = S245.2 81 x := congrFun (hS251.2 81 (by decide)) _
                    have e201 : S245.2 81 x = S235.2 81 x := congrFun (hS245.2 81 (by decide)) _
                    have e202 : S235.2 81 x = S201.2 81 x := congrFun (hS235.2 81 (by decide)) _
                    have e203 : S201.2 81 x = S195.2 81 x := congrFun (hS201.2 81 (by decide)) _
                    have e204 : S195.2 81 x = S187.2 81 x := congrFun (hS195.2 81 (by decide)) _
                    have e205 : S187.2 81 x = S124.2 81 x := congrFun (hS187.2 81 (by decide)) _
                    have e206 : S124.2 81 x = S.2 81 x := congrFun (hS124.2 81 (by decide)) _
                    omega) (by
                    intro x
                    have e207 : S251.2 82 x = S245.2 82 x := congrFun (hS251.2 82 (by decide)) _
                    have e208 : S245.2 82 x = S235.2 82 x := congrFun (hS245.2 82 (by decide)) _
                    have e209 : S235.2 82 x = S201.2 82 x := congrFun (hS235.2 82 (by decide)) _
                    have e210 : S201.2 82 x = S195.2 82 x := congrFun (hS201.2 82 (by decide)) _
                    have e211 : S195.2 82 x = S187.2 82 x := congrFun (hS195.2 82 (by decide)) _
                    have e212 : S187.2 82 x = S124.2 82 x := congrFun (hS187.2 82 (by decide)) _
                    have e213 : S124.2 82 x = S.2 82 x := congrFun (hS124.2 82 (by decide)) _
                    omega) (Or.inr (owi_top (Ch.wk (Ch.tr (Ch.tr (Ch.tr (Ch.tr (Ch.tr (Ch.tr hS124 hS187) hS195) hS201) hS235) hS245) hS251) (by decide) (by decide)) (owi_of p10 (by omega) (by omega)) (by omega) (by omega) (by omega) (by omega) (by omega) (by omega))) (Or.inl (by omega))) (EWI_step (o := (S.1 54 32 - 1)) (by omega) (Ch.wk (Ch.tr (Ch.tr (Ch.tr (Ch.tr (Ch.tr (Ch.tr hS124 hS187) hS195) hS201) hS235) hS245) hS251) (by decide) (by decide)) (by omega) p11 (by omega) (by
                    intro x
                    have e214 : S251.2 77 x = S245.2 77 x := congrFun (hS251.2 77 (by decide)) _
                    have e215 : S245.2 77 x = S235.2 77 x := congrFun (hS245.2 77 (by decide)) _
                    have e216 : S235.2 77 x = S201.2 77 x := congrFun (hS235.2 77 (by decide)) _
                    have e217 : S201.2 77 x = S195.2 77 x := congrFun (hS201.2 77 (by decide)) _
                    have e218 : S195.2 77 x = S187.2 77 x := congrFun (hS195.2 77 (by decide)) _
                    have e219 : S187.2 77 x = S124.2 77 x := congrFun (hS187.2 77 (by decide)) _
                    have e220 : S124.2 77 x = S.2 77 x := congrFun (hS124.2 77 (by decide)) _
                    omega) (by
                    intro x
                    have e221 : S251.2 80 x = S245.2 80 x := congrFun (hS251.2 80 (by decide)) _
                    have e222 : S245.2 80 x = S235.2 80 x := congrFun (hS245.2 80 (by decide)) _
                    have e223 : S235.2 80 x = S201.2 80 x := congrFun (hS235.2 80 (by decide)) _
                    have e224 : S201.2 80 x = S195.2 80 x := congrFun (hS201.2 80 (by decide)) _
                    have e225 : S195.2 80 x = S187.2 80 x := congrFun (hS195.2 80 (by decide)) _
                    have e226 : S187.2 80 x = S124.2 80 x := congrFun (hS187.2 80 (by decide)) _
                    have e227 := hS124v x
                    omega) (by
                    intro x
                    have e228 : S251.2 81 x = S245.2 81 x := congrFun (hS251.2 81 (by decide)) _
                    have e229 : S245.2 81 x = S235.2 81 x := congrFun (hS245.2 81 (by decide)) _
                    have e230 : S235.2 81 x = S201.2 81 x := congrFun (hS235.2 81 (by decide)) _
                    have e231 : S201.2 81 x = S195.2 81 x := congrFun (hS201.2 81 (by decide)) _
                    have e232 : S195.2 81 x = S187.2 81 x := congrFun (hS195.2 81 (by decide)) _
                    have e233 : S187.2 81 x = S124.2 81 x := congrFun (hS187.2 81 (by decide)) _
                    have e234 : S124.2 81 x = S.2 81 x := congrFun (hS124.2 81 (by decide)) _
                    omega) (by omega)) (by omega) (by omega)
            · refine tX11_putWord  (fun r227 S227 hS227 n227_0 n227_1 n227_2 => ?_)
              have e343 : S227.1 54 30 = S201.1 54 30 := hS227.1 30 (by decide)
              have e344 : S201.1 54 30 = S195.1 54 30 := hS201.1 30 (by decide)
              have e345 : S195.1 54 30 = S187.1 54 30 := hS195.1 30 (by decide)
              have e346 : S187.1 54 30 = S124.1 54 30 := hS187.1 30 (by decide)
              have e347 : S124.1 54 30 = S.1 54 30 := hS124.1 30 (by decide)
              have e348 : S227.1 54 32 = S201.1 54 32 := hS227.1 32 (by decide)
              have e349 : S201.1 54 32 = S195.1 54 32 := hS201.1 32 (by decide)
              have e350 : S195.1 54 32 = S187.1 54 32 := hS195.1 32 (by decide)
              have e351 : S187.1 54 32 = S124.1 54 32 := hS187.1 32 (by decide)
              have e352 : S124.1 54 32 = S.1 54 32 := hS124.1 32 (by decide)
              have e353 : S227.2 80 ((S.1 54 32) - 1) = S201.2 80 ((S.1 54 32) - 1) := congrFun (hS227.2 80 (by decide)) _
              have e354 : S201.2 80 ((S.1 54 32) - 1) = S195.2 80 ((S.1 54 32) - 1) := congrFun (hS201.2 80 (by decide)) _
              have e355 : S195.2 80 ((S.1 54 32) - 1) = S187.2 80 ((S.1 54 32) - 1) := congrFun (hS195.2 80 (by decide)) _
              have e356 : S187.2 80 ((S.1 54 32) - 1) = S124.2 80 ((S.1 54 32) - 1) := congrFun (hS187.2 80 (by decide)) _
              have e357 := hS124v ((S.1 54 32) - 1)
              have e358 : S227.2 77 (S.1 54 32 - 1) = S201.2 77 (S.1 54 32 - 1) := congrFun (hS227.2 77 (by decide)) _
              have e359 : S201.2 77 (S.1 54 32 - 1) = S195.2 77 (S.1 54 32 - 1) := congrFun (hS201.2 77 (by decide)) _
              have e360 : S195.2 77 (S.1 54 32 - 1) = S187.2 77 (S.1 54 32 - 1) := congrFun (hS195.2 77 (by decide)) _
              have e361 : S187.2 77 (S.1 54 32 - 1) = S124.2 77 (S.1 54 32 - 1) := congrFun (hS187.2 77 (by decide)) _
              have e362 : S124.2 77 (S.1 54 32 - 1) = S.2 77 (S.1 54 32 - 1) := congrFun (hS124.2 77 (by decide)) _
              have e363 : S227.2 78 (S.1 54 32 - 1) = S201.2 78 (S.1 54 32 - 1) := congrFun (hS227.2 78 (by decide)) _
              have e364 : S201.2 78 (S.1 54 32 - 1) = S195.2 78 (S.1 54 32 - 1) := congrFun (hS201.2 78 (by decide)) _
              have e365 : S195.2 78 (S.1 54 32 - 1) = S187.2 78 (S.1 54 32 - 1) := congrFun (hS195.2 78 (by decide)) _
              have e366 : S187.2 78 (S.1 54 32 - 1) = S124.2 78 (S.1 54 32 - 1) := congrFun (hS187.2 78 (by decide)) _
              have e367 : S124.2 78 (S.1 54 32 - 1) = S.2 78 (S.1 54 32 - 1) := congrFun (hS124.2 78 (by decide)) _
              have e368 : S227.2 79 (S.1 54 32 - 1) = S201.2 79 (S.1 54 32 - 1) := congrFun (hS227.2 79 (by decide)) _
              have e369 : S201.2 79 (S.1 54 32 - 1) = S195.2 79 (S.1 54 32 - 1) := congrFun (hS201.2 79 (by decide)) _
              have e370 : S195.2 79 (S.1 54 32 - 1) = S187.2 79 (S.1 54 32 - 1) := congrFun (hS195.2 79 (by decide)) _
              have e371 : S187.2 79 (S.1 54 32 - 1) = S124.2 79 (S.1 54 32 - 1) := congrFun (hS187.2 79 (by decide)) _
              have e372 : S124.2 79 (S.1 54 32 - 1) = S.2 79 (S.1 54 32 - 1) := congrFun (hS124.2 79 (by decide)) _
              have e373 : S227.2 80 (S.1 54 32 - 1) = S201.2 80 (S.1 54 32 - 1) := congrFun (hS227.2 80 (by decide)) _
              have e374 : S201.2 80 (S.1 54 32 - 1) = S195.2 80 (S.1 54 32 - 1) := congrFun (hS201.2 80 (by decide)) _
              have e375 : S195.2 80 (S.1 54 32 - 1) = S187.2 80 (S.1 54 32 - 1) := congrFun (hS195.2 80 (by decide)) _
              have e376 : S187.2 80 (S.1 54 32 - 1) = S124.2 80 (S.1 54 32 - 1) := congrFun (hS187.2 80 (by decide)) _
              have e377 := hS124v (S.1 54 32 - 1)
              have e378 : S227.2 81 (S.1 54 32 - 1) = S201.2 81 (S.1 54 32 - 1) := congrFun (hS227.2 81 (by decide)) _
              have e379 : S201.2 81 (S.1 54 32 - 1) = S195.2 81 (S.1 54 32 - 1) := congrFun (hS201.2 81 (by decide)) _
              have e380 : S195.2 81 (S.1 54 32 - 1) = S187.2 81 (S.1 54 32 - 1) := congrFun (hS195.2 81 (by decide)) _
              have e381 : S187.2 81 (S.1 54 32 - 1) = S124.2 81 (S.1 54 32 - 1) := congrFun (hS187.2 81 (by decide)) _
              have e382 : S124.2 81 (S.1 54 32 - 1) = S.2 81 (S.1 54 32 - 1) := congrFun (hS124.2 81 (by decide)) _
              have e383 : S227.2 82 (S.1 54 32 - 1) = S201.2 82 (S.1 54 32 - 1) := congrFun (hS227.2 82 (by decide)) _
              have e384 : S201.2 82 (S.1 54 32 - 1) = S195.2 82 (S.1 54 32 - 1) := congrFun (hS201.2 82 (by decide)) _
              have e385 : S195.2 82 (S.1 54 32 - 1) = S187.2 82 (S.1 54 32 - 1) := congrFun (hS195.2 82 (by decide)) _
              have e386 : S187.2 82 (S.1 54 32 - 1) = S124.2 82 (S.1 54 32 - 1) := congrFun (hS187.2 82 (by decide)) _
              have e387 : S124.2 82 (S.1 54 32 - 1) = S.2 82 (S.1 54 32 - 1) := congrFun (hS124.2 82 (by decide)) _
              have fb := fl_z (S := S227) (o := (S.1 54 32 - 1)) (by omega)
              have fa := fl_01 (S := S) (x := (S.1 54 32 - 1))
              have fa0 := fl_z (S := S) (o := (S.1 54 32 - 1)) (by omega)
              exact hK (1) S227 (Ch.wk (Ch.tr (Ch.tr (Ch.tr (Ch.tr hS124 hS187) hS195) hS201) hS227) (by decide) (by decide)) (by omega) (by omega) (by omega) (PW.mv n187_2 (((Ch.tr (Ch.tr hS195 hS201) hS227)).1 25 (by decide)) (((Ch.tr (Ch.tr hS195 hS201) hS227)).2 72 (by decide))) (BW.mv2 n187_3 (((Ch.tr (Ch.tr hS195 hS201) hS227)).1 25 (by decide)) (((Ch.tr (Ch.tr hS195 hS201) hS227)).2 75 (by decide))) (OWI_step (o := (S.1 54 32 - 1)) (Ch.wk (Ch.tr (Ch.tr (Ch.tr (Ch.tr hS124 hS187) hS195) hS201) hS227) (by decide) (by decide)) (by omega) (by omega) (by omega) p10 (by
                    intro x
                    have e298 : S227.2 77 x = S201.2 77 x := congrFun (hS227.2 77 (by decide)) _
                    have e299 : S201.2 77 x = S195.2 77 x := congrFun (hS201.2 77 (by decide)) _
                    have e300 : S195.2 77 x = S187.2 77 x := congrFun (hS195.2 77 (by decide)) _
                    have e301 : S187.2 77 x = S124.2 77 x := congrFun (hS187.2 77 (by decide)) _
                    have e302 : S124.2 77 x = S.2 77 x := congrFun (hS124.2 77 (by decide)) _
                    omega) (by
                    intro x
                    have e303 : S227.2 78 x = S201.2 78 x := congrFun (hS227.2 78 (by decide)) _
                    have e304 : S201.2 78 x = S195.2 78 x := congrFun (hS201.2 78 (by decide)) _
                    have e305 : S195.2 78 x = S187.2 78 x := congrFun (hS195.2 78 (by decide)) _
                    have e306 : S187.2 78 x = S124.2 78 x := congrFun (hS187.2 78 (by decide)) _
                    have e307 : S124.2 78 x = S.2 78 x := congrFun (hS124.2 78 (by decide)) _
                    omega) (by
                    intro x
                    have e308 : S227.2 79 x = S201.2 79 x := congrFun (hS227.2 79 (by decide)) _
                    have e309 : S201.2 79 x = S195.2 79 x := congrFun (hS201.2 79 (by decide)) _
                    have e310 : S195.2 79 x = S187.2 79 x := congrFun (hS195.2 79 (by decide)) _
                    have e311 : S187.2 79 x = S124.2 79 x := congrFun (hS187.2 79 (by decide)) _
                    have e312 : S124.2 79 x = S.2 79 x := congrFun (hS124.2 79 (by decide)) _
                    omega) (by
                    intro x
                    have e313 : S227.2 80 x = S201.2 80 x := congrFun (hS227.2 80 (by decide)) _
                    have e314 : S201.2 80 x = S195.2 80 x := congrFun (hS201.2 80 (by decide)) _
                    have e315 : S195.2 80 x = S187.2 80 x := congrFun (hS195.2 80 (by decide)) _
                    have e316 : S187.2 80 x = S124.2 80 x := congrFun (hS187.2 80 (by decide)) _
                    have e317 := hS124v x
                    omega) (by
                    intro x
                    have e318 : S227.2 81 x = S201.2 81 x := congrFun (hS227.2 81 (by decide)) _
                    have e319 : S201.2 81 x = S195.2 81 x := congrFun (hS201.2 81 (by decide)) _
                    have e320 : S195.2 81 x = S187.2 81 x := congrFun (hS195.2 81 (by decide)) _
                    have e321 : S187.2 81 x = S124.2 81 x := congrFun (hS187.2 81 (by decide)) _
                    have e322 : S124.2 81 x = S.2 81 x := congrFun (hS124.2 81 (by decide)) _
                    omega) (by
                    intro x
                    have e323 : S227.2 82 x = S201.2 82 x := congrFun (hS227.2 82 (by decide)) _
                    have e324 : S201.2 82 x = S195.2 82 x := congrFun (hS201.2 82 (by decide)) _
                    have e325 : S195.2 82 x = S187.2 82 x := congrFun (hS195.2 82 (by decide)) _
                    have e326 : S187.2 82 x = S124.2 82 x := congrFun (hS187.2 82 (by decide)) _
                    have e327 : S124.2 82 x = S.2 82 x := congrFun (hS124.2 82 (by decide)) _
                    omega) (Or.inr (owi_top (Ch.wk (Ch.tr (Ch.tr (Ch.tr (Ch.tr hS124 hS187) hS195) hS201) hS227) (by decide) (by decide)) (owi_of p10 (by omega) (by omega)) (by omega) (by omega) (by omega) (by omega) (by omega) (by omega))) (Or.inl (by omega))) (EWI_step (o := (S.1 54 32 - 1)) (by omega) (Ch.wk (Ch.tr (Ch.tr (Ch.tr (Ch.tr hS124 hS187) hS195) hS201) hS227) (by decide) (by decide)) (by omega) p11 (by omega) (by
                    intro x
                    have e328 : S227.2 77 x = S201.2 77 x := congrFun (hS227.2 77 (by decide)) _
                    have e329 : S201.2 77 x = S195.2 77 x := congrFun (hS201.2 77 (by decide)) _
                    have e330 : S195.2 77 x = S187.2 77 x := congrFun (hS195.2 77 (by decide)) _
                    have e331 : S187.2 77 x = S124.2 77 x := congrFun (hS187.2 77 (by decide)) _
                    have e332 : S124.2 77 x = S.2 77 x := congrFun (hS124.2 77 (by decide)) _
                    omega) (by
                    intro x
                    have e333 : S227.2 80 x = S201.2 80 x := congrFun (hS227.2 80 (by decide)) _
                    have e334 : S201.2 80 x = S195.2 80 x := congrFun (hS201.2 80 (by decide)) _
                    have e335 : S195.2 80 x = S187.2 80 x := congrFun (hS195.2 80 (by decide)) _
                    have e336 : S187.2 80 x = S124.2 80 x := congrFun (hS187.2 80 (by decide)) _
                    have e337 := hS124v x
                    omega) (by
                    intro x
                    have e338 : S227.2 81 x = S201.2 81 x := congrFun (hS227.2 81 (by decide)) _
                    have e339 : S201.2 81 x = S195.2 81 x := congrFun (hS201.2 81 (by decide)) _
                    have e340 : S195.2 81 x = S187.2 81 x := congrFun (hS195.2 81 (by decide)) _
                    have e341 : S187.2 81 x = S124.2 81 x := congrFun (hS187.2 81 (by decide)) _
                    have e342 : S124.2 81 x = S.2 81 x := congrFun (hS124.2 81 (by decide)) _
                    omega) (by omega)) (by omega) (by omega)
      · refine ⟨fun h140 => ?_, fun h140 => ?_⟩
        · have e397 : S124.1 54 30 = S.1 54 30 := hS124.1 30 (by decide)
          have e398 : S124.1 54 32 = S.1 54 32 := hS124.1 32 (by decide)
          have e399 : S124.1 54 39 = S.1 54 39 := hS124.1 39 (by decide)
          have e400 := hS124v ((S.1 54 32) - 1)
          have e401 : S124.1 54 39 = S.1 54 39 := hS124.1 39 (by decide)
          have e402 : S124.2 77 (S.1 54 32 - 1) = S.2 77 (S.1 54 32 - 1) := congrFun (hS124.2 77 (by decide)) _
          have e403 : S124.2 78 (S.1 54 32 - 1) = S.2 78 (S.1 54 32 - 1) := congrFun (hS124.2 78 (by decide)) _
          have e404 : S124.2 79 (S.1 54 32 - 1) = S.2 79 (S.1 54 32 - 1) := congrFun (hS124.2 79 (by decide)) _
          have e405 := hS124v (S.1 54 32 - 1)
          have e406 : S124.2 81 (S.1 54 32 - 1) = S.2 81 (S.1 54 32 - 1) := congrFun (hS124.2 81 (by decide)) _
          have e407 : S124.2 82 (S.1 54 32 - 1) = S.2 82 (S.1 54 32 - 1) := congrFun (hS124.2 82 (by decide)) _
          have fb := fl_z (S := S124) (o := (S.1 54 32 - 1)) (by omega)
          have fa := fl_01 (S := S) (x := (S.1 54 32 - 1))
          have fa0 := fl_z (S := S) (o := (S.1 54 32 - 1)) (by omega)
          exact hK (1) S124 (Ch.wk hS124 (by decide) (by decide)) (by omega) (by omega) (by omega) (PW.mv p5 ((hS124).1 25 (by decide)) ((hS124).2 72 (by decide))) (BW.mv2 p6 ((hS124).1 25 (by decide)) ((hS124).2 75 (by decide))) (OWI_step (o := (S.1 54 32 - 1)) (Ch.wk hS124 (by decide) (by decide)) (by omega) (by omega) (by omega) p10 (by
                intro x
                have e388 : S124.2 77 x = S.2 77 x := congrFun (hS124.2 77 (by decide)) _
                omega) (by
                intro x
                have e389 : S124.2 78 x = S.2 78 x := congrFun (hS124.2 78 (by decide)) _
                omega) (by
                intro x
                have e390 : S124.2 79 x = S.2 79 x := congrFun (hS124.2 79 (by decide)) _
                omega) (by
                intro x
                have e391 := hS124v x
                omega) (by
                intro x
                have e392 : S124.2 81 x = S.2 81 x := congrFun (hS124.2 81 (by decide)) _
                omega) (by
                intro x
                have e393 : S124.2 82 x = S.2 82 x := congrFun (hS124.2 82 (by decide)) _
                omega) (Or.inr (owi_top (Ch.wk hS124 (by decide) (by decide)) (owi_of p10 (by omega) (by omega)) (by omega) (by omega) (by omega) (by omega) (by omega) (by omega))) (Or.inl (by omega))) (EWI_step (o := (S.1 54 32 - 1)) (by omega) (Ch.wk hS124 (by decide) (by decide)) (by omega) p11 (by omega) (by
                intro x
                have e394 : S124.2 77 x = S.2 77 x := congrFun (hS124.2 77 (by decide)) _
                omega) (by
                intro x
                have e395 := hS124v x
                omega) (by
                intro x
                have e396 : S124.2 81 x = S.2 81 x := congrFun (hS124.2 81 (by decide)) _
                omega) (by omega)) (by omega) (by omega)
        · refine ⟨by omega, by omega, ?_⟩
          intro q408
          have e409 : S124.2 78 (((S.1 54 32 - 1))) = S.2 78 (((S.1 54 32 - 1))) := congrFun (hS124.2 78 (by decide)) _
          refine ⟨by omega, ?_⟩
          have e410 : S124.1 54 25 = S.1 54 25 := hS124.1 25 (by decide)
          have e411 : S124.1 54 32 = S.1 54 32 := hS124.1 32 (by decide)
          have e412 : S124.1 54 19 = S.1 54 19 := hS124.1 19 (by decide)
          have e413 : S124.1 54 25 = S.1 54 25 := hS124.1 25 (by decide)
          have e414 : S124.1 54 30 = S.1 54 30 := hS124.1 30 (by decide)
          have e415 : S124.1 54 25 = S.1 54 25 := hS124.1 25 (by decide)
          have e416 : S124.2 67 0 = S.2 67 0 := congrFun (hS124.2 67 (by decide)) _
          have e417 : S124.1 54 25 = S.1 54 25 := hS124.1 25 (by decide)
          have e418 : S124.1 54 32 = S.1 54 32 := hS124.1 32 (by decide)
          have e419 : S124.1 54 39 = S.1 54 39 := hS124.1 39 (by decide)
          have e420 : S124.1 54 25 = S.1 54 25 := hS124.1 25 (by decide)
          have e421 : S124.1 54 19 = S.1 54 19 := hS124.1 19 (by decide)
          have e422 : S124.1 54 39 = S.1 54 39 := hS124.1 39 (by decide)
          have e423 : S124.1 54 32 = S.1 54 32 := hS124.1 32 (by decide)
          have e424 : S124.1 54 32 = S.1 54 32 := hS124.1 32 (by decide)
          have e425 : S124.1 54 32 = S.1 54 32 := hS124.1 32 (by decide)
          have e426 : S124.1 54 32 = S.1 54 32 := hS124.1 32 (by decide)
          have e427 : S124.1 54 32 = S.1 54 32 := hS124.1 32 (by decide)
          have e428 : S124.1 54 32 = S.1 54 32 := hS124.1 32 (by decide)
          refine tX11_child (by omega) (by omega) (by omega) (by omega) (by omega) (by omega) (by omega) (by omega) (by omega) (PW.mv p5 ((hS124).1 25 (by decide)) ((hS124).2 72 (by decide))) (BW.mv2 p6 ((hS124).1 25 (by decide)) ((hS124).2 75 (by decide))) (OK0.mv p7  ((hS124).2 59 (by decide)) ((hS124).2 67 (by decide)) ((hS124).2 68 (by decide)) ((hS124).2 69 (by decide))) (by omega) (fun r156 S156 hS156 n156_0 n156_1 n156_2 n156_3 n156_4 n156_5 n156_6 n156_7 n156_8 n156_9 n156_10 n156_11 => ?_)
          refine ⟨by omega, ?_⟩
          refine ⟨fun h159 => ?_, fun h159 => ?_⟩
          · have e447 := n156_9 ((S.1 54 32) - 1)
            have e448 := hS124v ((S.1 54 32) - 1)
            have e449 := n156_6 (S.1 54 32 - 1)
            have e450 : S124.2 77 (S.1 54 32 - 1) = S.2 77 (S.1 54 32 - 1) := congrFun (hS124.2 77 (by decide)) _
            have e451 := n156_7 (S.1 54 32 - 1)
            have e452 : S124.2 78 (S.1 54 32 - 1) = S.2 78 (S.1 54 32 - 1) := congrFun (hS124.2 78 (by decide)) _
            have e453 := n156_8 (S.1 54 32 - 1)
            have e454 : S124.2 79 (S.1 54 32 - 1) = S.2 79 (S.1 54 32 - 1) := congrFun (hS124.2 79 (by decide)) _
            have e455 := n156_9 (S.1 54 32 - 1)
            have e456 := hS124v (S.1 54 32 - 1)
            have e457 := n156_10 (S.1 54 32 - 1)
            have e458 : S124.2 81 (S.1 54 32 - 1) = S.2 81 (S.1 54 32 - 1) := congrFun (hS124.2 81 (by decide)) _
            have e459 := n156_11 (S.1 54 32 - 1)
            have e460 : S124.2 82 (S.1 54 32 - 1) = S.2 82 (S.1 54 32 - 1) := congrFun (hS124.2 82 (by decide)) _
            have hop : S124.1 54 32 = (S.1 54 32 - 1) + 1 := by omega
            rw [hop] at n156_4
            have fb := fl_z (S := S156) (o := (S.1 54 32 - 1)) (by omega)
            have fa := fl_01 (S := S) (x := (S.1 54 32 - 1))
            have fa0 := fl_z (S := S) (o := (S.1 54 32 - 1)) (by omega)
            exact hK (0) S156 (Ch.wk (Ch.tr hS124 hS156) (by decide) (by decide)) (by omega) (by omega) (by omega) n156_2 n156_3 (OWI_step (o := (S.1 54 32 - 1)) (Ch.wk (Ch.tr hS124 hS156) (by decide) (by decide)) (by omega) (by omega) (by omega) p10 (by
                  intro x
                  have e429 := n156_6 x
                  have e430 : S124.2 77 x = S.2 77 x := congrFun (hS124.2 77 (by decide)) _
                  omega) (by
                  intro x
                  have e431 := n156_7 x
                  have e432 : S124.2 78 x = S.2 78 x := congrFun (hS124.2 78 (by decide)) _
                  omega) (by
                  intro x
                  have e433 := n156_8 x
                  have e434 : S124.2 79 x = S.2 79 x := congrFun (hS124.2 79 (by decide)) _
                  omega) (by
                  intro x
                  have e435 := n156_9 x
                  have e436 := hS124v x
                  omega) (by
                  intro x
                  have e437 := n156_10 x
                  have e438 : S124.2 81 x = S.2 81 x := congrFun (hS124.2 81 (by decide)) _
                  omega) (by
                  intro x
                  have e439 := n156_11 x
                  have e440 : S124.2 82 x = S.2 82 x := congrFun (hS124.2 82 (by decide)) _
                  omega) (Or.inr (owi_top (Ch.wk (Ch.tr hS124 hS156) (by decide) (by decide)) (owi_of p10 (by omega) (by omega)) (by omega) (by omega) (by omega) (by omega) (by omega) (by omega))) (by
                  rcases n156_4 with ⟨k1, k2, k3, k4⟩ | ⟨k1, k2, k3, k4⟩ | ⟨k1, k2, k3, k4, k5, ⟨m1, m2, m3, m4, m5, m6⟩, m7⟩
                  · exact Or.inl (by omega)
                  · exact Or.inl (by omega)
                  · refine Or.inr (owi_new (Ch.wk (Ch.tr hS124 hS156) (by decide) (by decide)) (by omega) (by omega) ?_ (by omega) ?_ (by omega) (by omega) (by omega))
                    · rw [m3]
                      omega
                    · rw [m1]
                      have hs2 := m7
                      rw [(show S124.2 56 = S.2 56 from (hS124).2 56 (by decide)), (show S124.2 68 = S.2 68 from (hS124).2 68 (by decide))] at hs2
                      exact hs2)) (EWI_step (o := (S.1 54 32 - 1)) (by omega) (Ch.wk (Ch.tr hS124 hS156) (by decide) (by decide)) (by omega) p11 (by omega) (by
                  intro x
                  have e441 := n156_6 x
                  have e442 : S124.2 77 x = S.2 77 x := congrFun (hS124.2 77 (by decide)) _
                  omega) (by
                  intro x
                  have e443 := n156_9 x
                  have e444 := hS124v x
                  omega) (by
                  intro x
                  have e445 := n156_10 x
                  have e446 : S124.2 81 x = S.2 81 x := congrFun (hS124.2 81 (by decide)) _
                  omega) (by omega)) (by omega) (by omega)
          · have e479 := n156_9 ((S.1 54 32) - 1)
            have e480 := hS124v ((S.1 54 32) - 1)
            have e481 := n156_6 (S.1 54 32 - 1)
            have e482 : S124.2 77 (S.1 54 32 - 1) = S.2 77 (S.1 54 32 - 1) := congrFun (hS124.2 77 (by decide)) _
            have e483 := n156_7 (S.1 54 32 - 1)
            have e484 : S124.2 78 (S.1 54 32 - 1) = S.2 78 (S.1 54 32 - 1) := congrFun (hS124.2 78 (by decide)) _
            have e485 := n156_8 (S.1 54 32 - 1)
            have e486 : S124.2 79 (S.1 54 32 - 1) = S.2 79 (S.1 54 32 - 1) := congrFun (hS124.2 79 (by decide)) _
            have e487 := n156_9 (S.1 54 32 - 1)
            have e488 := hS124v (S.1 54 32 - 1)
            have e489 := n156_10 (S.1 54 32 - 1)
            have e490 : S124.2 81 (S.1 54 32 - 1) = S.2 81 (S.1 54 32 - 1) := congrFun (hS124.2 81 (by decide)) _
            have e491 := n156_11 (S.1 54 32 - 1)
            have e492 : S124.2 82 (S.1 54 32 - 1) = S.2 82 (S.1 54 32 - 1) := congrFun (hS124.2 82 (by decide)) _
            have hop : S124.1 54 32 = (S.1 54 32 - 1) + 1 := by omega
            rw [hop] at n156_4
            have fb := fl_z (S := S156) (o := (S.1 54 32 - 1)) (by omega)
            have fa := fl_01 (S := S) (x := (S.1 54 32 - 1))
            have fa0 := fl_z (S := S) (o := (S.1 54 32 - 1)) (by omega)
            exact hK (1) S156 (Ch.wk (Ch.tr hS124 hS156) (by decide) (by decide)) (by omega) (by omega) (by omega) n156_2 n156_3 (OWI_step (o := (S.1 54 32 - 1)) (Ch.wk (Ch.tr hS124 hS156) (by decide) (by decide)) (by omega) (by omega) (by omega) p10 (by
                  intro x
                  have e461 := n156_6 x
                  have e462 : S124.2 77 x = S.2 77 x := congrFun (hS124.2 77 (by decide)) _
                  omega) (by
                  intro x
                  have e463 := n156_7 x
                  have e464 : S124.2 78 x = S.2 78 x := congrFun (hS124.2 78 (by decide)) _
                  omega) (by
                  intro x
                  have e465 := n156_8 x
                  have e466 : S124.2 79 x = S.2 79 x := congrFun (hS124.2 79 (by decide)) _
                  omega) (by
                  intro x
                  have e467 := n156_9 x
                  have e468 := hS124v x
                  omega) (by
                  intro x
                  have e469 := n156_10 x
                  have e470 : S124.2 81 x = S.2 81 x := congrFun (hS124.2 81 (by decide)) _
                  omega) (by
                  intro x
                  have e471 := n156_11 x
                  have e472 : S124.2 82 x = S.2 82 x := congrFun (hS124.2 82 (by decide)) _
                  omega) (Or.inr (owi_top (Ch.wk (Ch.tr hS124 hS156) (by decide) (by decide)) (owi_of p10 (by omega) (by omega)) (by omega) (by omega) (by omega) (by omega) (by omega) (by omega))) (by
                  rcases n156_4 with ⟨k1, k2, k3, k4⟩ | ⟨k1, k2, k3, k4⟩ | ⟨k1, k2, k3, k4, k5, ⟨m1, m2, m3, m4, m5, m6⟩, m7⟩
                  · exact Or.inl (by omega)
                  · exact Or.inl (by omega)
                  · refine Or.inr (owi_new (Ch.wk (Ch.tr hS124 hS156) (by decide) (by decide)) (by omega) (by omega) ?_ (by omega) ?_ (by omega) (by omega) (by omega))
                    · rw [m3]
                      omega
                    · rw [m1]
                      have hs2 := m7
                      rw [(show S124.2 56 = S.2 56 from (hS124).2 56 (by decide)), (show S124.2 68 = S.2 68 from (hS124).2 68 (by decide))] at hs2
                      exact hs2)) (EWI_step (o := (S.1 54 32 - 1)) (by omega) (Ch.wk (Ch.tr hS124 hS156) (by decide) (by decide)) (by omega) p11 (by omega) (by
                  intro x
                  have e473 := n156_6 x
                  have e474 : S124.2 77 x = S.2 77 x := congrFun (hS124.2 77 (by decide)) _
                  omega) (by
                  intro x
                  have e475 := n156_9 x
                  have e476 := hS124v x
                  omega) (by
                  intro x
                  have e477 := n156_10 x
                  have e478 : S124.2 81 x = S.2 81 x := congrFun (hS124.2 81 (by decide)) _
                  omega) (by omega)) (by omega) (by omega)
    · refine ⟨by omega, ?_⟩
      refine ⟨by omega, ?_⟩
      refine tX11_lists (by omega) (by omega) (by omega) (by omega) (by omega) (by omega) (by omega) (by omega) (by omega) (p5) (p6) (p7) (p8) (p9) (p10) (p11) (by omega) (by omega) (by omega) (by omega) (by omega) (by omega) (by omega) (fun r111 S111 hS111 n111_0 n111_1 n111_2 n111_3 n111_4 n111_5 n111_6 n111_7 n111_8 => ?_)
      refine ⟨by omega, ?_⟩
      exact hK (r111) S111 (Ch.wk hS111 (by decide) (by decide)) (by omega) (n111_1) (n111_2) n111_3 n111_4 n111_5 n111_6 (by omega) (by omega)
  · refine ⟨by omega, ?_⟩
    intro S49 hS49e
    have hS49 : Ch [32] [] S S49 := Ch_I hS49e
    have hS49v : S49.1 54 32 = (S.1 54 32 - 1) := pI_at hS49e
    refine ⟨by omega, by omega, ?_⟩
    intro q493
    have e494 : S49.2 79 (((S.1 54 32 - 1))) = S.2 79 (((S.1 54 32 - 1))) := congrFun (hS49.2 79 (by decide)) _
    have hsz : 1 ≤ S.2 57 (S49.2 79 (S.1 54 32 - 1)) := by
      rw [(show S49.2 79 = S.2 79 from (hS49).2 79 (by decide))]
      omega
    have e495 : S49.1 54 39 = S.1 54 39 := hS49.1 39 (by decide)
    have e496 : S49.1 54 39 = S.1 54 39 := hS49.1 39 (by decide)
    have e497 : S49.1 54 39 = S.1 54 39 := hS49.1 39 (by decide)
    refine tX11_end (by omega) (fun r59 S59 hS59 n59_0 n59_1 n59_2 => ?_)
    have e516 : S59.1 54 30 = S49.1 54 30 := hS59.1 30 (by decide)
    have e517 : S49.1 54 30 = S.1 54 30 := hS49.1 30 (by decide)
    have e518 : S59.1 54 32 = S49.1 54 32 := hS59.1 32 (by decide)
    have e519 : S59.2 80 ((S.1 54 32) - 1) = S49.2 80 ((S.1 54 32) - 1) := congrFun (hS59.2 80 (by decide)) _
    have e520 : S49.2 80 ((S.1 54 32) - 1) = S.2 80 ((S.1 54 32) - 1) := congrFun (hS49.2 80 (by decide)) _
    have e521 : S59.2 77 (S.1 54 32 - 1) = S49.2 77 (S.1 54 32 - 1) := congrFun (hS59.2 77 (by decide)) _
    have e522 : S49.2 77 (S.1 54 32 - 1) = S.2 77 (S.1 54 32 - 1) := congrFun (hS49.2 77 (by decide)) _
    have e523 : S59.2 78 (S.1 54 32 - 1) = S49.2 78 (S.1 54 32 - 1) := congrFun (hS59.2 78 (by decide)) _
    have e524 : S49.2 78 (S.1 54 32 - 1) = S.2 78 (S.1 54 32 - 1) := congrFun (hS49.2 78 (by decide)) _
    have e525 : S59.2 79 (S.1 54 32 - 1) = S49.2 79 (S.1 54 32 - 1) := congrFun (hS59.2 79 (by decide)) _
    have e526 : S49.2 79 (S.1 54 32 - 1) = S.2 79 (S.1 54 32 - 1) := congrFun (hS49.2 79 (by decide)) _
    have e527 : S59.2 80 (S.1 54 32 - 1) = S49.2 80 (S.1 54 32 - 1) := congrFun (hS59.2 80 (by decide)) _
    have e528 : S49.2 80 (S.1 54 32 - 1) = S.2 80 (S.1 54 32 - 1) := congrFun (hS49.2 80 (by decide)) _
    have e529 : S59.2 81 (S.1 54 32 - 1) = S49.2 81 (S.1 54 32 - 1) := congrFun (hS59.2 81 (by decide)) _
    have e530 : S49.2 81 (S.1 54 32 - 1) = S.2 81 (S.1 54 32 - 1) := congrFun (hS49.2 81 (by decide)) _
    have e531 : S59.2 82 (S.1 54 32 - 1) = S49.2 82 (S.1 54 32 - 1) := congrFun (hS59.2 82 (by decide)) _
    have e532 : S49.2 82 (S.1 54 32 - 1) = S.2 82 (S.1 54 32 - 1) := congrFun (hS49.2 82 (by decide)) _
    have fa := fl_01 (S := S) (x := (S.1 54 32 - 1))
    exact hK (1) S59 (Ch.wk (Ch.tr hS49 hS59) (by decide) (by decide)) (by omega) (by omega) (by omega) (PW.mv p5 (((Ch.tr hS49 hS59)).1 25 (by decide)) (((Ch.tr hS49 hS59)).2 72 (by decide))) (BW.mv2 p6 (((Ch.tr hS49 hS59)).1 25 (by decide)) (((Ch.tr hS49 hS59)).2 75 (by decide))) (OWI_step (o := (S.1 54 32 - 1)) (Ch.wk (Ch.tr hS49 hS59) (by decide) (by decide)) (by omega) (by omega) (by omega) p10 (by
          intro x
          have e498 : S59.2 77 x = S49.2 77 x := congrFun (hS59.2 77 (by decide)) _
          have e499 : S49.2 77 x = S.2 77 x := congrFun (hS49.2 77 (by decide)) _
          omega) (by
          intro x
          have e500 : S59.2 78 x = S49.2 78 x := congrFun (hS59.2 78 (by decide)) _
          have e501 : S49.2 78 x = S.2 78 x := congrFun (hS49.2 78 (by decide)) _
          omega) (by
          intro x
          have e502 : S59.2 79 x = S49.2 79 x := congrFun (hS59.2 79 (by decide)) _
          have e503 : S49.2 79 x = S.2 79 x := congrFun (hS49.2 79 (by decide)) _
          omega) (by
          intro x
          have e504 : S59.2 80 x = S49.2 80 x := congrFun (hS59.2 80 (by decide)) _
          have e505 : S49.2 80 x = S.2 80 x := congrFun (hS49.2 80 (by decide)) _
          omega) (by
          intro x
          have e506 : S59.2 81 x = S49.2 81 x := congrFun (hS59.2 81 (by decide)) _
          have e507 : S49.2 81 x = S.2 81 x := congrFun (hS49.2 81 (by decide)) _
          omega) (by
          intro x
          have e508 : S59.2 82 x = S49.2 82 x := congrFun (hS59.2 82 (by decide)) _
          have e509 : S49.2 82 x = S.2 82 x := congrFun (hS49.2 82 (by decide)) _
          omega) (Or.inl (by omega)) (Or.inl (by omega))) (EWI_step (o := (S.1 54 32 - 1)) (by omega) (Ch.wk (Ch.tr hS49 hS59) (by decide) (by decide)) (by omega) p11 (by omega) (by
          intro x
          have e510 : S59.2 77 x = S49.2 77 x := congrFun (hS59.2 77 (by decide)) _
          have e511 : S49.2 77 x = S.2 77 x := congrFun (hS49.2 77 (by decide)) _
          omega) (by
          intro x
          have e512 : S59.2 80 x = S49.2 80 x := congrFun (hS59.2 80 (by decide)) _
          have e513 : S49.2 80 x = S.2 80 x := congrFun (hS49.2 80 (by decide)) _
          omega) (by
          intro x
          have e514 : S59.2 81 x = S49.2 81 x := congrFun (hS59.2 81 (by decide)) _
          have e515 : S49.2 81 x = S.2 81 x := congrFun (hS49.2 81 (by decide)) _
          omega) (by omega)) (by omega) (by omega)

set_option maxRecDepth 100000 in
set_option maxHeartbeats 4000000 in
theorem tX11_write {a1 a2 : Int} {S : St} {K : Int → St → Prop} (p1 : OK0 S) (p2 : OL0 S) (p3 : NMS S) (p4 : (S.2 67) 0 ≤ 30) (p5 : iv 1 20 (S.1 54 19)) (hK : ∀ (r : Int) (S' : St), Ch [20, 25, 30, 32, 39] [71, 72, 73, 74, 75, 76, 77, 78, 79, 80, 81, 82, 83] S S' → (rng r) → K r S') : wX11_write a1 a2 S K := by
  unfold wX11_write
  intro g1 g2
  refine tX11_isObject (by omega) (fun r3 S3 hS3 n3_0 => ?_)
  refine ⟨by omega, ?_⟩
  refine ⟨fun h6 => ?_, fun h6 => ?_⟩
  · exact hK ((-1)) S3 (Ch.wk hS3 (by decide) (by decide)) (by omega)
  · refine tX11_in  (fun r12 S12 hS12 n12_0 => ?_)
    refine ⟨by omega, ?_⟩
    refine ⟨fun h15 => ?_, fun h15 => ?_⟩
    · intro S22 hS22e
      have hS22 : Ch [39] [] S12 S22 := Ch_I hS22e
      have hS22v : S22.1 54 39 = 0 := pI_at hS22e
      intro S27 hS27e
      have hS27 : Ch [25] [] S22 S27 := Ch_I hS27e
      have hS27v : S27.1 54 25 = 0 := pI_at hS27e
      intro S32 hS32e
      have hS32 : Ch [30] [] S27 S32 := Ch_I hS32e
      have hS32v : S32.1 54 30 = 0 := pI_at hS32e
      intro S37 hS37e
      have hS37 : Ch [32] [] S32 S37 := Ch_I hS37e
      have hS37v : S37.1 54 32 = 0 := pI_at hS37e
      unfold wX11_write_42
      refine ⟨fun u1 u2 u3 Sx => Ch [] [75] S37 Sx ∧ a1 = u1 ∧ a2 = u2 ∧ (iv 0 30 u3) ∧ (∀ x, x < 0 ∨ u3 ≤ x ∨ (Sx.2 75) x = -2), fun u1 u2 u3 Sx => (31 - u3).toNat, ?_, fun v42_1 v42_2 v42_3 S42h hI => ?_⟩
      · exact ⟨Ch.re, rfl, rfl, by omega, (by
            intro x
            omega)⟩
      obtain ⟨hS42h, rfl, rfl, i42_0, i42_1⟩ := hI
      unfold wX11_write_42'
      refine ⟨by omega, ?_⟩
      refine ⟨fun h45 => ?_, fun h45 => ?_⟩
      · refine ⟨by omega, by omega, ?_⟩
        intro q1
        have e2 : S42h.2 68 (a1) = S37.2 68 (a1) := congrFun (hS42h.2 68 (by decide)) _
        have e3 : S37.2 68 (a1) = S32.2 68 (a1) := congrFun (hS37.2 68 (by decide)) _
        have e4 : S32.2 68 (a1) = S27.2 68 (a1) := congrFun (hS32.2 68 (by decide)) _
        have e5 : S27.2 68 (a1) = S22.2 68 (a1) := congrFun (hS27.2 68 (by decide)) _
        have e6 : S22.2 68 (a1) = S12.2 68 (a1) := congrFun (hS22.2 68 (by decide)) _
        have e7 : S12.2 68 (a1) = S3.2 68 (a1) := congrFun (hS12.2 68 (by decide)) _
        have e8 : S3.2 68 (a1) = S.2 68 (a1) := congrFun (hS3.2 68 (by decide)) _
        have hs0 := p3 a1 0
        have hs : 1 ≤ S42h.2 57 (S42h.2 68 (a1)) := by
          rw [(show S42h.2 57 = S.2 57 from ((Ch.tr (Ch.tr (Ch.tr (Ch.tr (Ch.tr (Ch.tr hS3 hS12) hS22) hS27) hS32) hS37) hS42h)).2 57 (by decide)), (show S42h.2 68 = S.2 68 from ((Ch.tr (Ch.tr (Ch.tr (Ch.tr (Ch.tr (Ch.tr hS3 hS12) hS22) hS27) hS32) hS37) hS42h)).2 68 (by decide))]
          omega
        refine ⟨by omega, ?_⟩
        refine ⟨by omega, ?_⟩
        have e9 : S42h.1 54 25 = S37.1 54 25 := hS42h.1 25 (by decide)
        have e10 : S37.1 54 25 = S32.1 54 25 := hS37.1 25 (by decide)
        have e11 : S32.1 54 25 = S27.1 54 25 := hS32.1 25 (by decide)
        have e12 : S42h.2 57 (S42h.2 68 (a1)) = S37.2 57 (S42h.2 68 (a1)) := congrFun (hS42h.2 57 (by decide)) _
        have e13 : S37.2 57 (S42h.2 68 (a1)) = S32.2 57 (S42h.2 68 (a1)) := congrFun (hS37.2 57 (by decide)) _
        have e14 : S32.2 57 (S42h.2 68 (a1)) = S27.2 57 (S42h.2 68 (a1)) := congrFun (hS32.2 57 (by decide)) _
        have e15 : S27.2 57 (S42h.2 68 (a1)) = S22.2 57 (S42h.2 68 (a1)) := congrFun (hS27.2 57 (by decide)) _
        have e16 : S22.2 57 (S42h.2 68 (a1)) = S12.2 57 (S42h.2 68 (a1)) := congrFun (hS22.2 57 (by decide)) _
        have e17 : S12.2 57 (S42h.2 68 (a1)) = S3.2 57 (S42h.2 68 (a1)) := congrFun (hS12.2 57 (by decide)) _
        have e18 : S3.2 57 (S42h.2 68 (a1)) = S.2 57 (S42h.2 68 (a1)) := congrFun (hS3.2 57 (by decide)) _
        have e19 : S42h.1 54 32 = S37.1 54 32 := hS42h.1 32 (by decide)
        have e20 : S42h.1 54 25 = S37.1 54 25 := hS42h.1 25 (by decide)
        have e21 : S37.1 54 25 = S32.1 54 25 := hS37.1 25 (by decide)
        have e22 : S32.1 54 25 = S27.1 54 25 := hS32.1 25 (by decide)
        have e23 : S42h.1 54 30 = S37.1 54 30 := hS42h.1 30 (by decide)
        have e24 : S37.1 54 30 = S32.1 54 30 := hS37.1 30 (by decide)
        have e25 : S42h.1 54 25 = S37.1 54 25 := hS42h.1 25 (by decide)
        have e26 : S37.1 54 25 = S32.1 54 25 := hS37.1 25 (by decide)
        have e27 : S32.1 54 25 = S27.1 54 25 := hS32.1 25 (by decide)
        have e28 : S42h.2 67 0 = S37.2 67 0 := congrFun (hS42h.2 67 (by decide)) _
        have e29 : S37.2 67 0 = S32.2 67 0 := congrFun (hS37.2 67 (by decide)) _
        have e30 : S32.2 67 0 = S27.2 67 0 := congrFun (hS32.2 67 (by decide)) _
        have e31 : S27.2 67 0 = S22.2 67 0 := congrFun (hS27.2 67 (by decide)) _
        have e32 : S22.2 67 0 = S12.2 67 0 := congrFun (hS22.2 67 (by decide)) _
        have e33 : S12.2 67 0 = S3.2 67 0 := congrFun (hS12.2 67 (by decide)) _
        have e34 : S3.2 67 0 = S.2 67 0 := congrFun (hS3.2 67 (by decide)) _
        have e35 : S42h.1 54 25 = S37.1 54 25 := hS42h.1 25 (by decide)
        have e36 : S37.1 54 25 = S32.1 54 25 := hS37.1 25 (by decide)
        have e37 : S32.1 54 25 = S27.1 54 25 := hS32.1 25 (by decide)
        have e38 : S42h.1 54 30 = S37.1 54 30 := hS42h.1 30 (by decide)
        have e39 : S37.1 54 30 = S32.1 54 30 := hS37.1 30 (by decide)
        have e40 : S42h.1 54 32 = S37.1 54 32 := hS42h.1 32 (by decide)
        have e41 : S42h.1 54 39 = S37.1 54 39 := hS42h.1 39 (by decide)
        have e42 : S37.1 54 39 = S32.1 54 39 := hS37.1 39 (by decide)
        have e43 : S32.1 54 39 = S27.1 54 39 := hS32.1 39 (by decide)
        have e44 : S27.1 54 39 = S22.1 54 39 := hS27.1 39 (by decide)
        have e45 : S42h.1 54 25 = S37.1 54 25 := hS42h.1 25 (by decide)
        have e46 : S37.1 54 25 = S32.1 54 25 := hS37.1 25 (by decide)
        have e47 : S32.1 54 25 = S27.1 54 25 := hS32.1 25 (by decide)
        have e48 : S42h.1 54 39 = S37.1 54 39 := hS42h.1 39 (by decide)
        have e49 : S37.1 54 39 = S32.1 54 39 := hS37.1 39 (by decide)
        have e50 : S32.1 54 39 = S27.1 54 39 := hS32.1 39 (by decide)
        have e51 : S27.1 54 39 = S22.1 54 39 := hS27.1 39 (by decide)
        have e52 : S42h.1 54 32 = S37.1 54 32 := hS42h.1 32 (by decide)
        have e53 : S42h.1 54 32 = S37.1 54 32 := hS42h.1 32 (by decide)
        have e54 : S42h.1 54 32 = S37.1 54 32 := hS42h.1 32 (by decide)
        have e55 : S42h.1 54 32 = S37.1 54 32 := hS42h.1 32 (by decide)
        have e56 : S42h.1 54 32 = S37.1 54 32 := hS42h.1 32 (by decide)
        have e57 : S42h.1 54 32 = S37.1 54 32 := hS42h.1 32 (by decide)
        have e58 : S42h.2 56 ((S42h.2 68) (a1)) = S37.2 56 ((S42h.2 68) (a1)) := congrFun (hS42h.2 56 (by decide)) _
        have e59 : S37.2 56 ((S42h.2 68) (a1)) = S32.2 56 ((S42h.2 68) (a1)) := congrFun (hS37.2 56 (by decide)) _
        have e60 : S32.2 56 ((S42h.2 68) (a1)) = S27.2 56 ((S42h.2 68) (a1)) := congrFun (hS32.2 56 (by decide)) _
        have e61 : S27.2 56 ((S42h.2 68) (a1)) = S22.2 56 ((S42h.2 68) (a1)) := congrFun (hS27.2 56 (by decide)) _
        have e62 : S22.2 56 ((S42h.2 68) (a1)) = S12.2 56 ((S42h.2 68) (a1)) := congrFun (hS22.2 56 (by decide)) _
        have e63 : S12.2 56 ((S42h.2 68) (a1)) = S3.2 56 ((S42h.2 68) (a1)) := congrFun (hS12.2 56 (by decide)) _
        have e64 : S3.2 56 ((S42h.2 68) (a1)) = S.2 56 ((S42h.2 68) (a1)) := congrFun (hS3.2 56 (by decide)) _
        refine tX11_begin (by omega) (by omega) (by omega) (by omega) (by omega) (by omega) (by omega) (by omega) (by omega) (by unfold PW; intro x; omega) (by unfold BW; intro x; have := i42_1 x; omega) (OK0.mv p1  (((Ch.tr (Ch.tr (Ch.tr (Ch.tr (Ch.tr (Ch.tr hS3 hS12) hS22) hS27) hS32) hS37) hS42h)).2 59 (by decide)) (((Ch.tr (Ch.tr (Ch.tr (Ch.tr (Ch.tr (Ch.tr hS3 hS12) hS22) hS27) hS32) hS37) hS42h)).2 67 (by decide)) (((Ch.tr (Ch.tr (Ch.tr (Ch.tr (Ch.tr (Ch.tr hS3 hS12) hS22) hS27) hS32) hS37) hS42h)).2 68 (by decide)) (((Ch.tr (Ch.tr (Ch.tr (Ch.tr (Ch.tr (Ch.tr hS3 hS12) hS22) hS27) hS32) hS37) hS42h)).2 69 (by decide))) (by omega) (fun r74 S74 hS74 n74_0 n74_1 n74_2 n74_3 n74_4 n74_5 n74_6 n74_7 n74_8 n74_9 n74_10 n74_11 n74_12 n74_13 => ?_)
        have e65 : S42h.1 54 39 = S37.1 54 39 := hS42h.1 39 (by decide)
        have e66 : S37.1 54 39 = S32.1 54 39 := hS37.1 39 (by decide)
        have e67 : S32.1 54 39 = S27.1 54 39 := hS32.1 39 (by decide)
        have e68 : S27.1 54 39 = S22.1 54 39 := hS27.1 39 (by decide)
        have e69 : S42h.1 54 32 = S37.1 54 32 := hS42h.1 32 (by decide)
        have e70 : S42h.1 54 25 = S37.1 54 25 := hS42h.1 25 (by decide)
        have e71 : S37.1 54 25 = S32.1 54 25 := hS37.1 25 (by decide)
        have e72 : S32.1 54 25 = S27.1 54 25 := hS32.1 25 (by decide)
        have hop : S42h.1 54 32 = 0 := by omega
        rw [hop] at n74_5
        have wEWI : EWI S74 := EWI_1 (by omega) (by omega)
        have wOWI : OWI S74 := by
          intro x
          by_cases h0 : x < 0
          · exact Or.inl h0
          rcases n74_5 with ⟨k1, k2⟩ | ⟨k1, k2, m1, m2, m3, m4, m5, m6⟩
          · exact Or.inr (Or.inl (by omega))
          · by_cases h1 : x = 0
            · subst h1
              refine Or.inr (Or.inr (owi_new (Ch.wk (Ch.tr (Ch.tr (Ch.tr (Ch.tr (Ch.tr (Ch.tr (Ch.tr hS3 hS12) hS22) hS27) hS32) hS37) hS42h) hS74) (by decide) (by decide)) (by omega) (by omega) ?_ (by omega) ?_ (by omega) (by omega) (by omega)))
              · rw [m3]
                have hs2 := hs
                rw [(show S42h.2 57 = S.2 57 from ((Ch.tr (Ch.tr (Ch.tr (Ch.tr (Ch.tr (Ch.tr hS3 hS12) hS22) hS27) hS32) hS37) hS42h)).2 57 (by decide))] at hs2
                exact hs2
              · rw [m1]
                have hs2 := n74_13
                rw [(show S42h.2 56 = S.2 56 from ((Ch.tr (Ch.tr (Ch.tr (Ch.tr (Ch.tr (Ch.tr hS3 hS12) hS22) hS27) hS32) hS37) hS42h)).2 56 (by decide)), (show S42h.2 68 = S.2 68 from ((Ch.tr (Ch.tr (Ch.tr (Ch.tr (Ch.tr (Ch.tr hS3 hS12) hS22) hS27) hS32) hS37) hS42h)).2 68 (by decide))] at hs2
                exact hs2
            · exact Or.inr (Or.inl (by omega))
        unfold wX11_write_79
        have e73 : S74.1 54 19 = S42h.1 54 19 := hS74.1 19 (by decide)
        have e74 : S42h.1 54 19 = S37.1 54 19 := hS42h.1 19 (by decide)
        have e75 : S37.1 54 19 = S32.1 54 19 := hS37.1 19 (by decide)
        have e76 : S32.1 54 19 = S27.1 54 19 := hS32.1 19 (by decide)
        have e77 : S27.1 54 19 = S22.1 54 19 := hS27.1 19 (by decide)
        have e78 : S22.1 54 19 = S12.1 54 19 := hS22.1 19 (by decide)
        have e79 : S12.1 54 19 = S3.1 54 19 := hS12.1 19 (by decide)
        have e80 : S3.1 54 19 = S.1 54 19 := hS3.1 19 (by decide)
        have e81 : S74.1 54 19 = S42h.1 54 19 := hS74.1 19 (by decide)
        have e82 : S42h.1 54 19 = S37.1 54 19 := hS42h.1 19 (by decide)
        have e83 : S37.1 54 19 = S32.1 54 19 := hS37.1 19 (by decide)
        have e84 : S32.1 54 19 = S27.1 54 19 := hS32.1 19 (by decide)
        have e85 : S27.1 54 19 = S22.1 54 19 := hS27.1 19 (by decide)
        have e86 : S22.1 54 19 = S12.1 54 19 := hS22.1 19 (by decide)
        have e87 : S12.1 54 19 = S3.1 54 19 := hS12.1 19 (by decide)
        have e88 : S3.1 54 19 = S.1 54 19 := hS3.1 19 (by decide)
        refine ⟨fun u2 u3 Sx => Ch [25, 30, 32, 39] [72, 73, 74, 75, 76, 77, 78, 79, 80, 81, 82, 83] S74 Sx ∧ a2 = u2 ∧ (iv 0 1 u3) ∧ ((Sx.1 54 30) ≤ (Sx.1 54 25)) ∧ ((Sx.1 54 32) ≤ (Sx.1 54 19)) ∧ (PW Sx) ∧ (BW Sx) ∧ (OWI Sx) ∧ (EWI Sx) ∧ ((Sx.1 54 19) = (S.1 54 19)), fun u2 u3 Sx => ((1 - u3) * 100000 + (3001 - (Sx.1 54 39)) * 10 + min 4 (max 0 (4 - (Sx.2 80) ((Sx.1 54 32) - 1)))).toNat, ?_, fun v79_2 v79_3 S79h hI => ?_⟩
        · exact ⟨Ch.re, rfl, by omega, by omega, by omega, n74_2, n74_3, wOWI, wEWI, by omega⟩
        obtain ⟨hS79h, rfl, i79_0, i79_1, i79_2, i79_3, i79_4, i79_5, i79_6, i79_7⟩ := hI
        unfold wX11_write_79'
        intro q89
        refine ⟨fun h83 => ?_, fun h83 => ?_⟩
        · unfold wX11_write_117
          intro q90
          refine ⟨fun h124 => ?_, fun h124 => ?_⟩
          · refine ⟨by omega, ?_⟩
            refine ⟨fun h131 => ?_, fun h131 => ?_⟩
            · refine ⟨by omega, ?_⟩
              intro S142 hS142e
              have hS142 : Ch [20] [] S79h S142 := Ch_I hS142e
              have hS142v : S142.1 54 20 = S79h.1 54 39 := pI_at hS142e
              unfold wX11_write_148
              refine ⟨fun u4 Sx => Ch [] [71] S142 Sx ∧ (iv 0 3000 u4), fun u4 Sx => (3001 - u4).toNat, ?_, fun v148_4 S148h hI => ?_⟩
              · exact ⟨Ch.re, by omega⟩
              obtain ⟨hS148h, i148_0⟩ := hI
              unfold wX11_write_148'
              intro q91
              have e92 : S148h.1 54 20 = S142.1 54 20 := hS148h.1 20 (by decide)
              refine ⟨by omega, ?_⟩
              refine ⟨fun h154 => ?_, fun h154 => ?_⟩
              · exact hK (S148h.1 54 20) S148h (Ch.wk (Ch.tr (Ch.tr (Ch.tr (Ch.tr (Ch.tr (Ch.tr (Ch.tr (Ch.tr (Ch.tr (Ch.tr hS3 hS12) hS22) hS27) hS32) hS37) hS42h) hS74) hS79h) hS142) hS148h) (by decide) (by decide)) (by omega)
              · refine ⟨by omega, by omega, ?_⟩
                intro q93
                have e94 : S148h.2 83 (v148_4) = S142.2 83 (v148_4) := congrFun (hS148h.2 83 (by decide)) _
                have e95 : S142.2 83 (v148_4) = S79h.2 83 (v148_4) := congrFun (hS142.2 83 (by decide)) _
                refine ⟨by omega, by omega, ?_⟩
                intro S170 hS170e
                have hS170 : Ch [] [71] S148h S170 := Ch_A hS170e
                have hS170v : ∀ x, S170.2 71 x = if x = v148_4 then S148h.2 83 (v148_4) else S148h.2 71 x := pA_at hS170e
                exact ⟨⟨(Ch.wk (Ch.tr hS148h hS170) (by decide) (by decide)), by omega⟩, show (3001 - ((v148_4 + 1))).toNat < (3001 - v148_4).toNat by omega⟩
            · exact hK ((-3)) S79h (Ch.wk (Ch.tr (Ch.tr (Ch.tr (Ch.tr (Ch.tr (Ch.tr (Ch.tr (Ch.tr hS3 hS12) hS22) hS27) hS32) hS37) hS42h) hS74) hS79h) (by decide) (by decide)) (by omega)
          · exact hK ((-4)) S79h (Ch.wk (Ch.tr (Ch.tr (Ch.tr (Ch.tr (Ch.tr (Ch.tr (Ch.tr (Ch.tr hS3 hS12) hS22) hS27) hS32) hS37) hS42h) hS74) hS79h) (by decide) (by decide)) (by omega)
        · refine ⟨by omega, ?_⟩
          refine ⟨fun h87 => ?_, fun h87 => ?_⟩
          · unfold wX11_write_117
            intro q96
            refine ⟨fun h124 => ?_, fun h124 => ?_⟩
            · refine ⟨by omega, ?_⟩
              refine ⟨fun h131 => ?_, fun h131 => ?_⟩
              · refine ⟨by omega, ?_⟩
                intro S142 hS142e
                have hS142 : Ch [20] [] S79h S142 := Ch_I hS142e
                have hS142v : S142.1 54 20 = S79h.1 54 39 := pI_at hS142e
                unfold wX11_write_148
                refine ⟨fun u4 Sx => Ch [] [71] S142 Sx ∧ (iv 0 3000 u4), fun u4 Sx => (3001 - u4).toNat, ?_, fun v148_4 S148h hI => ?_⟩
                · exact ⟨Ch.re, by omega⟩
                obtain ⟨hS148h, i148_0⟩ := hI
                unfold wX11_write_148'
                intro q97
                have e98 : S148h.1 54 20 = S142.1 54 20 := hS148h.1 20 (by decide)
                refine ⟨by omega, ?_⟩
                refine ⟨fun h154 => ?_, fun h154 => ?_⟩
                · exact hK (S148h.1 54 20) S148h (Ch.wk (Ch.tr (Ch.tr (Ch.tr (Ch.tr (Ch.tr (Ch.tr (Ch.tr (Ch.tr (Ch.tr (Ch.tr hS3 hS12) hS22) hS27) hS32) hS37) hS42h) hS74) hS79h) hS142) hS148h) (by decide) (by decide)) (by omega)
                · refine ⟨by omega, by omega, ?_⟩
                  intro q99
                  have e100 : S148h.2 83 (v148_4) = S142.2 83 (v148_4) := congrFun (hS148h.2 83 (by decide)) _
                  have e101 : S142.2 83 (v148_4) = S79h.2 83 (v148_4) := congrFun (hS142.2 83 (by decide)) _
                  refine ⟨by omega, by omega, ?_⟩
                  intro S170 hS170e
                  have hS170 : Ch [] [71] S148h S170 := Ch_A hS170e
                  have hS170v : ∀ x, S170.2 71 x = if x = v148_4 then S148h.2 83 (v148_4) else S148h.2 71 x := pA_at hS170e
                  exact ⟨⟨(Ch.wk (Ch.tr hS148h hS170) (by decide) (by decide)), by omega⟩, show (3001 - ((v148_4 + 1))).toNat < (3001 - v148_4).toNat by omega⟩
              · exact hK ((-3)) S79h (Ch.wk (Ch.tr (Ch.tr (Ch.tr (Ch.tr (Ch.tr (Ch.tr (Ch.tr (Ch.tr hS3 hS12) hS22) hS27) hS32) hS37) hS42h) hS74) hS79h) (by decide) (by decide)) (by omega)
            · exact hK ((-4)) S79h (Ch.wk (Ch.tr (Ch.tr (Ch.tr (Ch.tr (Ch.tr (Ch.tr (Ch.tr (Ch.tr hS3 hS12) hS22) hS27) hS32) hS37) hS42h) hS74) hS79h) (by decide) (by decide)) (by omega)
          · intro q102
            refine ⟨fun h97 => ?_, fun h97 => ?_⟩
            · unfold wX11_write_117
              intro q103
              refine ⟨fun h124 => ?_, fun h124 => ?_⟩
              · refine ⟨by omega, ?_⟩
                refine ⟨fun h131 => ?_, fun h131 => ?_⟩
                · refine ⟨by omega, ?_⟩
                  intro S142 hS142e
                  have hS142 : Ch [20] [] S79h S142 := Ch_I hS142e
                  have hS142v : S142.1 54 20 = S79h.1 54 39 := pI_at hS142e
                  unfold wX11_write_148
                  refine ⟨fun u4 Sx => Ch [] [71] S142 Sx ∧ (iv 0 3000 u4), fun u4 Sx => (3001 - u4).toNat, ?_, fun v148_4 S148h hI => ?_⟩
                  · exact ⟨Ch.re, by omega⟩
                  obtain ⟨hS148h, i148_0⟩ := hI
                  unfold wX11_write_148'
                  intro q104
                  have e105 : S148h.1 54 20 = S142.1 54 20 := hS148h.1 20 (by decide)
                  refine ⟨by omega, ?_⟩
                  refine ⟨fun h154 => ?_, fun h154 => ?_⟩
                  · exact hK (S148h.1 54 20) S148h (Ch.wk (Ch.tr (Ch.tr (Ch.tr (Ch.tr (Ch.tr (Ch.tr (Ch.tr (Ch.tr (Ch.tr (Ch.tr hS3 hS12) hS22) hS27) hS32) hS37) hS42h) hS74) hS79h) hS142) hS148h) (by decide) (by decide)) (by omega)
                  · refine ⟨by omega, by omega, ?_⟩
                    intro q106
                    have e107 : S148h.2 83 (v148_4) = S142.2 83 (v148_4) := congrFun (hS148h.2 83 (by decide)) _
                    have e108 : S142.2 83 (v148_4) = S79h.2 83 (v148_4) := congrFun (hS142.2 83 (by decide)) _
                    refine ⟨by omega, by omega, ?_⟩
                    intro S170 hS170e
                    have hS170 : Ch [] [71] S148h S170 := Ch_A hS170e
                    have hS170v : ∀ x, S170.2 71 x = if x = v148_4 then S148h.2 83 (v148_4) else S148h.2 71 x := pA_at hS170e
                    exact ⟨⟨(Ch.wk (Ch.tr hS148h hS170) (by decide) (by decide)), by omega⟩, show (3001 - ((v148_4 + 1))).toNat < (3001 - v148_4).toNat by omega⟩
                · exact hK ((-3)) S79h (Ch.wk (Ch.tr (Ch.tr (Ch.tr (Ch.tr (Ch.tr (Ch.tr (Ch.tr (Ch.tr hS3 hS12) hS22) hS27) hS32) hS37) hS42h) hS74) hS79h) (by decide) (by decide)) (by omega)
              · exact hK ((-4)) S79h (Ch.wk (Ch.tr (Ch.tr (Ch.tr (Ch.tr (Ch.tr (Ch.tr (Ch.tr (Ch.tr hS3 hS12) hS22) hS27) hS32) hS37) hS42h) hS74) hS79h) (by decide) (by decide)) (by omega)
            · refine ⟨by omega, ?_⟩
              have e109 : S79h.1 54 19 = S74.1 54 19 := hS79h.1 19 (by decide)
              have e110 : S74.1 54 19 = S42h.1 54 19 := hS74.1 19 (by decide)
              have e111 : S42h.1 54 19 = S37.1 54 19 := hS42h.1 19 (by decide)
              have e112 : S37.1 54 19 = S32.1 54 19 := hS37.1 19 (by decide)
              have e113 : S32.1 54 19 = S27.1 54 19 := hS32.1 19 (by decide)
              have e114 : S27.1 54 19 = S22.1 54 19 := hS27.1 19 (by decide)
              have e115 : S22.1 54 19 = S12.1 54 19 := hS22.1 19 (by decide)
              have e116 : S12.1 54 19 = S3.1 54 19 := hS12.1 19 (by decide)
              have e117 : S3.1 54 19 = S.1 54 19 := hS3.1 19 (by decide)
              have e118 : S79h.2 67 0 = S74.2 67 0 := congrFun (hS79h.2 67 (by decide)) _
              have e119 : S74.2 67 0 = S42h.2 67 0 := congrFun (hS74.2 67 (by decide)) _
              have e120 : S42h.2 67 0 = S37.2 67 0 := congrFun (hS42h.2 67 (by decide)) _
              have e121 : S37.2 67 0 = S32.2 67 0 := congrFun (hS37.2 67 (by decide)) _
              have e122 : S32.2 67 0 = S27.2 67 0 := congrFun (hS32.2 67 (by decide)) _
              have e123 : S27.2 67 0 = S22.2 67 0 := congrFun (hS27.2 67 (by decide)) _
              have e124 : S22.2 67 0 = S12.2 67 0 := congrFun (hS22.2 67 (by decide)) _
              have e125 : S12.2 67 0 = S3.2 67 0 := congrFun (hS12.2 67 (by decide)) _
              have e126 : S3.2 67 0 = S.2 67 0 := congrFun (hS3.2 67 (by decide)) _
              have e127 : S79h.1 54 19 = S74.1 54 19 := hS79h.1 19 (by decide)
              have e128 : S74.1 54 19 = S42h.1 54 19 := hS74.1 19 (by decide)
              have e129 : S42h.1 54 19 = S37.1 54 19 := hS42h.1 19 (by decide)
              have e130 : S37.1 54 19 = S32.1 54 19 := hS37.1 19 (by decide)
              have e131 : S32.1 54 19 = S27.1 54 19 := hS32.1 19 (by decide)
              have e132 : S27.1 54 19 = S22.1 54 19 := hS27.1 19 (by decide)
              have e133 : S22.1 54 19 = S12.1 54 19 := hS22.1 19 (by decide)
              have e134 : S12.1 54 19 = S3.1 54 19 := hS12.1 19 (by decide)
              have e135 : S3.1 54 19 = S.1 54 19 := hS3.1 19 (by decide)
              have e136 : S79h.1 54 19 = S74.1 54 19 := hS79h.1 19 (by decide)
              have e137 : S74.1 54 19 = S42h.1 54 19 := hS74.1 19 (by decide)
              have e138 : S42h.1 54 19 = S37.1 54 19 := hS42h.1 19 (by decide)
              have e139 : S37.1 54 19 = S32.1 54 19 := hS37.1 19 (by decide)
              have e140 : S32.1 54 19 = S27.1 54 19 := hS32.1 19 (by decide)
              have e141 : S27.1 54 19 = S22.1 54 19 := hS27.1 19 (by decide)
              have e142 : S22.1 54 19 = S12.1 54 19 := hS22.1 19 (by decide)
              have e143 : S12.1 54 19 = S3.1 54 19 := hS12.1 19 (by decide)
              have e144 : S3.1 54 19 = S.1 54 19 := hS3.1 19 (by decide)
              refine tX11_goesOn (by omega) (by omega) (by omega) (by omega) (i79_3) (i79_4) (OK0.mv p1  (((Ch.tr (Ch.tr (Ch.tr (Ch.tr (Ch.tr (Ch.tr (Ch.tr (Ch.tr hS3 hS12) hS22) hS27) hS32) hS37) hS42h) hS74) hS79h)).2 59 (by decide)) (((Ch.tr (Ch.tr (Ch.tr (Ch.tr (Ch.tr (Ch.tr (Ch.tr (Ch.tr hS3 hS12) hS22) hS27) hS32) hS37) hS42h) hS74) hS79h)).2 67 (by decide)) (((Ch.tr (Ch.tr (Ch.tr (Ch.tr (Ch.tr (Ch.tr (Ch.tr (Ch.tr hS3 hS12) hS22) hS27) hS32) hS37) hS42h) hS74) hS79h)).2 68 (by decide)) (((Ch.tr (Ch.tr (Ch.tr (Ch.tr (Ch.tr (Ch.tr (Ch.tr (Ch.tr hS3 hS12) hS22) hS27) hS32) hS37) hS42h) hS74) hS79h)).2 69 (by decide))) (OL0.mv p2  (((Ch.tr (Ch.tr (Ch.tr (Ch.tr (Ch.tr (Ch.tr (Ch.tr (Ch.tr hS3 hS12) hS22) hS27) hS32) hS37) hS42h) hS74) hS79h)).2 59 (by decide)) (((Ch.tr (Ch.tr (Ch.tr (Ch.tr (Ch.tr (Ch.tr (Ch.tr (Ch.tr hS3 hS12) hS22) hS27) hS32) hS37) hS42h) hS74) hS79h)).2 67 (by decide)) (((Ch.tr (Ch.tr (Ch.tr (Ch.tr (Ch.tr (Ch.tr (Ch.tr (Ch.tr hS3 hS12) hS22) hS27) hS32) hS37) hS42h) hS74) hS79h)).2 68 (by decide)) (((Ch.tr (Ch.tr (Ch.tr (Ch.tr (Ch.tr (Ch.tr (Ch.tr (Ch.tr hS3 hS12) hS22) hS27) hS32) hS37) hS42h) hS74) hS79h)).2 69 (by decide)) (((Ch.tr (Ch.tr (Ch.tr (Ch.tr (Ch.tr (Ch.tr (Ch.tr (Ch.tr hS3 hS12) hS22) hS27) hS32) hS37) hS42h) hS74) hS79h)).2 70 (by decide))) (NMS.mv p3  (((Ch.tr (Ch.tr (Ch.tr (Ch.tr (Ch.tr (Ch.tr (Ch.tr (Ch.tr hS3 hS12) hS22) hS27) hS32) hS37) hS42h) hS74) hS79h)).2 56 (by decide)) (((Ch.tr (Ch.tr (Ch.tr (Ch.tr (Ch.tr (Ch.tr (Ch.tr (Ch.tr hS3 hS12) hS22) hS27) hS32) hS37) hS42h) hS74) hS79h)).2 57 (by decide)) (((Ch.tr (Ch.tr (Ch.tr (Ch.tr (Ch.tr (Ch.tr (Ch.tr (Ch.tr hS3 hS12) hS22) hS27) hS32) hS37) hS42h) hS74) hS79h)).2 67 (by decide)) (((Ch.tr (Ch.tr (Ch.tr (Ch.tr (Ch.tr (Ch.tr (Ch.tr (Ch.tr hS3 hS12) hS22) hS27) hS32) hS37) hS42h) hS74) hS79h)).2 68 (by decide))) (i79_5) (i79_6) (by omega) (by omega) (fun r102 S102 hS102 n102_0 n102_1 n102_2 n102_3 n102_4 n102_5 n102_6 n102_7 n102_8 => ?_)
              have hmu : S102.1 54 39 = 3001 ∨ S79h.1 54 39 < S102.1 54 39 ∨ r102 = 0 ∨ (S102.1 54 39 = S79h.1 54 39 ∧ S102.2 80 (S102.1 54 32 - 1) = S79h.2 80 (S79h.1 54 32 - 1) + 1 ∧ 0 ≤ S79h.2 80 (S79h.1 54 32 - 1) ∧ S79h.2 80 (S79h.1 54 32 - 1) ≤ 3) := by
                rcases n102_7 with h | h | h | ⟨h1, h2, h3⟩
                · exact Or.inl h
                · exact Or.inr (Or.inl h)
                · exact Or.inr (Or.inr (Or.inl h))
                · refine Or.inr (Or.inr (Or.inr ⟨h1, ?_⟩))
                  rw [h2]
                  exact h3
              refine ⟨by omega, ?_⟩
              refine ⟨fun h105 => ?_, fun h105 => ?_⟩
              · unfold wX11_write_113
                have e145 : S102.1 54 19 = S79h.1 54 19 := hS102.1 19 (by decide)
                have e146 : S79h.1 54 19 = S74.1 54 19 := hS79h.1 19 (by decide)
                have e147 : S74.1 54 19 = S42h.1 54 19 := hS74.1 19 (by decide)
                have e148 : S42h.1 54 19 = S37.1 54 19 := hS42h.1 19 (by decide)
                have e149 : S37.1 54 19 = S32.1 54 19 := hS37.1 19 (by decide)
                have e150 : S32.1 54 19 = S27.1 54 19 := hS32.1 19 (by decide)
                have e151 : S27.1 54 19 = S22.1 54 19 := hS27.1 19 (by decide)
                have e152 : S22.1 54 19 = S12.1 54 19 := hS22.1 19 (by decide)
                have e153 : S12.1 54 19 = S3.1 54 19 := hS12.1 19 (by decide)
                have e154 : S3.1 54 19 = S.1 54 19 := hS3.1 19 (by decide)
                have e155 : S102.1 54 19 = S79h.1 54 19 := hS102.1 19 (by decide)
                have e156 : S79h.1 54 19 = S74.1 54 19 := hS79h.1 19 (by decide)
                have e157 : S74.1 54 19 = S42h.1 54 19 := hS74.1 19 (by decide)
                have e158 : S42h.1 54 19 = S37.1 54 19 := hS42h.1 19 (by decide)
                have e159 : S37.1 54 19 = S32.1 54 19 := hS37.1 19 (by decide)
                have e160 : S32.1 54 19 = S27.1 54 19 := hS32.1 19 (by decide)
                have e161 : S27.1 54 19 = S22.1 54 19 := hS27.1 19 (by decide)
                have e162 : S22.1 54 19 = S12.1 54 19 := hS22.1 19 (by decide)
                have e163 : S12.1 54 19 = S3.1 54 19 := hS12.1 19 (by decide)
                have e164 : S3.1 54 19 = S.1 54 19 := hS3.1 19 (by decide)
                exact ⟨⟨(Ch.wk (Ch.tr hS79h hS102) (by decide) (by decide)), rfl, by omega, by omega, by omega, n102_3, n102_4, n102_5, n102_6, by omega⟩, show ((1 - 0) * 100000 + (3001 - (S102.1 54 39)) * 10 + min 4 (max 0 (4 - (S102.2 80) ((S102.1 54 32) - 1)))).toNat < ((1 - v79_3) * 100000 + (3001 - (S79h.1 54 39)) * 10 + min 4 (max 0 (4 - (S79h.2 80) ((S79h.1 54 32) - 1)))).toNat by omega⟩
              · unfold wX11_write_113
                have e165 : S102.1 54 19 = S79h.1 54 19 := hS102.1 19 (by decide)
                have e166 : S79h.1 54 19 = S74.1 54 19 := hS79h.1 19 (by decide)
                have e167 : S74.1 54 19 = S42h.1 54 19 := hS74.1 19 (by decide)
                have e168 : S42h.1 54 19 = S37.1 54 19 := hS42h.1 19 (by decide)
                have e169 : S37.1 54 19 = S32.1 54 19 := hS37.1 19 (by decide)
                have e170 : S32.1 54 19 = S27.1 54 19 := hS32.1 19 (by decide)
                have e171 : S27.1 54 19 = S22.1 54 19 := hS27.1 19 (by decide)
                have e172 : S22.1 54 19 = S12.1 54 19 := hS22.1 19 (by decide)
                have e173 : S12.1 54 19 = S3.1 54 19 := hS12.1 19 (by decide)
                have e174 : S3.1 54 19 = S.1 54 19 := hS3.1 19 (by decide)
                have e175 : S102.1 54 19 = S79h.1 54 19 := hS102.1 19 (by decide)
                have e176 : S79h.1 54 19 = S74.1 54 19 := hS79h.1 19 (by decide)
                have e177 : S74.1 54 19 = S42h.1 54 19 := hS74.1 19 (by decide)
                have e178 : S42h.1 54 19 = S37.1 54 19 := hS42h.1 19 (by decide)
                have e179 : S37.1 54 19 = S32.1 54 19 := hS37.1 19 (by decide)
                have e180 : S32.1 54 19 = S27.1 54 19 := hS32.1 19 (by decide)
                have e181 : S27.1 54 19 = S22.1 54 19 := hS27.1 19 (by decide)
                have e182 : S22.1 54 19 = S12.1 54 19 := hS22.1 19 (by decide)
                have e183 : S12.1 54 19 = S3.1 54 19 := hS12.1 19 (by decide)
                have e184 : S3.1 54 19 = S.1 54 19 := hS3.1 19 (by decide)
                exact ⟨⟨(Ch.wk (Ch.tr hS79h hS102) (by decide) (by decide)), rfl, by omega, by omega, by omega, n102_3, n102_4, n102_5, n102_6, by omega⟩, show ((1 - 1) * 100000 + (3001 - (S102.1 54 39)) * 10 + min 4 (max 0 (4 - (S102.2 80) ((S102.1 54 32) - 1)))).toNat < ((1 - v79_3) * 100000 + (3001 - (S79h.1 54 39)) * 10 + min 4 (max 0 (4 - (S79h.2 80) ((S79h.1 54 32) - 1)))).toNat by omega⟩
      · refine ⟨by omega, by omega, ?_⟩
        intro S55 hS55e
        have hS55 : Ch [] [75] S42h S55 := Ch_A hS55e
        have hS55v : ∀ x, S55.2 75 x = if x = v42_3 then (-2) else S42h.2 75 x := pA_at hS55e
        exact ⟨⟨(Ch.wk (Ch.tr hS42h hS55) (by decide) (by decide)), rfl, rfl, by omega, (by
              intro x
              have e185 := hS55v x
              have e186 := i42_1 x
              omega)⟩, show (31 - ((v42_3 + 1))).toNat < (31 - v42_3).toNat by omega⟩
    · exact hK ((-1)) S12 (Ch.wk (Ch.tr hS3 hS12) (by decide) (by decide)) (by omega)
