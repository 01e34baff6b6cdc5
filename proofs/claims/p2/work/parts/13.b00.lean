/-! WRITING: parents lie ahead, what is begun is an element, an element costs four signs, or three while it is open -/
def PW (S : St) : Prop := ∀ x : Int, x < 0 ∨ S.1 54 25 ≤ x ∨ S.2 72 x < x
def BW (S : St) : Prop := ∀ x : Int, x < 0 ∨ 29 < x ∨ S.2 75 x = -2 ∨ (0 ≤ S.2 75 x ∧ S.2 75 x < S.1 54 25)
theorem PW.mv {S S' : St} (h : PW S) (e1 : S'.1 54 25 = S.1 54 25) (e2 : S'.2 72 = S.2 72) : PW S' := by
  unfold PW
  rw [e1, e2]
  exact h
theorem BW.mv {S S' : St} (h : BW S) (e1 : S.1 54 25 ≤ S'.1 54 25) (e2 : S'.2 75 = S.2 75) : BW S' := by
  unfold BW
  rw [e2]
  intro x
  have := h x
  omega
theorem tdv {n b : Int} (hn : 0 ≤ n) (hb : 1 ≤ b) (h : 9 < Int.tdiv n b) : 10 * b ≤ n := by
  rw [Int.tdiv_eq_ediv_of_nonneg hn] at h
  have h1 : b * (n / b) ≤ n := Int.mul_ediv_self_le (by omega)
  have h2 : b * 10 ≤ b * (n / b) := Int.mul_le_mul_of_nonneg_left (by omega) (by omega)
  omega
theorem tdq {n b : Int} (hn : 0 ≤ n) (hb : 1 ≤ b) : 0 ≤ Int.tdiv n b ∧ Int.tdiv n b ≤ n := by
  rw [Int.tdiv_eq_ediv_of_nonneg hn]
  exact ⟨Int.ediv_nonneg hn (by omega), Int.ediv_le_self b hn⟩
theorem tdm {x : Int} (hx : 0 ≤ x) : 0 ≤ x - Int.tdiv x 10 * 10 ∧ x - Int.tdiv x 10 * 10 ≤ 9 := by
  rw [Int.tdiv_eq_ediv_of_nonneg hx]
  omega
theorem td10 {b : Int} (h : 0 < b) : 0 ≤ Int.tdiv b 10 ∧ Int.tdiv b 10 < b := by
  rw [Int.tdiv_eq_ediv_of_nonneg (by omega)]
  omega
/-- the k-th parent -/
def itp (S : St) (e : Int) : Nat → Int
  | 0 => e
  | k + 1 => S.2 72 (itp S e k)
theorem itp_succ {S : St} {e k : Int} (h : 0 ≤ k) : itp S e (k + 1).toNat = S.2 72 (itp S e k.toNat) := by
  rw [show (k + 1).toNat = k.toNat + 1 by omega]
  rfl
/-- the names of the living objects' kinds and fields are not empty -/
def NMS (S : St) : Prop := ∀ x y : Int, x < 0 ∨ S.2 67 0 ≤ x ∨ (1 ≤ S.2 57 (S.2 68 x) ∧ (y < 0 ∨ S.2 56 (S.2 68 x) ≤ y ∨ 1 ≤ S.2 57 (6 + (4 * S.2 68 x + y))))
/-- what is said of an open object -/
def owi (S : St) (E : Int) (x : Int) : Prop := S.2 78 x < E ∧ S.2 82 x < E ∧ S.2 77 x < S.2 67 0 ∧ S.2 80 x ≤ S.2 56 (S.2 68 (S.2 77 x)) ∧ 1 ≤ S.2 57 (S.2 79 x) ∧ (S.2 81 x = 0 ∨ (S.2 59 (4 * S.2 68 (S.2 77 x) + S.2 80 x) = 3 ∧ S.2 81 x ≤ S.2 69 (4 * S.2 77 x + S.2 80 x)))
def OWI (S : St) : Prop := ∀ x : Int, x < 0 ∨ S.1 54 32 ≤ x ∨ owi S (S.1 54 25) x
/-- whether an open object has a list that is open -/
def fl (S : St) (x : Int) : Int := if 0 < S.2 81 x ∧ S.2 60 (4 * S.2 68 (S.2 77 x) + S.2 80 x) = 0 then 1 else 0
def sfl (S : St) : Nat → Int
  | 0 => 0
  | n + 1 => sfl S n + fl S (n : Int)
def EWI (S : St) : Prop := S.1 54 39 = 3001 ∨ 4 * S.1 54 25 ≤ S.1 54 39 + S.1 54 32 + sfl S (S.1 54 32).toNat
theorem fl_01 {S : St} {x : Int} : 0 ≤ fl S x ∧ fl S x ≤ 1 := by
  unfold fl
  by_cases h : 0 < S.2 81 x ∧ S.2 60 (4 * S.2 68 (S.2 77 x) + S.2 80 x) = 0
  · rw [if_pos h]; omega
  · rw [if_neg h]; omega
theorem sfl_eq {S S' : St} : ∀ n : Nat, (∀ x : Int, 0 ≤ x → x < n → fl S' x = fl S x) → sfl S' n = sfl S n
  | 0, _ => rfl
  | n + 1, h => by
    unfold sfl
    rw [sfl_eq n (fun x h0 h1 => h x h0 (by omega)), h n (by omega) (by omega)]
theorem sfl_s {S : St} {o : Int} (h : 0 ≤ o) : sfl S (o + 1).toNat = sfl S o.toNat + fl S o := by
  rw [show (o + 1).toNat = o.toNat + 1 by omega]
  show sfl S o.toNat + fl S (o.toNat : Int) = _
  rw [Int.toNat_of_nonneg h]
theorem sfl_le {S : St} : ∀ n : Nat, 0 ≤ sfl S n ∧ sfl S n ≤ n
  | 0 => ⟨Int.le_refl 0, Int.le_refl 0⟩
  | n + 1 => by
    have h := sfl_le (S := S) n
    have k := fl_01 (S := S) (x := (n : Int))
    unfold sfl
    omega
abbrev wCh (S S' : St) : Prop := Ch [25, 30, 32, 39] [72, 73, 74, 75, 76, 77, 78, 79, 80, 81, 82, 83] S S'
theorem fl_eq {S S' : St} {x : Int} (h : wCh S S') (h1 : S'.2 77 x = S.2 77 x) (h2 : S'.2 80 x = S.2 80 x) (h3 : S'.2 81 x = S.2 81 x) : fl S' x = fl S x := by
  unfold fl
  rw [h1, h2, h3, h.2 60 (by decide), h.2 68 (by decide)]
theorem OWI_step {S S' : St} {o : Int} (hC : wCh S S') (ho : S.1 54 32 = o + 1) (hE : S.1 54 25 ≤ S'.1 54 25) (hO : S'.1 54 32 ≤ o + 2) (hW : OWI S) (f1 : ∀ x, o ≤ x ∨ S'.2 77 x = S.2 77 x) (f2 : ∀ x, o ≤ x ∨ S'.2 78 x = S.2 78 x) (f3 : ∀ x, o ≤ x ∨ S'.2 79 x = S.2 79 x) (f4 : ∀ x, o ≤ x ∨ S'.2 80 x = S.2 80 x) (f5 : ∀ x, o ≤ x ∨ S'.2 81 x = S.2 81 x) (f6 : ∀ x, o ≤ x ∨ S'.2 82 x = S.2 82 x) (hT : S'.1 54 32 ≤ o ∨ owi S' (S'.1 54 25) o) (hN : S'.1 54 32 ≤ o + 1 ∨ owi S' (S'.1 54 25) (o + 1)) : OWI S' := by
  intro x
  by_cases h0 : x < 0
  · exact Or.inl h0
  by_cases h1 : S'.1 54 32 ≤ x
  · exact Or.inr (Or.inl h1)
  refine Or.inr (Or.inr ?_)
  by_cases h2 : x < o
  · rcases hW x with h | h | h
    · exact absurd h h0
    · omega
    · unfold owi at h ⊢
      rw [(f1 x).resolve_left (by omega), (f2 x).resolve_left (by omega), (f3 x).resolve_left (by omega), (f4 x).resolve_left (by omega), (f5 x).resolve_left (by omega), (f6 x).resolve_left (by omega), hC.2 56 (by decide), hC.2 57 (by decide), hC.2 59 (by decide), hC.2 67 (by decide), hC.2 68 (by decide), hC.2 69 (by decide)]
      exact ⟨by omega, by omega, h.2.2⟩
  · by_cases h3 : x = o
    · subst h3
      exact hT.resolve_left h1
    · have h4 : x = o + 1 := by omega
      subst h4
      exact hN.resolve_left h1
theorem EWI_step {S S' : St} {o : Int} (h0 : 0 ≤ o) (hC : wCh S S') (ho : S.1 54 32 = o + 1) (hW : EWI S) (hd : S.1 54 39 ≤ 3000) (f1 : ∀ x, o ≤ x ∨ S'.2 77 x = S.2 77 x) (f4 : ∀ x, o ≤ x ∨ S'.2 80 x = S.2 80 x) (f5 : ∀ x, o ≤ x ∨ S'.2 81 x = S.2 81 x)
    (hk : S'.1 54 39 = 3001 ∨ (S'.1 54 32 = o ∧ 4 * S'.1 54 25 + 1 + fl S o ≤ 4 * S.1 54 25 + (S'.1 54 39 - S.1 54 39) + 0) ∨ (S'.1 54 32 = o + 1 ∧ 4 * S'.1 54 25 + fl S o ≤ 4 * S.1 54 25 + (S'.1 54 39 - S.1 54 39) + fl S' o) ∨ (S'.1 54 32 = o + 2 ∧ 4 * S'.1 54 25 + fl S o ≤ 4 * S.1 54 25 + (S'.1 54 39 - S.1 54 39) + 1 + fl S' o)) : EWI S' := by
  unfold EWI at hW ⊢
  have e1 := sfl_eq (S := S) (S' := S') o.toNat (fun x x0 x1 => fl_eq hC ((f1 x).resolve_left (by omega)) ((f4 x).resolve_left (by omega)) ((f5 x).resolve_left (by omega)))
  rw [ho, sfl_s h0] at hW
  rcases hk with h | ⟨h, k⟩ | ⟨h, k⟩ | ⟨h, k⟩
  · exact Or.inl h
  · rw [h, e1]; omega
  · rw [h, sfl_s h0, e1]; omega
  · have e2 := fl_01 (S := S') (x := o + 1)
    rw [h, show (o + 2).toNat = (o + 1 + 1).toNat by omega, sfl_s (by omega), sfl_s h0, e1]; omega
theorem EWI_lt {S : St} (h : EWI S) (hd : S.1 54 39 ≤ 3000) (h1 : 0 ≤ S.1 54 32) (h2 : S.1 54 32 ≤ 20) : S.1 54 25 ≤ 760 := by
  unfold EWI at h
  have := sfl_le (S := S) (S.1 54 32).toNat
  omega
theorem BW.mv2 {S S' : St} (h : BW S) (e1 : S'.1 54 25 = S.1 54 25) (e2 : S'.2 75 = S.2 75) : BW S' := h.mv (Int.le_of_eq e1.symm) e2
theorem OK0.mv {S S' : St} (h : OK0 S) (e1 : S'.2 59 = S.2 59) (e2 : S'.2 67 = S.2 67) (e3 : S'.2 68 = S.2 68) (e4 : S'.2 69 = S.2 69) : OK0 S' := by
  unfold OK0
  rw [e1, e2, e3, e4]
  exact h
theorem fl_is {S : St} {o k : Int} (hk : k = 4 * S.2 68 (S.2 77 o) + S.2 80 o) : (0 < S.2 81 o ∧ S.2 60 k = 0 ∧ fl S o = 1) ∨ ((S.2 81 o ≤ 0 ∨ ¬ S.2 60 k = 0) ∧ fl S o = 0) := by
  subst hk
  unfold fl
  by_cases h : 0 < S.2 81 o ∧ S.2 60 (4 * S.2 68 (S.2 77 o) + S.2 80 o) = 0
  · rw [if_pos h]
    exact Or.inl ⟨h.1, h.2, rfl⟩
  · rw [if_neg h]
    exact Or.inr ⟨by omega, rfl⟩
theorem fl_it {S S' : St} {o k : Int} (hC : wCh S S') (e1 : S'.2 77 o = S.2 77 o) (e2 : S'.2 80 o = S.2 80 o) (hk : k = 4 * S.2 68 (S.2 77 o) + S.2 80 o) : (0 < S'.2 81 o ∧ S.2 60 k = 0 ∧ fl S' o = 1) ∨ ((S'.2 81 o ≤ 0 ∨ ¬ S.2 60 k = 0) ∧ fl S' o = 0) := by
  have h := fl_is (S := S') (o := o) (k := k) (by rw [hC.2 68 (by decide), e1, e2]; exact hk)
  rw [hC.2 60 (by decide)] at h
  exact h
theorem fl_z {S : St} {o : Int} (h : S.2 81 o = 0) : fl S o = 0 := by
  unfold fl
  rw [if_neg (fun q => by omega)]
theorem owi_top {S S' : St} {o E E' : Int} (hC : wCh S S') (h : owi S E o) (hE : E ≤ E') (e1 : S'.2 77 o = S.2 77 o) (e2 : S'.2 78 o = S.2 78 o) (e3 : S'.2 79 o = S.2 79 o) (h82 : S'.2 82 o < E')
    (h80 : (S'.2 80 o = S.2 80 o ∧ (S'.2 81 o = 0 ∨ (S.2 59 (4 * S.2 68 (S.2 77 o) + S.2 80 o) = 3 ∧ S'.2 81 o ≤ S.2 69 (4 * S.2 77 o + S.2 80 o)))) ∨ (S'.2 80 o = S.2 80 o + 1 ∧ S.2 80 o + 1 ≤ S.2 56 (S.2 68 (S.2 77 o)) ∧ S'.2 81 o = 0)) : owi S' E' o := by
  unfold owi at h ⊢
  rw [e1, e2, e3, hC.2 56 (by decide), hC.2 57 (by decide), hC.2 59 (by decide), hC.2 67 (by decide), hC.2 68 (by decide), hC.2 69 (by decide)]
  rcases h80 with ⟨a, c⟩ | ⟨a, c, f⟩
  · rw [a]
    exact ⟨by omega, h82, h.2.2.1, h.2.2.2.1, h.2.2.2.2.1, c⟩
  · rw [a]
    exact ⟨by omega, h82, h.2.2.1, c, h.2.2.2.2.1, Or.inl f⟩
theorem owi_new {S S' : St} {o E' : Int} (hC : wCh S S') (h1 : S'.2 77 o < S.2 67 0) (h2 : S'.2 78 o < E') (h3 : 1 ≤ S.2 57 (S'.2 79 o)) (h4 : S'.2 80 o = 0) (h5 : 0 ≤ S.2 56 (S.2 68 (S'.2 77 o))) (h6 : S'.2 81 o = 0) (h7 : S'.2 82 o = -2) (h8 : 0 ≤ E') : owi S' E' o := by
  unfold owi
  rw [hC.2 56 (by decide), hC.2 57 (by decide), hC.2 67 (by decide), hC.2 68 (by decide), h4]
  exact ⟨h2, by omega, h1, h5, h3, Or.inl h6⟩
theorem owi_of {S : St} {x : Int} (h : OWI S) (h0 : 0 ≤ x) (h1 : x < S.1 54 32) : owi S (S.1 54 25) x := by
  rcases h x with k | k | k
  · omega
  · omega
  · exact k
theorem OL0.mv {S S' : St} (h : OL0 S) (e1 : S'.2 59 = S.2 59) (e2 : S'.2 67 = S.2 67) (e3 : S'.2 68 = S.2 68) (e4 : S'.2 69 = S.2 69) (e5 : S'.2 70 = S.2 70) : OL0 S' := by
  unfold OL0
  rw [e1, e2, e3, e4, e5]
  exact h
theorem NMS.mv {S S' : St} (h : NMS S) (e1 : S'.2 56 = S.2 56) (e2 : S'.2 57 = S.2 57) (e3 : S'.2 67 = S.2 67) (e4 : S'.2 68 = S.2 68) : NMS S' := by
  unfold NMS
  rw [e1, e2, e3, e4]
  exact h
theorem EWI_1 {S : St} (h : (S.1 54 32 = 0 ∧ (S.1 54 39 = 3001 ∨ 4 ≤ S.1 54 39)) ∨ (S.1 54 32 = 1 ∧ (S.1 54 39 = 3001 ∨ 3 ≤ S.1 54 39))) (he : S.1 54 25 = 1) : EWI S := by
  unfold EWI
  have := sfl_le (S := S) (S.1 54 32).toNat
  omega

set_option maxRecDepth 100000 in
set_option maxHeartbeats 4000000 in
theorem tX11_element {a1 a2 : Int} {S : St} {K : Int → St → Prop} (p1 : iv (-2) 899 a1) (p2 : iv 0 29 a2) (p3 : (S.1 54 25) ≤ 899) (p4 : a1 < (S.1 54 25)) (p5 : PW S) (p6 : BW S) (hK : ∀ (r : Int) (S' : St), Ch [25] [72, 73, 74] S S' → (r = (S.1 54 25)) → ((S'.1 54 25) = (S.1 54 25) + 1) → (PW S') → (BW S') → (0 ≤ r) → K r S') : wX11_element a1 a2 S K := by
  unfold wX11_element
  intro g1 g2
  unfold wX11_element_5
  refine ⟨fun u1 u2 u3 u4 Sx => S = Sx ∧ a1 = u1 ∧ a2 = u2 ∧ (iv 0 900 u4) ∧ (1 ≤ u3) ∧ (u3 ≤ u4 + 1) ∧ (u4 = 0 ∨ u4 ≤ (Sx.1 54 25)), fun u1 u2 u3 u4 Sx => (901 - u4).toNat, ?_, fun v5_1 v5_2 v5_3 v5_4 S5h hI => ?_⟩
  · exact ⟨rfl, rfl, rfl, by omega, by omega, by omega, by omega⟩
  obtain ⟨rfl, rfl, rfl, i5_0, i5_1, i5_2, i5_3⟩ := hI
  unfold wX11_element_5'
  intro q1
  refine ⟨by omega, ?_⟩
  refine ⟨fun h11 => ?_, fun h11 => ?_⟩
  · refine ⟨by omega, by omega, ?_⟩
    refine ⟨by omega, ?_⟩
    intro S63 hS63e
    have hS63 : Ch [] [72] S S63 := Ch_A hS63e
    have hS63v : ∀ x, (x = S.1 54 25 ∧ S63.2 72 x = a1) ∨ (¬ x = S.1 54 25 ∧ S63.2 72 x = S.2 72 x) := pA_at hS63e
    intro q2
    have e3 : S63.1 54 25 = S.1 54 25 := hS63.1 25 (by decide)
    refine ⟨by omega, by omega, ?_⟩
    refine ⟨by omega, ?_⟩
    intro S73 hS73e
    have hS73 : Ch [] [73] S63 S73 := Ch_A hS73e
    have hS73v : ∀ x, (x = S63.1 54 25 ∧ S73.2 73 x = a2) ∨ (¬ x = S63.1 54 25 ∧ S73.2 73 x = S63.2 73 x) := pA_at hS73e
    intro q4
    have e5 : S73.1 54 25 = S63.1 54 25 := hS73.1 25 (by decide)
    have e6 : S63.1 54 25 = S.1 54 25 := hS63.1 25 (by decide)
    refine ⟨by omega, by omega, ?_⟩
    refine ⟨by omega, ?_⟩
    intro S83 hS83e
    have hS83 : Ch [] [74] S73 S83 := Ch_A hS83e
    have hS83v : ∀ x, (x = S73.1 54 25 ∧ S83.2 74 x = v5_3) ∨ (¬ x = S73.1 54 25 ∧ S83.2 74 x = S73.2 74 x) := pA_at hS83e
    intro q7
    have e8 : S83.1 54 25 = S73.1 54 25 := hS83.1 25 (by decide)
    have e9 : S73.1 54 25 = S63.1 54 25 := hS73.1 25 (by decide)
    have e10 : S63.1 54 25 = S.1 54 25 := hS63.1 25 (by decide)
    refine ⟨by omega, ?_⟩
    intro S91 hS91e
    have hS91 : Ch [25] [] S83 S91 := Ch_I hS91e
    have hS91v : S91.1 54 25 = (S83.1 54 25 + 1) := pI_at hS91e
    intro q11
    exact hK ((S91.1 54 25 - 1)) S91 (Ch.wk (Ch.tr (Ch.tr (Ch.tr hS63 hS73) hS83) hS91) (by decide) (by decide)) (by omega) (by omega) (by
          unfold PW
          intro x
          have e12 : S91.2 72 x = S83.2 72 x := congrFun (hS91.2 72 (by decide)) _
          have e13 : S83.2 72 x = S73.2 72 x := congrFun (hS83.2 72 (by decide)) _
          have e14 : S73.2 72 x = S63.2 72 x := congrFun (hS73.2 72 (by decide)) _
          have e15 := hS63v x
          have e16 := p5 x
          omega) (by
          unfold BW
          intro x
          rw [show S91.2 75 = S.2 75 from ((Ch.tr (Ch.tr (Ch.tr hS63 hS73) hS83) hS91)).2 75 (by decide)]
          have e17 := p6 x
          omega) (by omega)
  · refine ⟨by omega, by omega, ?_⟩
    intro q18
    refine ⟨by omega, ?_⟩
    refine ⟨fun h22 => ?_, fun h22 => ?_⟩
    · unfold wX11_element_46
      unfold wX11_element_47
      exact ⟨⟨rfl, rfl, rfl, by omega, by omega, by omega, by omega⟩, show (901 - ((v5_4 + 1))).toNat < (901 - v5_4).toNat by omega⟩
    · refine ⟨by omega, by omega, ?_⟩
      intro q19
      refine ⟨by omega, ?_⟩
      refine tX11_sameName (by omega) (by omega) (fun r34 n34_0 => ?_)
      refine ⟨by omega, ?_⟩
      refine ⟨fun h37 => ?_, fun h37 => ?_⟩
      · unfold wX11_element_46
        unfold wX11_element_47
        exact ⟨⟨rfl, rfl, rfl, by omega, by omega, by omega, by omega⟩, show (901 - ((v5_4 + 1))).toNat < (901 - v5_4).toNat by omega⟩
      · unfold wX11_element_47
        exact ⟨⟨rfl, rfl, rfl, by omega, by omega, by omega, by omega⟩, show (901 - ((v5_4 + 1))).toNat < (901 - v5_4).toNat by omega⟩

set_option maxRecDepth 100000 in
set_option maxHeartbeats 4000000 in
theorem tX11_hasContent {a1 a2 : Int} {S : St} {K : Int → St → Prop} (p1 : iv 0 29 a1) (p2 : iv 0 5 a2) (hK : ∀ (r : Int), (iv 0 1 r) → K r S) : wX11_hasContent a1 a2 S K := by
  unfold wX11_hasContent
  intro g1 g2
  unfold wX11_hasContent_5
  refine ⟨fun u1 u2 u3 u4 Sx => S = Sx ∧ a1 = u1 ∧ a2 = u2 ∧ (iv 0 4 u4) ∧ (iv 0 1 u3), fun u1 u2 u3 u4 Sx => (5 - u4).toNat, ?_, fun v5_1 v5_2 v5_3 v5_4 S5h hI => ?_⟩
  · exact ⟨rfl, rfl, rfl, by omega, by omega⟩
  obtain ⟨rfl, rfl, rfl, i5_0, i5_1⟩ := hI
  unfold wX11_hasContent_5'
  refine ⟨by omega, by omega, ?_⟩
  intro q1
  refine ⟨by omega, ?_⟩
  refine ⟨fun h13 => ?_, fun h13 => ?_⟩
  · refine ⟨by omega, ?_⟩
    exact hK (v5_3) (by omega)
  · intro x22 hx22
    subst hx22
    refine ⟨by omega, by omega, ?_⟩
    intro q2
    intro x35 hx35
    subst hx35
    refine ⟨by omega, ?_⟩
    refine ⟨fun h38 => ?_, fun h38 => ?_⟩
    · unfold wX11_hasContent_106
      unfold wX11_hasContent_111
      exact ⟨⟨rfl, rfl, rfl, by omega, by omega⟩, show (5 - ((v5_4 + 1))).toNat < (5 - v5_4).toNat by omega⟩
    · refine ⟨by omega, by omega, ?_⟩
      intro q3
      refine ⟨fun h49 => ?_, fun h49 => ?_⟩
      · unfold wX11_hasContent_62
        refine ⟨by omega, by omega, ?_⟩
        intro q4
        refine ⟨fun h70 => ?_, fun h70 => ?_⟩
        · unfold wX11_hasContent_80
          refine ⟨by omega, by omega, ?_⟩
          intro q5
          refine ⟨fun h88 => ?_, fun h88 => ?_⟩
          · unfold wX11_hasContent_110
            unfold wX11_hasContent_111
            exact ⟨⟨rfl, rfl, rfl, by omega, by omega⟩, show (5 - ((v5_4 + 1))).toNat < (5 - v5_4).toNat by omega⟩
          · refine ⟨by omega, by omega, ?_⟩
            intro q6
            refine ⟨fun h98 => ?_, fun h98 => ?_⟩
            · unfold wX11_hasContent_106
              unfold wX11_hasContent_111
              exact ⟨⟨rfl, rfl, rfl, by omega, by omega⟩, show (5 - ((v5_4 + 1))).toNat < (5 - v5_4).toNat by omega⟩
            · refine ⟨by omega, ?_⟩
              refine ⟨fun h103 => ?_, fun h103 => ?_⟩
              · unfold wX11_hasContent_110
                unfold wX11_hasContent_111
                exact ⟨⟨rfl, rfl, rfl, by omega, by omega⟩, show (5 - ((v5_4 + 1))).toNat < (5 - v5_4).toNat by omega⟩
              · unfold wX11_hasContent_106
                unfold wX11_hasContent_111
                exact ⟨⟨rfl, rfl, rfl, by omega, by omega⟩, show (5 - ((v5_4 + 1))).toNat < (5 - v5_4).toNat by omega⟩
        · refine ⟨by omega, ?_⟩
          refine ⟨fun h77 => ?_, fun h77 => ?_⟩
          · unfold wX11_hasContent_106
            unfold wX11_hasContent_111
            exact ⟨⟨rfl, rfl, rfl, by omega, by omega⟩, show (5 - ((v5_4 + 1))).toNat < (5 - v5_4).toNat by omega⟩
          · unfold wX11_hasContent_80
            refine ⟨by omega, by omega, ?_⟩
            intro q7
            refine ⟨fun h88 => ?_, fun h88 => ?_⟩
            · unfold wX11_hasContent_110
              unfold wX11_hasContent_111
              exact ⟨⟨rfl, rfl, rfl, by omega, by omega⟩, show (5 - ((v5_4 + 1))).toNat < (5 - v5_4).toNat by omega⟩
            · refine ⟨by omega, by omega, ?_⟩
              intro q8
              refine ⟨fun h98 => ?_, fun h98 => ?_⟩
              · unfold wX11_hasContent_106
                unfold wX11_hasContent_111
                exact ⟨⟨rfl, rfl, rfl, by omega, by omega⟩, show (5 - ((v5_4 + 1))).toNat < (5 - v5_4).toNat by omega⟩
              · refine ⟨by omega, ?_⟩
                refine ⟨fun h103 => ?_, fun h103 => ?_⟩
                · unfold wX11_hasContent_110
                  unfold wX11_hasContent_111
                  exact ⟨⟨rfl, rfl, rfl, by omega, by omega⟩, show (5 - ((v5_4 + 1))).toNat < (5 - v5_4).toNat by omega⟩
                · unfold wX11_hasContent_106
                  unfold wX11_hasContent_111
                  exact ⟨⟨rfl, rfl, rfl, by omega, by omega⟩, show (5 - ((v5_4 + 1))).toNat < (5 - v5_4).toNat by omega⟩
      · refine ⟨by omega, by omega, ?_⟩
        intro q9
        refine ⟨fun h59 => ?_, fun h59 => ?_⟩
        · unfold wX11_hasContent_106
          unfold wX11_hasContent_111
          exact ⟨⟨rfl, rfl, rfl, by omega, by omega⟩, show (5 - ((v5_4 + 1))).toNat < (5 - v5_4).toNat by omega⟩
        · unfold wX11_hasContent_62
          refine ⟨by omega, by omega, ?_⟩
          intro q10
          refine ⟨fun h70 => ?_, fun h70 => ?_⟩
          · unfold wX11_hasContent_80
            refine ⟨by omega, by omega, ?_⟩
            intro q11
            refine ⟨fun h88 => ?_, fun h88 => ?_⟩
            · unfold wX11_hasContent_110
              unfold wX11_hasContent_111
              exact ⟨⟨rfl, rfl, rfl, by omega, by omega⟩, show (5 - ((v5_4 + 1))).toNat < (5 - v5_4).toNat by omega⟩
            · refine ⟨by omega, by omega, ?_⟩
              intro q12
              refine ⟨fun h98 => ?_, fun h98 => ?_⟩
              · unfold wX11_hasContent_106
                unfold wX11_hasContent_111
                exact ⟨⟨rfl, rfl, rfl, by omega, by omega⟩, show (5 - ((v5_4 + 1))).toNat < (5 - v5_4).toNat by omega⟩
              · refine ⟨by omega, ?_⟩
                refine ⟨fun h103 => ?_, fun h103 => ?_⟩
                · unfold wX11_hasContent_110
                  unfold wX11_hasContent_111
                  exact ⟨⟨rfl, rfl, rfl, by omega, by omega⟩, show (5 - ((v5_4 + 1))).toNat < (5 - v5_4).toNat by omega⟩
                · unfold wX11_hasContent_106
                  unfold wX11_hasContent_111
                  exact ⟨⟨rfl, rfl, rfl, by omega, by omega⟩, show (5 - ((v5_4 + 1))).toNat < (5 - v5_4).toNat by omega⟩
          · refine ⟨by omega, ?_⟩
            refine ⟨fun h77 => ?_, fun h77 => ?_⟩
            · unfold wX11_hasContent_106
              unfold wX11_hasContent_111
              exact ⟨⟨rfl, rfl, rfl, by omega, by omega⟩, show (5 - ((v5_4 + 1))).toNat < (5 - v5_4).toNat by omega⟩
            · unfold wX11_hasContent_80
              refine ⟨by omega, by omega, ?_⟩
              intro q13
              refine ⟨fun h88 => ?_, fun h88 => ?_⟩
              · unfold wX11_hasContent_110
                unfold wX11_hasContent_111
                exact ⟨⟨rfl, rfl, rfl, by omega, by omega⟩, show (5 - ((v5_4 + 1))).toNat < (5 - v5_4).toNat by omega⟩
              · refine ⟨by omega, by omega, ?_⟩
                intro q14
                refine ⟨fun h98 => ?_, fun h98 => ?_⟩
                · unfold wX11_hasContent_106
                  unfold wX11_hasContent_111
                  exact ⟨⟨rfl, rfl, rfl, by omega, by omega⟩, show (5 - ((v5_4 + 1))).toNat < (5 - v5_4).toNat by omega⟩
                · refine ⟨by omega, ?_⟩
                  refine ⟨fun h103 => ?_, fun h103 => ?_⟩
                  · unfold wX11_hasContent_110
                    unfold wX11_hasContent_111
                    exact ⟨⟨rfl, rfl, rfl, by omega, by omega⟩, show (5 - ((v5_4 + 1))).toNat < (5 - v5_4).toNat by omega⟩
                  · unfold wX11_hasContent_106
                    unfold wX11_hasContent_111
                    exact ⟨⟨rfl, rfl, rfl, by omega, by omega⟩, show (5 - ((v5_4 + 1))).toNat < (5 - v5_4).toNat by omega⟩

set_option maxRecDepth 100000 in
set_option maxHeartbeats 4000000 in
theorem tX11_putWord {a1 a2 a3 a4 : Int} {S : St} {K : Int → St → Prop} (p1 : (S.1 54 39) ≤ 3001) (hK : ∀ (r : Int) (S' : St), Ch [39] [83] S S' → ((S.1 54 39) ≤ (S'.1 54 39)) → ((S'.1 54 39) = 3001 ∨ (S.1 54 39) + 2 ≤ (S'.1 54 39)) → ((S.1 54 39) + 4 ≤ 3000 ∨ (S.1 54 39) ≤ (S'.1 54 39)) → ((S'.1 54 39) ≤ 3001) → K r S') : wX11_putWord a1 a2 a3 a4 S K := by
  unfold wX11_putWord
  intro g1 g2 g3 g4
  refine tX11_put  (fun r2 S2 hS2 n2_0 n2_1 => ?_)
  refine tX11_put  (fun r7 S7 hS7 n7_0 n7_1 => ?_)
  refine ⟨fun h11 => ?_, fun h11 => ?_⟩
  · unfold wX11_putWord_19
    refine ⟨by omega, ?_⟩
    refine ⟨fun h21 => ?_, fun h21 => ?_⟩
    · exact hK (0) S7 (Ch.wk (Ch.tr hS2 hS7) (by decide) (by decide)) (by omega) (by omega) (by omega) (by omega)
    · refine tX11_put  (fun r27 S27 hS27 n27_0 n27_1 => ?_)
      exact hK (0) S27 (Ch.wk (Ch.tr (Ch.tr hS2 hS7) hS27) (by decide) (by decide)) (by omega) (by omega) (by omega) (by omega)
  · refine tX11_put  (fun r16 S16 hS16 n16_0 n16_1 => ?_)
    unfold wX11_putWord_19
    refine ⟨by omega, ?_⟩
    refine ⟨fun h21 => ?_, fun h21 => ?_⟩
    · exact hK (0) S16 (Ch.wk (Ch.tr (Ch.tr hS2 hS7) hS16) (by decide) (by decide)) (by omega) (by omega) (by omega) (by omega)
    · refine tX11_put  (fun r27 S27 hS27 n27_0 n27_1 => ?_)
      exact hK (0) S27 (Ch.wk (Ch.tr (Ch.tr (Ch.tr hS2 hS7) hS16) hS27) (by decide) (by decide)) (by omega) (by omega) (by omega) (by omega)

set_option maxRecDepth 100000 in
set_option maxHeartbeats 4000000 in
theorem tX11_putAttribute {a1 a2 a3 a4 : Int} {S : St} {K : Int → St → Prop} (p1 : (S.1 54 39) ≤ 3001) (hK : ∀ (r : Int) (S' : St), Ch [39] [83] S S' → ((S.1 54 39) ≤ (S'.1 54 39)) → ((S'.1 54 39) = 3001 ∨ (S.1 54 39) + 3 ≤ (S'.1 54 39)) → ((S'.1 54 39) ≤ 3001) → K r S') : wX11_putAttribute a1 a2 a3 a4 S K := by
  unfold wX11_putAttribute
  intro g1 g2 g3 g4
  refine tX11_put  (fun r3 S3 hS3 n3_0 n3_1 => ?_)
  refine tX11_putWord (by omega) (fun r12 S12 hS12 n12_0 n12_1 n12_2 n12_3 => ?_)
  exact hK (0) S12 (Ch.wk (Ch.tr hS3 hS12) (by decide) (by decide)) (by omega) (by omega) (by omega)
