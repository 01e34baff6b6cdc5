/-! WHAT IS WRITTEN: all signs are signs -/
def AS (L : List Int) : Prop := ∀ u ∈ L, isSn u
def TT (e : Env) : Prop := ∀ o f i, okO e o → okF e (eK e o) f → eD e (eK e o) f = 1 → 0 ≤ i → i < eV e o f → isSn (eP e o f i)
section ZC
variable {e : Env} {o f k d r q v c : Int} {p h t : Pth} {s : Ws} {L M : List Int}
theorem AS.app (h : AS L) (g : AS M) : AS (L ++ M) := fun u hu => (List.mem_append.mp hu).elim (h u) (g u)
theorem AS.nil : AS [] := fun u hu => (by cases hu)
theorem AS.cons (h : isSn c) (g : AS L) : AS (c :: L) := fun u hu => (by
  rcases List.mem_cons.mp hu with w | w
  · rw [w]
    exact h
  · exact g u w)
theorem AS.cat {g : Int → List Int} : ∀ (n : Nat) (a : Int), (∀ i, a ≤ i → i < a + n → AS (g i)) → AS (catF g n a)
  | 0, a, _ => AS.nil
  | n + 1, a, h => AS.app (h a (Int.le_refl _) (by omega)) (AS.cat n (a + 1) (fun i i0 i1 => h i (by omega) (by omega)))
theorem AS.lit (h : L.all (fun u => decide (isSn u)) = true) : AS L := fun u hu => of_decide_eq_true (List.all_eq_true.mp h u hu)
theorem dgs_sn : ∀ (k : Nat) (p n : Int), 0 ≤ n → AS (dgs k p n)
  | 0, p, n, _ => AS.nil
  | k + 1, p, n, hn => by
    unfold dgs
    by_cases hp : p ≤ 0
    · rw [if_pos hp]
      exact AS.nil
    · rw [if_neg hp]
      refine AS.cons ?_ (dgs_sn k _ n hn)
      have h0 : 0 ≤ Int.tdiv n p := Int.tdiv_nonneg hn (by omega)
      have h1 : Int.tdiv (Int.tdiv n p) 10 = Int.tdiv n p / 10 := Int.tdiv_eq_ediv_of_nonneg h0
      rw [h1]
      exact Or.inl ⟨by omega, by omega⟩
theorem num_sn : AS (num v) := by
  unfold num
  refine AS.app ?_ (dgs_sn _ _ _ ?_)
  · by_cases q : v < 0
    · rw [if_pos q]
      exact AS.lit rfl
    · rw [if_neg q]
      exact AS.nil
  · by_cases q : 0 < v
    · rw [if_pos q]
      omega
    · rw [if_neg q]
      omega
theorem esc_sn (h : isSn c) : AS (esc q c) := by
  unfold esc
  by_cases c1 : c = 38
  · rw [if_pos c1]
    exact AS.lit rfl
  · rw [if_neg c1]
    by_cases c2 : c = 60
    · rw [if_pos c2]
      exact AS.lit rfl
    · rw [if_neg c2]
      by_cases c3 : c = 62
      · rw [if_pos c3]
        exact AS.lit rfl
      · rw [if_neg c3]
        by_cases c4 : c = 34 ∧ q = 1
        · rw [if_pos c4]
          exact AS.lit rfl
        · rw [if_neg c4]
          exact AS.cons h AS.nil
theorem eL_sn (hN : NSg e) : AS (eL e k) := fun u hu => hN k u hu
theorem sgl_sn (hV : EV e) (hT : TT e) (ho : okO e o) (hf : okF e (eK e o) f) (hd : eD e (eK e o) f ≤ 1) : AS (sgl e o f q) := by
  have d0 := (hV.2.2.2.2.1 _ _ hf).1.1
  unfold sgl
  by_cases c1 : eD e (eK e o) f = 0
  · rw [if_pos c1]
    exact num_sn
  · rw [if_neg c1]
    have hd1 : eD e (eK e o) f = 1 := by omega
    have v0 := ((hV.2.2.2.2.2 o f ho hf).2.1 hd1).1.1
    exact AS.cat _ _ (fun i i0 i1 => esc_sn (hT o f i ho hf hd1 i0 (by omega)))
theorem att_sn (hV : EV e) (hT : TT e) (hN : NSg e) (ho : okO e o) (hf : okF e (eK e o) f) : AS (att e o f) := by
  unfold att
  by_cases c1 : eD e (eK e o) f ≤ 1 ∧ eM e (eK e o) f = 1
  · rw [if_pos c1]
    exact AS.app (AS.app (AS.app (AS.app (AS.lit rfl) (eL_sn hN)) (AS.lit rfl)) (sgl_sn hV hT ho hf c1.1)) (AS.lit rfl)
  · rw [if_neg c1]
    exact AS.nil
theorem sTg_sn (hV : EV e) (hT : TT e) (hN : NSg e) (ho : okO e o) : AS (sTg e o k d) := by
  have hc := hV.2.2.1 o ho
  have f0 := (hV.2.2.2.1 _ hc).1
  unfold sTg
  refine AS.app (AS.app (AS.app (AS.app (AS.lit rfl) (eL_sn hN)) ?_) ?_) (AS.cat _ _ (fun f f0 f1 => att_sn hV hT hN ho ⟨hc, f0, by omega⟩))
  · by_cases c1 : 6 ≤ k
    · rw [if_pos c1]
      exact AS.app (AS.app (AS.lit rfl) (eL_sn hN)) (AS.lit rfl)
    · rw [if_neg c1]
      exact AS.nil
  · by_cases c1 : eO e = 2
    · rw [if_pos c1]
      exact AS.app (AS.app (AS.lit rfl) num_sn) (AS.lit rfl)
    · rw [if_neg c1]
      exact AS.nil
theorem eTg_sn (hN : NSg e) : AS (eTg e k) := by
  unfold eTg
  exact AS.app (AS.app (AS.lit rfl) (eL_sn hN)) (AS.lit rfl)
theorem stp_sn {x : Int × Int × Int} (hN : NSg e) : AS (stp e x) := by
  unfold stp
  refine AS.app (eL_sn hN) ?_
  by_cases c1 : 1 < x.2.2
  · rw [if_pos c1]
    exact AS.app (AS.app (AS.lit rfl) num_sn) (AS.lit rfl)
  · rw [if_neg c1]
    exact AS.nil
theorem pth_sn (hN : NSg e) : AS (pth e p) := fun u hu => (by
  obtain ⟨x, -, hx⟩ := List.mem_flatMap.mp hu
  exact (AS.app (AS.lit rfl) (stp_sn hN) : AS ([47] ++ stp e x)) u hx)
theorem dot_sn : ∀ n : Nat, AS (dot n)
  | 0 => AS.nil
  | 1 => AS.lit rfl
  | n + 2 => AS.app (dot_sn (n + 1)) (AS.lit rfl)
theorem rfT_sn (hN : NSg e) : AS (rfT e s o p k) := by
  unfold rfT
  refine AS.app (AS.app (AS.app (AS.app (AS.lit rfl) (eL_sn hN)) (AS.lit rfl)) ?_) (AS.lit rfl)
  by_cases c1 : eO e = 2
  · rw [if_pos c1]
    exact num_sn
  · rw [if_neg c1]
    by_cases c2 : eO e = 0
    · rw [if_pos c2]
      exact AS.app (dot_sn _) (pth_sn hN)
    · rw [if_neg c2]
      exact pth_sn hN
def RSn (e : Env) (R : Rec) : Prop := ∀ o p k r s, okO e o → AS s.1 → AS (R o p k r s).1
theorem its_sn {R : Rec} (hR : RSn e R) (h : ∀ i, 0 ≤ i → i < eV e o f → okO e (eP e o f i)) : ∀ (n : Nat) (i : Int) (s : Ws), 0 ≤ i → i + n ≤ eV e o f → AS s.1 → AS (its e R o f p n i s).1
  | 0, i, s, _, _, hs => hs
  | n + 1, i, s, i0, i1, hs => its_sn hR h n (i + 1) _ (by omega) (by omega) (hR _ _ _ _ _ (h i i0 (by omega)) hs)
theorem con_sn {R : Rec} (hV : EV e) (hT : TT e) (hN : NSg e) (hR : RSn e R) (ho : okO e o) (hf : okF e (eK e o) f) (hs : AS s.1) : AS (con e R o f p s).1 := by
  obtain ⟨-, -, v2, v3⟩ := hV.2.2.2.2.2 o f ho hf
  have hD := (hV.2.2.2.2.1 _ _ hf).1
  unfold con
  by_cases c1 : eD e (eK e o) f ≤ 1
  · rw [if_pos c1]
    by_cases c2 : eM e (eK e o) f = 1
    · rw [if_pos c2]
      exact hs
    · rw [if_neg c2]
      by_cases c3 : eD e (eK e o) f = 1 ∧ eV e o f = 0
      · rw [if_pos c3]
        exact AS.app hs (AS.app (AS.app (AS.lit rfl) (eL_sn hN)) (AS.lit rfl))
      · rw [if_neg c3]
        exact AS.app hs (AS.app (AS.app (AS.app (AS.app (AS.lit rfl) (eL_sn hN)) (AS.lit rfl)) (sgl_sn hV hT ho hf c1)) (eTg_sn hN))
  · rw [if_neg c1]
    by_cases c2 : eD e (eK e o) f = 2
    · rw [if_pos c2]
      by_cases c3 : eV e o f = -2
      · rw [if_pos c3]
        exact hs
      · rw [if_neg c3]
        exact hR _ _ _ _ _ ((v2 c2).resolve_left c3) hs
    · rw [if_neg c2]
      have hd3 : eD e (eK e o) f = 3 := by
        have := hD.2
        omega
      have hc := v3 hd3
      have hc0 := hc.1.1
      by_cases c3 : eM e (eK e o) f = 1
      · rw [if_pos c3]
        exact its_sn hR hc.2 _ _ _ (by decide) (by omega) hs
      · rw [if_neg c3]
        by_cases c4 : eV e o f = 0
        · rw [if_pos c4]
          exact AS.app hs (AS.app (AS.app (AS.lit rfl) (eL_sn hN)) (AS.lit rfl))
        · rw [if_neg c4]
          exact AS.app (its_sn hR hc.2 _ _ _ (by decide) (by omega) (AS.app hs (AS.app (AS.app (AS.lit rfl) (eL_sn hN)) (AS.lit rfl)))) (eTg_sn hN)
theorem cns_sn {R : Rec} (hV : EV e) (hT : TT e) (hN : NSg e) (hR : RSn e R) (ho : okO e o) : ∀ (n : Nat) (f : Int) (s : Ws), 0 ≤ f → f + n ≤ eF e (eK e o) → AS s.1 → AS (cns e R o p n f s).1
  | 0, f, s, _, _, hs => hs
  | n + 1, f, s, f0, f1, hs => cns_sn hV hT hN hR ho n (f + 1) _ (by omega) (by omega) (con_sn hV hT hN hR ho ⟨hV.2.2.1 o ho, f0, by omega⟩ hs)
theorem El_sn (hV : EV e) (hT : TT e) (hN : NSg e) : ∀ n : Nat, RSn e (El e n)
  | 0 => fun o p k r s ho hs => by
    show AS (if s.2.2.2.2 = 1 ∨ 3000 < s.1.length then s else if ¬ eO e = 3 ∧ 0 < s.2.1 o then pt s (rfT e s o p k) else dpp s).1
    by_cases c1 : s.2.2.2.2 = 1 ∨ 3000 < s.1.length
    · rw [if_pos c1]
      exact hs
    · rw [if_neg c1]
      by_cases c2 : ¬ eO e = 3 ∧ 0 < s.2.1 o
      · rw [if_pos c2]
        exact AS.app hs (rfT_sn hN)
      · rw [if_neg c2]
        exact hs
  | n + 1 => fun o p k r s ho hs => by
    have hc := hV.2.2.1 o ho
    have f0 := (hV.2.2.2.1 _ hc).1
    show AS (if s.2.2.2.2 = 1 ∨ 3000 < s.1.length then s else if ¬ eO e = 3 ∧ 0 < s.2.1 o then pt s (rfT e s o p k) else if hCo e o (eF e (eK e o)).toNat 0 = true then pt (cns e (El e n) o (p ++ [(o, k, r)]) (eF e (eK e o)).toNat 0 (pt (bgn s o (p ++ [(o, k, r)])) (sTg e o k (s.2.2.2.1 + 1) ++ [62]))) (eTg e k) else pt (bgn s o (p ++ [(o, k, r)])) (sTg e o k (s.2.2.2.1 + 1) ++ [47, 62])).1
    by_cases c1 : s.2.2.2.2 = 1 ∨ 3000 < s.1.length
    · rw [if_pos c1]
      exact hs
    · rw [if_neg c1]
      by_cases c2 : ¬ eO e = 3 ∧ 0 < s.2.1 o
      · rw [if_pos c2]
        exact AS.app hs (rfT_sn hN)
      · rw [if_neg c2]
        by_cases c3 : hCo e o (eF e (eK e o)).toNat 0 = true
        · rw [if_pos c3]
          exact AS.app (cns_sn hV hT hN (El_sn hV hT hN n) ho _ _ _ (by decide) (by omega) (AS.app hs (AS.app (sTg_sn hV hT hN ho) (AS.lit rfl)))) (eTg_sn hN)
        · rw [if_neg c3]
          exact AS.app hs (AS.app (sTg_sn hV hT hN ho) (AS.lit rfl))
end ZC

