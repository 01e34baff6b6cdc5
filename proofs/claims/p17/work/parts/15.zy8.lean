/-! READING, purely: the first object is there -/
section YJ
variable {e : Env} {T : Int → Int} {X : Xs} {fb : Int → Int} {M M' : Mm} {h h' : Hs} {x o f a c : Int} {L : List Int}
theorem fil_N (q : fil e h o f L = some h') : h'.1 = h.1 := by
  unfold fil at q
  by_cases c1 : eD e (h.2.1 o) f = 0
  · rw [if_pos c1] at q
    cases hv : nmV L with
    | none =>
      rw [hv] at q
      cases q
    | some v =>
      rw [hv] at q
      cases q
      rfl
  · rw [if_neg c1] at q
    by_cases c2 : L.length ≤ 20 ∧ (∀ u ∈ L, 32 ≤ u)
    · rw [if_pos c2] at q
      cases q
      rfl
    · rw [if_neg c2] at q
      cases q
theorem atO_N (q : atO e T X M x a = some M') : M'.1.1 = M.1.1 := by
  unfold atO at q
  by_cases c1 : kyA T X a = ywC
  · rw [if_pos c1] at q
    by_cases c2 : M.2 2 x = -1
    · rw [if_pos c2] at q
      cases q
    · rw [if_neg c2] at q
      cases q
      rfl
  · rw [if_neg c1] at q
    by_cases c2 : kyA T X a = ywI
    · rw [if_pos c2] at q
      by_cases c3 : idV (vlA X a) = 0 ∨ ¬ wId M X.1.length (idV (vlA X a)) = -1
      · rw [if_pos c3] at q
        cases q
      · rw [if_neg c3] at q
        cases q
        rfl
    · rw [if_neg c2] at q
      by_cases c3 : fdN e 1 (M.1.2.1 (M.2 1 x)) (kyA T X a) = -1
      · rw [if_pos c3] at q
        cases q
      · rw [if_neg c3] at q
        cases hf : fil e M.1 (M.2 1 x) (fdN e 1 (M.1.2.1 (M.2 1 x)) (kyA T X a)) (vlA X a) with
        | none =>
          rw [hf] at q
          cases q
        | some w =>
          rw [hf] at q
          cases q
          exact fil_N hf
theorem atS_N : ∀ (k : Nat) (M : Mm) (a : Int), atS e T X x k M a = some M' → M'.1.1 = M.1.1
  | 0, M, a, q => by
    have q : some M = some M' := q
    cases q
    rfl
  | k + 1, M, a, q => by
    unfold atS at q
    cases hO : atO e T X M x a with
    | none =>
      rw [hO] at q
      cases q
    | some M1 =>
      rw [hO] at q
      exact (atS_N k M1 (a + 1) q).trans (atO_N hO)
theorem sdM_N (q : sdM e T X M x = some M') : M'.1.1 = M.1.1 := by
  unfold sdM sdO at q
  by_cases c1 : M.2 0 x = 1
  · rw [if_pos c1] at q
    by_cases c2 : xSd X x = true
    · rw [if_pos c2] at q
      cases q
    · rw [if_neg c2] at q
      exact atS_N _ _ _ q
  · rw [if_neg c1] at q
    by_cases c2 : M.2 0 x = 2
    · rw [if_pos c2] at q
      by_cases c3 : xSd X x = true ∨ ¬ xAc X x = 0
      · rw [if_pos c3] at q
        cases q
      · rw [if_neg c3] at q
        cases q
        rfl
    · rw [if_neg c2] at q
      by_cases c3 : M.2 0 x = 3
      · rw [if_pos c3] at q
        by_cases c4 : ¬ xAc X x = 0 ∨ xKd X x = true
        · rw [if_pos c4] at q
          cases q
        · rw [if_neg c4] at q
          cases hf : fil e M.1 (M.2 1 x) (M.2 2 x) (txE X x) with
          | none =>
            rw [hf] at q
            cases q
          | some w =>
            rw [hf] at q
            cases q
            exact fil_N hf
      · rw [if_neg c3] at q
        cases q
        rfl
theorem bgM_N (q : bgM e M x c f = some M') : M'.1.1 = M.1.1 + 1 := by
  unfold bgM at q
  by_cases c1 : c = -1 ∨ ¬ M.1.1 < 30
  · rw [if_pos c1] at q
    cases q
  · rw [if_neg c1] at q
    cases q
    rfl
theorem inL_N (q : inL e T X fb M x o f = some M') : M.1.1 ≤ M'.1.1 := by
  unfold inL at q
  by_cases c1 : clN e fb (nmE T X x) = -1 ∨ ¬ M.1.2.2.1 o f < 8
  · rw [if_pos c1] at q
    cases q
  · rw [if_neg c1] at q
    by_cases c2 : atN T X x ywR = -1
    · rw [if_pos c2] at q
      cases hb : bgM e (zA M.1 o f (-2), M.2) x (clN e fb (nmE T X x)) (-1) with
      | none =>
        rw [hb] at q
        cases q
      | some M1 =>
        rw [hb] at q
        cases q
        have w0 := bgM_N hb
        have w : M1.1.1 = M.1.1 + 1 := w0
        show M.1.1 ≤ M1.1.1
        omega
    · rw [if_neg c2] at q
      cases q
      exact Int.le_refl _
theorem inT_N (q : inT e T X fb M x o f = some M') : M.1.1 ≤ M'.1.1 := by
  unfold inT at q
  by_cases c1 : ¬ atN T X x ywR = -1
  · rw [if_pos c1] at q
    cases q
    exact Int.le_refl _
  · rw [if_neg c1] at q
    by_cases c2 : atN T X x ywC = -1
    · rw [if_pos c2] at q
      cases q
    · rw [if_neg c2] at q
      cases hb : bgM e M x (clN e fb (vlA X (atN T X x ywC))) f with
      | none =>
        rw [hb] at q
        cases q
      | some M1 =>
        rw [hb] at q
        cases q
        have w0 := bgM_N hb
        have w : M1.1.1 = M.1.1 + 1 := w0
        show M.1.1 ≤ M1.1.1
        omega
theorem inO_N (q : inO e T X fb M x o = some M') : M.1.1 ≤ M'.1.1 := by
  unfold inO at q
  by_cases c1 : fdN e 0 (M.1.2.1 o) (nmE T X x) = -1
  · rw [if_pos c1] at q
    by_cases c2 : imp e (M.1.2.1 o) = -1
    · rw [if_pos c2] at q
      cases q
    · rw [if_neg c2] at q
      exact inL_N q
  · rw [if_neg c1] at q
    by_cases c2 : fdN e 0 (M.1.2.1 o) (nmE T X x) = imp e (M.1.2.1 o) ∨ M.2 5 (o * 4 + fdN e 0 (M.1.2.1 o) (nmE T X x)) = 1
    · rw [if_pos c2] at q
      cases q
    · rw [if_neg c2] at q
      unfold inF at q
      by_cases c3 : eD e ((zS M 5 (o * 4 + fdN e 0 (M.1.2.1 o) (nmE T X x)) 1).1.2.1 o) (fdN e 0 (M.1.2.1 o) (nmE T X x)) = 2
      · rw [if_pos c3] at q
        have w := inT_N q
        exact w
      · rw [if_neg c3] at q
        cases q
        exact Int.le_refl _
theorem plM_N (q : plM e T X fb M x = some M') : M.1.1 ≤ M'.1.1 ∧ (xPr X x < 0 → M'.1.1 = M.1.1 + 1) := by
  unfold plM at q
  by_cases c1 : xPr X x < 0
  · rw [if_pos c1] at q
    have w := bgM_N q
    exact ⟨by omega, fun _ => w⟩
  · rw [if_neg c1] at q
    refine ⟨?_, fun w => absurd w c1⟩
    by_cases c2 : M.2 0 (xPr X x) = 1
    · rw [if_pos c2] at q
      exact inO_N q
    · rw [if_neg c2] at q
      by_cases c3 : M.2 0 (xPr X x) = 2
      · rw [if_pos c3] at q
        exact inL_N q
      · rw [if_neg c3] at q
        cases q
        exact Int.le_refl _
theorem stM_N (q : stM e T X fb M x = some M') : M.1.1 ≤ M'.1.1 ∧ (xPr X x < 0 → M'.1.1 = M.1.1 + 1) := by
  unfold stM at q
  cases hp : plM e T X fb M x with
  | none =>
    rw [hp] at q
    cases q
  | some M1 =>
    rw [hp] at q
    have w := sdM_N q
    rw [w]
    exact plM_N hp
theorem rn1_N : ∀ (k : Nat) (M : Mm) (x : Int), rn1 e T X fb k M x = some M' → M.1.1 ≤ M'.1.1
  | 0, M, x, q => by
    have q : some M = some M' := q
    cases q
    exact Int.le_refl _
  | k + 1, M, x, q => by
    unfold rn1 at q
    cases hs : stM e T X fb M x with
    | none =>
      rw [hs] at q
      cases q
    | some M1 =>
      rw [hs] at q
      have w1 := (stM_N hs).1
      have w2 := rn1_N k M1 (x + 1) q
      omega
theorem ldE_N (q : ldE e T X M x = some M') : M'.1.1 = M.1.1 := by
  unfold ldE at q
  by_cases c1 : ¬ frm X x
  · rw [if_pos c1] at q
    cases q
  · rw [if_neg c1] at q
    by_cases c2 : tgE T X M x < 0 ∨ x ≤ tgE T X M x ∨ ¬ M.2 0 (tgE T X M x) = 1
    · rw [if_pos c2] at q
      cases q
    · rw [if_neg c2] at q
      by_cases c3 : M.2 3 x = -1
      · rw [if_pos c3] at q
        cases q
        rfl
      · rw [if_neg c3] at q
        by_cases c4 : eL e (M.1.2.1 (M.2 1 (tgE T X M x))) = nmE T X x
        · rw [if_pos c4] at q
          cases q
          rfl
        · rw [if_neg c4] at q
          cases q
theorem rn2_N : ∀ (k : Nat) (M : Mm) (x : Int), rn2 e T X k M x = some M' → M'.1.1 = M.1.1
  | 0, M, x, q => by
    have q : some M = some M' := q
    cases q
    rfl
  | k + 1, M, x, q => by
    unfold rn2 at q
    by_cases c1 : M.2 0 x = 4
    · rw [if_pos c1] at q
      cases hs : ldE e T X M x with
      | none =>
        rw [hs] at q
        cases q
      | some M1 =>
        rw [hs] at q
        exact (rn2_N k M1 (x + 1) q).trans (ldE_N hs)
    · rw [if_neg c1] at q
      exact rn2_N k M (x + 1) q
theorem mng_pos (h0 : xPr X 0 < 0) (hl : 0 < X.1.length) (q : mng e T X fb = some M') : 0 < M'.1.1 := by
  unfold mng at q
  obtain ⟨k, hk⟩ : ∃ k, X.1.length = k + 1 := ⟨X.1.length - 1, by omega⟩
  rw [hk] at q
  cases hr : rn1 e T X fb (k + 1) (m0 e) 0 with
  | none =>
    rw [hr] at q
    cases q
  | some M1 =>
    rw [hr] at q
    have w := rn2_N _ _ _ q
    unfold rn1 at hr
    cases hs : stM e T X fb (m0 e) 0 with
    | none =>
      rw [hs] at hr
      cases hr
    | some M2 =>
      rw [hs] at hr
      have w2 : M2.1.1 = (m0 e).1.1 + 1 := (stM_N hs).2 h0
      have w3 := rn1_N _ _ _ hr
      have w4 : (m0 e).1.1 = 0 := rfl
      omega
end YJ

