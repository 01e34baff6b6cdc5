/-! WHAT ELEMENTS MEAN: the model: all of it -/
theorem zS_t {M : Mm} {t t' : Nat} {i j v : Int} (h : ¬ t' = t) : (zS M t i v).2 t' j = M.2 t' j := by
  show (if t' = t ∧ j = i then v else M.2 t' j) = M.2 t' j
  rw [if_neg (fun z => h z.1)]
theorem zS_i {M : Mm} {t t' : Nat} {i j v : Int} (h : ¬ j = i) : (zS M t i v).2 t' j = M.2 t' j := by
  show (if t' = t ∧ j = i then v else M.2 t' j) = M.2 t' j
  rw [if_neg (fun z => h z.2)]
section NW
variable {S S' : St} {K : Int → St → Prop} {T W : Int → Int} {n x y o f v u c r p a b d i z w q fl N A B s P : Int} {X : Xs} {e : Env} {fb : Int → Int} {M M' M1 M2 : Mm} {L : List Int} {h h' : Hs}
/-- ids differ, and only objects have them -/
def IDU (m : Nat) (M : Mm) : Prop := (∀ i j, M.2 4 i = M.2 4 j → ¬ M.2 4 i = 0 → i = j) ∧ ∀ i, ¬ M.2 4 i = 0 → M.2 0 i = 1 ∧ 0 ≤ i ∧ i < m
theorem IDU.eq {m : Nat} (h : IDU m M) (h4 : M'.2 4 = M.2 4) (h0 : ∀ i, ¬ M.2 4 i = 0 → M'.2 0 i = M.2 0 i) : IDU m M' := by
  unfold IDU at h ⊢
  rw [h4]
  exact ⟨h.1, fun i hi => ⟨(h0 i hi).trans (h.2 i hi).1, (h.2 i hi).2⟩⟩
theorem atO_idu (h : IDU X.1.length M) (hr : M.2 0 x = 1) (x0 : 0 ≤ x) (x1 : x < X.1.length) (q : atO e T X M x a = some M') : IDU X.1.length M' ∧ M'.2 0 = M.2 0 := by
  unfold atO at q
  by_cases c1 : kyA T X a = ywC
  · rw [if_pos c1] at q
    by_cases c2 : M.2 2 x = -1
    · rw [if_pos c2] at q
      cases q
    · rw [if_neg c2] at q
      injection q with q
      rw [← q]
      exact ⟨h, rfl⟩
  · rw [if_neg c1] at q
    by_cases c2 : kyA T X a = ywI
    · rw [if_pos c2] at q
      by_cases c3 : idV (vlA X a) = 0 ∨ ¬ wId M X.1.length (idV (vlA X a)) = -1
      · rw [if_pos c3] at q
        cases q
      · rw [if_neg c3] at q
        injection q with q
        rw [← q]
        have v0 : ¬ idV (vlA X a) = 0 := fun w => c3 (Or.inl w)
        have hw : wId M X.1.length (idV (vlA X a)) = -1 := Classical.not_not.mp (fun w => c3 (Or.inr w))
        obtain ⟨v, hv⟩ : ∃ v, v = idV (vlA X a) := ⟨_, rfl⟩
        rw [← hv] at v0 hw ⊢
        have free : ∀ k, M.2 4 k = v → False := fun k hk => by
          have hin := (h.2 k (by rw [hk]; exact v0)).2
          unfold wId at hw
          rw [if_neg v0] at hw
          rcases fnd_or (P := fun k => decide (M.2 4 k = v)) X.1.length 0 with ⟨-, w2⟩ | ⟨w1, -⟩
          · have := w2 k hin.1 (by omega)
            rw [decide_eq_false_iff_not] at this
            exact this hk
          · omega
        have e4 : ∀ i, (zS M 4 x v).2 4 i = if i = x then v else M.2 4 i := fun i => by
          show (if 4 = 4 ∧ i = x then v else M.2 4 i) = _
          by_cases w : i = x
          · rw [if_pos ⟨rfl, w⟩, if_pos w]
          · rw [if_neg (fun z => w z.2), if_neg w]
        have e0 : (zS M 4 x v).2 0 = M.2 0 := funext fun i => zS_t (by decide)
        refine ⟨⟨fun i j hij hi => ?_, fun i hi => ?_⟩, e0⟩
        · rw [e4] at hij hi
          rw [e4] at hij
          by_cases ci : i = x
          · rw [if_pos ci] at hij
            by_cases cj : j = x
            · rw [ci, cj]
            · rw [if_neg cj] at hij
              exact absurd hij.symm (free j)
          · rw [if_neg ci] at hij hi
            by_cases cj : j = x
            · rw [if_pos cj] at hij
              exact absurd hij (free i)
            · rw [if_neg cj] at hij
              exact h.1 i j hij hi
        · rw [e4] at hi
          rw [e0]
          by_cases ci : i = x
          · rw [ci]
            exact ⟨hr, x0, x1⟩
          · rw [if_neg ci] at hi
            exact h.2 i hi
    · rw [if_neg c2] at q
      by_cases c3 : fdN e 1 (M.1.2.1 (M.2 1 x)) (kyA T X a) = -1
      · rw [if_pos c3] at q
        cases q
      · rw [if_neg c3] at q
        cases hf : fil e M.1 (M.2 1 x) (fdN e 1 (M.1.2.1 (M.2 1 x)) (kyA T X a)) (vlA X a) with
        | none =>
          rw [hf] at q
          cases q
        | some w =>
          rw [hf] at q
          injection q with q
          rw [← q]
          exact ⟨h, rfl⟩
theorem atS_idu (x0 : 0 ≤ x) (x1 : x < X.1.length) : ∀ (k : Nat) (M : Mm) (a : Int), IDU X.1.length M → M.2 0 x = 1 → atS e T X x k M a = some M' → IDU X.1.length M'
  | 0, M, a, h, _, q => by
    injection q with q
    rw [← q]
    exact h
  | k + 1, M, a, h, hr, q => by
    unfold atS at q
    cases hO : atO e T X M x a with
    | none =>
      rw [hO] at q
      cases q
    | some M1 =>
      rw [hO] at q
      have := atO_idu h hr x0 x1 hO
      exact atS_idu x0 x1 k M1 (a + 1) this.1 (by rw [this.2]; exact hr) q
theorem sdM_idu (x0 : 0 ≤ x) (x1 : x < X.1.length) (h : IDU X.1.length M) (q : sdM e T X M x = some M') : IDU X.1.length M' := by
  unfold sdM at q
  by_cases c1 : M.2 0 x = 1
  · rw [if_pos c1] at q
    unfold sdO at q
    by_cases c2 : xSd X x = true
    · rw [if_pos c2] at q
      cases q
    · rw [if_neg c2] at q
      exact atS_idu x0 x1 _ M _ h c1 q
  · rw [if_neg c1] at q
    by_cases c2 : M.2 0 x = 2
    · rw [if_pos c2] at q
      by_cases c3 : xSd X x = true ∨ ¬ xAc X x = 0
      · rw [if_pos c3] at q
        cases q
      · rw [if_neg c3] at q
        injection q with q
        rw [← q]
        exact h
    · rw [if_neg c2] at q
      by_cases c3 : M.2 0 x = 3
      · rw [if_pos c3] at q
        by_cases c4 : ¬ xAc X x = 0 ∨ xKd X x = true
        · rw [if_pos c4] at q
          cases q
        · rw [if_neg c4] at q
          cases hf : fil e M.1 (M.2 1 x) (M.2 2 x) (txE X x) with
          | none =>
            rw [hf] at q
            cases q
          | some w =>
            rw [hf] at q
            injection q with q
            rw [← q]
            exact h
      · rw [if_neg c3] at q
        injection q with q
        rw [← q]
        exact h
/-- placing tells no id, and only the element's own row -/
theorem plM_4 (q : plM e T X fb M x = some M') : M'.2 4 = M.2 4 ∧ ∀ y, ¬ y = x → M'.2 0 y = M.2 0 y := by
  have tk : ∀ (M0 : Mm) r o f p, M0.2 4 = M.2 4 → (∀ y, ¬ y = x → M0.2 0 y = M.2 0 y) → (tkR M0 x r o f p).2 4 = M.2 4 ∧ ∀ y, ¬ y = x → (tkR M0 x r o f p).2 0 y = M.2 0 y := fun M0 r o f p h4 h0 => ⟨(funext fun y => tkR_ne (Or.inl (by decide))).trans h4, fun y hy => (tkR_ne (Or.inr hy)).trans (h0 y hy)⟩
  have bg : ∀ (M0 : Mm) c f M1, bgM e M0 x c f = some M1 → M0.2 4 = M.2 4 → (∀ y, ¬ y = x → M0.2 0 y = M.2 0 y) → M1.2 4 = M.2 4 ∧ ∀ y, ¬ y = x → M1.2 0 y = M.2 0 y := fun M0 c f M1 hb h4 h0 => by
    by_cases c1 : c = -1 ∨ ¬ M0.1.1 < 30
    · rw [bgM_none c1] at hb
      cases hb
    · rw [bgM_some c1] at hb
      injection hb with hb
      rw [← hb]
      exact tk _ _ _ _ _ h4 h0
  have iL : ∀ o f, inL e T X fb M x o f = some M' → M'.2 4 = M.2 4 ∧ ∀ y, ¬ y = x → M'.2 0 y = M.2 0 y := fun o f q => by
    unfold inL at q
    by_cases c1 : clN e fb (nmE T X x) = -1 ∨ ¬ M.1.2.2.1 o f < 8
    · rw [if_pos c1] at q
      cases q
    · rw [if_neg c1] at q
      by_cases c2 : atN T X x ywR = -1
      · rw [if_pos c2] at q
        cases hb : bgM e (zA M.1 o f (-2), M.2) x (clN e fb (nmE T X x)) (-1) with
        | none =>
          rw [hb] at q
          cases q
        | some M1 =>
          rw [hb] at q
          injection q with q
          rw [← q]
          exact bg (zA M.1 o f (-2), M.2) _ _ M1 hb rfl (fun _ _ => rfl)
      · rw [if_neg c2] at q
        injection q with q
        rw [← q]
        exact tk _ _ _ _ _ rfl (fun _ _ => rfl)
  unfold plM at q
  by_cases c1 : xPr X x < 0
  · rw [if_pos c1] at q
    exact bg M _ _ M' q rfl (fun _ _ => rfl)
  · rw [if_neg c1] at q
    by_cases c2 : M.2 0 (xPr X x) = 1
    · rw [if_pos c2] at q
      obtain ⟨o, ho⟩ : ∃ o, o = M.2 1 (xPr X x) := ⟨_, rfl⟩
      rw [← ho] at q
      unfold inO at q
      by_cases d1 : fdN e 0 (M.1.2.1 o) (nmE T X x) = -1
      · rw [if_pos d1] at q
        by_cases d2 : imp e (M.1.2.1 o) = -1
        · rw [if_pos d2] at q
          cases q
        · rw [if_neg d2] at q
          exact iL _ _ q
      · rw [if_neg d1] at q
        by_cases d2 : fdN e 0 (M.1.2.1 o) (nmE T X x) = imp e (M.1.2.1 o) ∨ M.2 5 (o * 4 + fdN e 0 (M.1.2.1 o) (nmE T X x)) = 1
        · rw [if_pos d2] at q
          cases q
        · rw [if_neg d2] at q
          obtain ⟨f, hf⟩ : ∃ f, f = fdN e 0 (M.1.2.1 o) (nmE T X x) := ⟨_, rfl⟩
          rw [← hf] at q
          have z4 : (zS M 5 (o * 4 + f) 1).2 4 = M.2 4 := funext fun y => zS_t (by decide)
          have z0 : ∀ y, ¬ y = x → (zS M 5 (o * 4 + f) 1).2 0 y = M.2 0 y := fun y _ => zS_t (by decide)
          unfold inF at q
          by_cases d3 : eD e ((zS M 5 (o * 4 + f) 1).1.2.1 o) f = 2
          · rw [if_pos d3] at q
            unfold inT at q
            by_cases e1 : ¬ atN T X x ywR = -1
            · rw [if_pos e1] at q
              injection q with q
              rw [← q]
              exact tk _ _ _ _ _ z4 z0
            · rw [if_neg e1] at q
              by_cases e2 : atN T X x ywC = -1
              · rw [if_pos e2] at q
                cases q
              · rw [if_neg e2] at q
                cases hb : bgM e (zS M 5 (o * 4 + f) 1) x (clN e fb (vlA X (atN T X x ywC))) f with
                | none =>
                  rw [hb] at q
                  cases q
                | some M1 =>
                  rw [hb] at q
                  injection q with q
                  rw [← q]
                  exact bg (zS M 5 (o * 4 + f) 1) _ _ M1 hb z4 z0
          · rw [if_neg d3] at q
            injection q with q
            rw [← q]
            exact tk _ _ _ _ _ z4 z0
    · rw [if_neg c2] at q
      by_cases c3 : M.2 0 (xPr X x) = 2
      · rw [if_pos c3] at q
        exact iL _ _ q
      · rw [if_neg c3] at q
        injection q with q
        rw [← q]
        exact ⟨funext fun y => zS_t (by decide), fun y hy => zS_i hy⟩
theorem stM_idu (x0 : 0 ≤ x) (x1 : x < X.1.length) (h : IDU X.1.length M) (hz : M.2 4 x = 0) (q : stM e T X fb M x = some M') : IDU X.1.length M' := by
  unfold stM at q
  cases hl : plM e T X fb M x with
  | none =>
    rw [hl] at q
    cases q
  | some M1 =>
    rw [hl] at q
    have q : sdM e T X M1 x = some M' := q
    obtain ⟨p1, p2⟩ := plM_4 hl
    refine sdM_idu x0 x1 (h.eq p1 (fun i hi => p2 i (fun w => hi (by rw [w]; exact hz)))) q
/-! a reference of another form leads nowhere -/
theorem ldE_2 (q : ldE e T X M x = some M') : M'.2 = M.2 := by
  unfold ldE at q
  by_cases c1 : ¬ frm X x
  · rw [if_pos c1] at q
    cases q
  · rw [if_neg c1] at q
    by_cases c2 : tgE T X M x < 0 ∨ x ≤ tgE T X M x ∨ ¬ M.2 0 (tgE T X M x) = 1
    · rw [if_pos c2] at q
      cases q
    · rw [if_neg c2] at q
      by_cases c3 : M.2 3 x = -1
      · rw [if_pos c3] at q
        injection q with q
        rw [← q]
      · rw [if_neg c3] at q
        by_cases c4 : eL e (M.1.2.1 (M.2 1 (tgE T X M x))) = nmE T X x
        · rw [if_pos c4] at q
          injection q with q
          rw [← q]
        · rw [if_neg c4] at q
          cases q
theorem rn2_bad (hr : ¬ frm X d) : ∀ (k : Nat) (M : Mm) (x : Int), M.2 0 d = 4 → x ≤ d → d < x + k → rn2 e T X k M x = none
  | 0, M, x, _, h1, h2 => by omega
  | k + 1, M, x, h4, h1, h2 => by
    unfold rn2
    by_cases q : x = d
    · rw [q, if_pos h4]
      have : ldE e T X M d = none := by
        unfold ldE
        rw [if_pos hr]
      rw [this]
    · by_cases w : M.2 0 x = 4
      · rw [if_pos w]
        cases hl : ldE e T X M x with
        | none => rfl
        | some M1 => exact rn2_bad hr k M1 (x + 1) (by rw [ldE_2 hl]; exact h4) (by omega) (by omega)
      · rw [if_neg w]
        exact rn2_bad hr k M (x + 1) h4 (by omega) (by omega)
theorem rn1_row (hC : CNm T n X S) (hV : EV e) : ∀ (k : Nat) (M : Mm) (x : Int), EH e M.1 → TI e M x → 0 ≤ x → x + k ≤ X.1.length → d < x → rn1 e T X fb k M x = some M' → M'.2 0 d = M.2 0 d
  | 0, M, x, _, _, _, _, _, q => by
    injection q with q
    rw [← q]
  | k + 1, M, x, hH, hI, x0, x1, hd, q => by
    unfold rn1 at q
    cases hl : stM e T X fb M x with
    | none =>
      rw [hl] at q
      cases q
    | some M1 =>
      rw [hl] at q
      obtain ⟨e1, e2⟩ := stM_EH hC hV hH hI x0 (by omega) hl
      have r1 := rn1_row hC hV k M1 (x + 1) e1 e2 (by omega) (by omega) (by omega) q
      rw [r1]
      have hp := (cn_e hC x0 (show x < X.1.length by omega)).2.2.2.2.2.1
      unfold stM at hl
      cases hm : plM e T X fb M x with
      | none =>
        rw [hm] at hl
        cases hl
      | some M0 =>
        rw [hm] at hl
        have hl : sdM e T X M0 x = some M1 := hl
        have ak := sdM_ok hV (plM_EH hV hH hI hp hm) (plM_ok hV hH hI hp hm).2 hl
        rw [ak.2.2.2 0 (by decide)]
        exact (plM_4 hm).2 d (by omega)
/-- where a reference of another form is placed, if it is -/
theorem bad_4 (hC : CNm T n X S) (hV : EV e) (hX : XE e) (hH : EH e M.1) (hI : TI e M x) (x0 : 0 ≤ x) (x1 : x < X.1.length) (hb : bdE T X x) (h12 : 0 ≤ xPr X x → M.2 0 (xPr X x) = 1 ∨ M.2 0 (xPr X x) = 2) (q : stM e T X fb M x = some M') : M'.2 0 x = 4 := by
  obtain ⟨-, -, -, -, -, hp, a1, a2, a3⟩ := cn_e hC x0 x1
  have hac : ¬ xAc X x = 0 := fun w => by
    rcases atN_ok (T := T) (X := X) (x := x) (L := ywR) with ⟨y, -⟩ | ⟨y1, y2, -⟩ | y
    · exact hb.1 y
    · omega
    · omega
  by_cases c1 : xPr X x < 0
  · rw [st_root c1, obR_ref hV hX hb.1 a2 ((clN_ok hV).imp_right (fun y => y.1))] at q
    cases q
  · have snd : ∀ (M0 : Mm) o f p, sdM e T X (tkR M0 x 4 o f p) x = some M' → M'.2 0 x = 4 := fun M0 o f p q => by
      have t0 : (tkR M0 x 4 o f p).2 0 x = 4 := tkR_at.1
      unfold sdM at q
      rw [t0, if_neg (by decide), if_neg (by decide), if_neg (by decide)] at q
      injection q with q
      rw [← q]
      exact t0
    have ls : ∀ o f, (match inL e T X fb M x o f with | none => none | some M1 => sdM e T X M1 x) = some M' → M'.2 0 x = 4 := fun o f q => by
      unfold inL at q
      by_cases d1 : clN e fb (nmE T X x) = -1 ∨ ¬ M.1.2.2.1 o f < 8
      · rw [if_pos d1] at q
        cases q
      · rw [if_neg d1, if_neg hb.1] at q
        exact snd _ _ _ _ q
    unfold stM plM at q
    rw [if_neg c1] at q
    by_cases c2 : M.2 0 (xPr X x) = 1
    · rw [if_pos c2] at q
      obtain ⟨o, ho⟩ : ∃ o, o = M.2 1 (xPr X x) := ⟨_, rfl⟩
      rw [← ho] at q
      unfold inO at q
      by_cases d1 : fdN e 0 (M.1.2.1 o) (nmE T X x) = -1
      · rw [if_pos d1] at q
        by_cases d2 : imp e (M.1.2.1 o) = -1
        · rw [if_pos d2] at q
          cases q
        · rw [if_neg d2] at q
          exact ls _ _ q
      · rw [if_neg d1] at q
        by_cases d2 : fdN e 0 (M.1.2.1 o) (nmE T X x) = imp e (M.1.2.1 o) ∨ M.2 5 (o * 4 + fdN e 0 (M.1.2.1 o) (nmE T X x)) = 1
        · rw [if_pos d2] at q
          cases q
        · rw [if_neg d2] at q
          obtain ⟨f, hf⟩ : ∃ f, f = fdN e 0 (M.1.2.1 o) (nmE T X x) := ⟨_, rfl⟩
          rw [← hf] at q
          unfold inF at q
          by_cases d3 : eD e ((zS M 5 (o * 4 + f) 1).1.2.1 o) f = 2
          · rw [if_pos d3] at q
            unfold inT at q
            rw [if_pos hb.1] at q
            exact snd _ _ _ _ q
          · rw [if_neg d3] at q
            by_cases d4 : eD e ((zS M 5 (o * 4 + f) 1).1.2.1 o) f = 3
            · rw [if_pos d4] at q
              have t0 : (tkR (zS M 5 (o * 4 + f) 1) x 2 o f (-1)).2 0 x = 2 := tkR_at.1
              dsimp only at q
              unfold sdM at q
              rw [t0, if_neg (by decide), if_pos rfl, if_pos (Or.inr hac)] at q
              cases q
            · rw [if_neg d4] at q
              have t0 : (tkR (zS M 5 (o * 4 + f) 1) x 3 o f (-1)).2 0 x = 3 := tkR_at.1
              dsimp only at q
              unfold sdM at q
              rw [t0, if_neg (by decide), if_neg (by decide), if_pos rfl, if_pos (Or.inl hac)] at q
              cases q
    · have c3 := (h12 (by omega)).resolve_left c2
      rw [if_neg c2, if_pos c3] at q
      exact ls _ _ q
end NW

