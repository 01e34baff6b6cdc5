/-! WHAT ELEMENTS MEAN: a step keeps the heap well-formed; the model's step -/
section PE
variable {S S' : St} {K : Int → St → Prop} {T W : Int → Int} {n x y o f v u c r p a b d i k z w q fl N : Int} {X : Xs} {e : Env} {fb : Int → Int} {M M' M1 : Mm} {L : List Int} {h h' : Hs}
theorem bgM_EH (hH : EH e M.1) (hc : c = -1 ∨ okC e c) (q : bgM e M x c f = some M') : EH e M'.1 := by
  obtain ⟨-, -, -, h4, h5, h6⟩ := bgM_ok hH.1.1 q
  rw [h4]
  exact EH_B hH h5 (hc.resolve_left h6)
theorem inL_EH (hV : EV e) (hH : EH e M.1) (ho : 0 ≤ o ∧ o < M.1.1) (hk : eD e (M.1.2.1 o) f = 3) (q : inL e T X fb M x o f = some M') : EH e M'.1 := by
  unfold inL at q
  by_cases c1 : clN e fb (nmE T X x) = -1 ∨ ¬ M.1.2.2.1 o f < 8
  · rw [if_pos c1] at q
    cases q
  · rw [if_neg c1] at q
    have h8 : M.1.2.2.1 o f < 8 := Int.lt_of_not_ge (fun w => c1 (Or.inr (by omega)))
    have hA := EH_A (x := -2) hH ho hk h8 (Or.inl rfl)
    by_cases c2 : atN T X x ywR = -1
    · rw [if_pos c2] at q
      cases hb : bgM e (zA M.1 o f (-2), M.2) x (clN e fb (nmE T X x)) (-1) with
      | none =>
        rw [hb] at q
        cases q
      | some M1 =>
        rw [hb] at q
        injection q with q
        obtain ⟨-, -, -, h4, h5, h6⟩ := bgM_ok (M := (zA M.1 o f (-2), M.2)) hA.1.1 hb
        have hB := EH_B hA h5 ((clN_ok (fb := fb) hV (L := nmE T X x)).resolve_left h6).1
        have ek : (zB e (zA M.1 o f (-2)) (clN e fb (nmE T X x))).2.1 o = M.1.2.1 o := if_neg (fun w => by have := ho.2; have w : o = M.1.1 := w; omega)
        rw [← q]
        show EH e (zC M1.1 o f (M.1.2.2.1 o f) M.1.1)
        rw [h4]
        exact EH_C hB (by rw [ek]; exact hk) (Or.inr ⟨hH.1.1, by show M.1.1 < M.1.1 + 1; omega⟩)
    · rw [if_neg c2] at q
      injection q with q
      rw [← q]
      exact hA
theorem inT_EH (hV : EV e) (hH : EH e M.1) (ho : 0 ≤ o ∧ o < M.1.1) (hk : eD e (M.1.2.1 o) f = 2) (q : inT e T X fb M x o f = some M') : EH e M'.1 := by
  unfold inT at q
  by_cases c1 : ¬ atN T X x ywR = -1
  · rw [if_pos c1] at q
    injection q with q
    rw [← q]
    exact hH
  · rw [if_neg c1] at q
    by_cases c2 : atN T X x ywC = -1
    · rw [if_pos c2] at q
      cases q
    · rw [if_neg c2] at q
      cases hb : bgM e M x (clN e fb (vlA X (atN T X x ywC))) f with
      | none =>
        rw [hb] at q
        cases q
      | some M1 =>
        rw [hb] at q
        injection q with q
        obtain ⟨-, -, -, h4, h5, h6⟩ := bgM_ok hH.1.1 hb
        have hB := EH_B hH h5 ((clN_ok (fb := fb) hV (L := vlA X (atN T X x ywC))).resolve_left h6).1
        have ek : (zB e M.1 (clN e fb (vlA X (atN T X x ywC)))).2.1 o = M.1.2.1 o := if_neg (fun w => by have := ho.2; omega)
        rw [← q]
        show EH e (zV M1.1 o f M.1.1)
        rw [h4]
        exact EH_V hB ⟨ho.1, by show o < M.1.1 + 1; omega⟩ (Or.inr ⟨by rw [ek]; exact hk, hH.1.1, by show M.1.1 < M.1.1 + 1; omega⟩)
theorem plM_EH (hV : EV e) (hH : EH e M.1) (hI : TI e M x) (hp : xPr X x < x) (q : plM e T X fb M x = some M') : EH e M'.1 := by
  unfold plM at q
  by_cases c1 : xPr X x < 0
  · rw [if_pos c1] at q
    exact bgM_EH hH ((clN_ok hV).imp_right (fun w => w.1)) q
  · rw [if_neg c1] at q
    obtain ⟨i1, i2, -⟩ := hI _ (by omega) hp
    by_cases c2 : M.2 0 (xPr X x) = 1
    · rw [if_pos c2] at q
      have ho := i1 c2
      have hc := hH.2.1 _ ho.1 ho.2
      unfold inO at q
      by_cases d1 : fdN e 0 (M.1.2.1 (M.2 1 (xPr X x))) (nmE T X x) = -1
      · rw [if_pos d1] at q
        by_cases d2 : imp e (M.1.2.1 (M.2 1 (xPr X x))) = -1
        · rw [if_pos d2] at q
          cases q
        · rw [if_neg d2] at q
          obtain ⟨-, j2, -⟩ := (imp_ok hV hc).resolve_left d2
          exact inL_EH hV hH ho j2 q
      · rw [if_neg d1] at q
        by_cases d2 : fdN e 0 (M.1.2.1 (M.2 1 (xPr X x))) (nmE T X x) = imp e (M.1.2.1 (M.2 1 (xPr X x))) ∨ M.2 5 (M.2 1 (xPr X x) * 4 + fdN e 0 (M.1.2.1 (M.2 1 (xPr X x))) (nmE T X x)) = 1
        · rw [if_pos d2] at q
          cases q
        · rw [if_neg d2] at q
          unfold inF at q
          by_cases d3 : eD e (M.1.2.1 (M.2 1 (xPr X x))) (fdN e 0 (M.1.2.1 (M.2 1 (xPr X x))) (nmE T X x)) = 2
          · have q : (if eD e (M.1.2.1 (M.2 1 (xPr X x))) (fdN e 0 (M.1.2.1 (M.2 1 (xPr X x))) (nmE T X x)) = 2 then inT e T X fb (zS M 5 (M.2 1 (xPr X x) * 4 + fdN e 0 (M.1.2.1 (M.2 1 (xPr X x))) (nmE T X x)) 1) x (M.2 1 (xPr X x)) (fdN e 0 (M.1.2.1 (M.2 1 (xPr X x))) (nmE T X x)) else _) = some M' := q
            rw [if_pos d3] at q
            exact inT_EH (M := zS M 5 (M.2 1 (xPr X x) * 4 + fdN e 0 (M.1.2.1 (M.2 1 (xPr X x))) (nmE T X x)) 1) hV hH ho d3 q
          · have q : (if eD e (M.1.2.1 (M.2 1 (xPr X x))) (fdN e 0 (M.1.2.1 (M.2 1 (xPr X x))) (nmE T X x)) = 2 then _ else some (tkR (zS M 5 (M.2 1 (xPr X x) * 4 + fdN e 0 (M.1.2.1 (M.2 1 (xPr X x))) (nmE T X x)) 1) x (if eD e (M.1.2.1 (M.2 1 (xPr X x))) (fdN e 0 (M.1.2.1 (M.2 1 (xPr X x))) (nmE T X x)) = 3 then 2 else 3) (M.2 1 (xPr X x)) (fdN e 0 (M.1.2.1 (M.2 1 (xPr X x))) (nmE T X x)) (-1))) = some M' := q
            rw [if_neg d3] at q
            injection q with q
            rw [← q]
            exact hH
    · rw [if_neg c2] at q
      by_cases c3 : M.2 0 (xPr X x) = 2
      · rw [if_pos c3] at q
        obtain ⟨j1, j2, j3, j4⟩ := i2 c3
        exact inL_EH hV hH ⟨j1, j2⟩ j4 q
      · rw [if_neg c3] at q
        injection q with q
        rw [← q]
        exact hH
theorem sdM_EH (hV : EV e) (hs : SV X) (hv : ∀ a : Int, 0 ≤ a → a < X.2.1.length → 0 ≤ (gAt X a).2.2.1 ∧ (gAt X a).2.2.2 ≤ X.2.2.length) (ha : 0 ≤ xAf X x ∧ 0 ≤ xAc X x ∧ xAf X x + xAc X x ≤ X.2.1.length) (hH : EH e M.1) (hR : RW e M x) (q : sdM e T X M x = some M') : EH e M'.1 := by
  unfold sdM at q
  by_cases c1 : M.2 0 x = 1
  · rw [if_pos c1] at q
    unfold sdO at q
    by_cases c2 : xSd X x = true
    · rw [if_pos c2] at q
      cases q
    · rw [if_neg c2] at q
      exact atS_EH hV hs hv _ M _ hH (hR.1 c1) ha.1 (by omega) q
  · rw [if_neg c1] at q
    by_cases c2 : M.2 0 x = 2
    · rw [if_pos c2] at q
      by_cases c3 : xSd X x = true ∨ ¬ xAc X x = 0
      · rw [if_pos c3] at q
        cases q
      · rw [if_neg c3] at q
        injection q with q
        rw [← q]
        exact hH
    · rw [if_neg c2] at q
      by_cases c3 : M.2 0 x = 3
      · rw [if_pos c3] at q
        by_cases c4 : ¬ xAc X x = 0 ∨ xKd X x = true
        · rw [if_pos c4] at q
          cases q
        · rw [if_neg c4] at q
          obtain ⟨o0, o1, hf, hd⟩ := hR.2.2.2 c3
          have hD := (hV.2.2.2.2.1 _ _ hf).1
          cases hf2 : fil e M.1 (M.2 1 x) (M.2 2 x) (txE X x) with
          | none =>
            rw [hf2] at q
            cases q
          | some h =>
            rw [hf2] at q
            injection q with q
            rw [← q]
            exact fil_EH hH ⟨o0, o1⟩ (txE_sn hs) (by omega) hf2
      · rw [if_neg c3] at q
        injection q with q
        rw [← q]
        exact hH
theorem stM_EH (hC : CNm T n X S) (hV : EV e) (hH : EH e M.1) (hI : TI e M x) (x0 : 0 ≤ x) (x1 : x < X.1.length) (q : stM e T X fb M x = some M') : EH e M'.1 ∧ TI e M' (x + 1) := by
  obtain ⟨-, -, -, -, -, hp, a1, a2, a3⟩ := cn_e hC x0 x1
  unfold stM at q
  cases hl : plM e T X fb M x with
  | none =>
    rw [hl] at q
    cases q
  | some M1 =>
    rw [hl] at q
    have q : sdM e T X M1 x = some M' := q
    obtain ⟨o1, o2⟩ := plM_ok hV hH hI hp hl
    have h1 := plM_EH hV hH hI hp hl
    exact ⟨sdM_EH hV hC.2.2.2.2.2.2.1 (fun a a0 a1 => ⟨(cn_a hC a0 a1).2.2.2.2.1, (cn_a hC a0 a1).2.2.2.2.2.2⟩) ⟨a1, a2, a3⟩ h1 o2 q, TI_next hI o1 o2 (sdM_ok hV h1 o2 q)⟩
end PE

