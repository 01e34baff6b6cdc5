/-! WHAT ELEMENTS MEAN, purely: a list's or a field's owner and the attributes of what is in it don't meet; references have no other form -/
section PC
variable {T : Int → Int} {x y o f v u c r a b d i k fl o' f' g : Int} {X : Xs} {e : Env} {fb : Int → Int} {M M' : Mm} {L : List Int} {h h' : Hs} {U : Hs → Hs}
/-- an update of the object o' -/
def Upd (o' : Int) (U : Hs → Hs) : Prop := (∀ h, (U h).1 = h.1 ∧ (U h).2.1 = h.2.1) ∧ ∀ h o, ¬ o = o' → (∀ f v, zV (U h) o f v = U (zV h o f v)) ∧ ∀ f L, zT (U h) o f L = U (zT h o f L)
theorem Upd.zC : Upd o' (fun h => zC h o' f' i v) := by
  refine ⟨fun h => ⟨rfl, rfl⟩, fun h o ho => ⟨fun f w => rfl, fun f L => ?_⟩⟩
  refine Prod.ext rfl (Prod.ext rfl (Prod.ext rfl (funext fun a => funext fun b => funext fun c => ?_)))
  show (if a = o ∧ b = f ∧ 0 ≤ c ∧ c < L.length then L.getD c.toNat 0 else if a = o' ∧ b = f' ∧ c = i then v else h.2.2.2 a b c) = (if a = o' ∧ b = f' ∧ c = i then v else if a = o ∧ b = f ∧ 0 ≤ c ∧ c < L.length then L.getD c.toNat 0 else h.2.2.2 a b c)
  by_cases q : a = o' ∧ b = f' ∧ c = i
  · rw [if_pos q, if_neg (fun w => ho (w.1.symm.trans q.1)), if_pos q]
  · rw [if_neg q, if_neg q]
theorem Upd.zV : Upd o' (fun h => zV h o' f' v) := by
  refine ⟨fun h => ⟨rfl, rfl⟩, fun h o ho => ⟨fun f w => ?_, fun f L => ?_⟩⟩
  · refine Prod.ext rfl (Prod.ext rfl (Prod.ext (funext fun a => funext fun b => ?_) rfl))
    show (if a = o ∧ b = f then w else if a = o' ∧ b = f' then v else h.2.2.1 a b) = (if a = o' ∧ b = f' then v else if a = o ∧ b = f then w else h.2.2.1 a b)
    by_cases q : a = o' ∧ b = f'
    · rw [if_pos q, if_neg (fun w => ho (w.1.symm.trans q.1)), if_pos q]
    · rw [if_neg q, if_neg q]
  · refine Prod.ext rfl (Prod.ext rfl (Prod.ext (funext fun a => funext fun b => ?_) rfl))
    show (if a = o ∧ b = f then (L.length : Int) else if a = o' ∧ b = f' then v else h.2.2.1 a b) = (if a = o' ∧ b = f' then v else if a = o ∧ b = f then (L.length : Int) else h.2.2.1 a b)
    by_cases q : a = o' ∧ b = f'
    · rw [if_pos q, if_neg (fun w => ho (w.1.symm.trans q.1)), if_pos q]
    · rw [if_neg q, if_neg q]
theorem fil_U (hU : Upd o' U) (ho : ¬ o = o') : fil e (U h) o f L = (fil e h o f L).map U := by
  unfold fil
  rw [(hU.1 h).2]
  by_cases c1 : eD e (h.2.1 o) f = 0
  · rw [if_pos c1, if_pos c1]
    cases nmV L with
    | none => rfl
    | some w =>
      show some (_ : Hs) = some (U _)
      rw [(hU.2 h o ho).1]
  · rw [if_neg c1, if_neg c1]
    by_cases c2 : L.length ≤ 20 ∧ (∀ u ∈ L, 32 ≤ u)
    · rw [if_pos c2, if_pos c2]
      show some (_ : Hs) = some (U _)
      rw [(hU.2 h o ho).2]
    · rw [if_neg c2, if_neg c2]
      rfl
def uM (U : Hs → Hs) (M : Mm) : Mm := (U M.1, M.2)
theorem atO_U (hU : Upd o' U) (ho : ¬ M.2 1 x = o') : atO e T X (uM U M) x a = (atO e T X M x a).map (uM U) := by
  have hk : (uM U M).1.2.1 = M.1.2.1 := (hU.1 M.1).2
  have ht : (uM U M).2 = M.2 := rfl
  unfold atO
  rw [hk, ht]
  by_cases c1 : kyA T X a = ywC
  · rw [if_pos c1, if_pos c1]
    by_cases c2 : M.2 2 x = -1
    · rw [if_pos c2, if_pos c2]
      rfl
    · rw [if_neg c2, if_neg c2]
      rfl
  · rw [if_neg c1, if_neg c1]
    by_cases c2 : kyA T X a = ywI
    · have hw : wId (uM U M) X.1.length (idV (vlA X a)) = wId M X.1.length (idV (vlA X a)) := rfl
      rw [if_pos c2, if_pos c2, hw]
      by_cases c3 : idV (vlA X a) = 0 ∨ ¬ wId M X.1.length (idV (vlA X a)) = -1
      · rw [if_pos c3, if_pos c3]
        rfl
      · rw [if_neg c3, if_neg c3]
        rfl
    · rw [if_neg c2, if_neg c2]
      by_cases c3 : fdN e 1 (M.1.2.1 (M.2 1 x)) (kyA T X a) = -1
      · rw [if_pos c3, if_pos c3]
        rfl
      · rw [if_neg c3, if_neg c3]
        have hf : fil e (uM U M).1 (M.2 1 x) (fdN e 1 (M.1.2.1 (M.2 1 x)) (kyA T X a)) (vlA X a) = (fil e M.1 (M.2 1 x) (fdN e 1 (M.1.2.1 (M.2 1 x)) (kyA T X a)) (vlA X a)).map U := fil_U hU ho
        rw [hf]
        cases fil e M.1 (M.2 1 x) (fdN e 1 (M.1.2.1 (M.2 1 x)) (kyA T X a)) (vlA X a) with
        | none => rfl
        | some w => rfl
theorem atO_1 (q : atO e T X M x a = some M') : M'.2 1 x = M.2 1 x := by
  unfold atO at q
  by_cases c1 : kyA T X a = ywC
  · rw [if_pos c1] at q
    by_cases c2 : M.2 2 x = -1
    · rw [if_pos c2] at q
      cases q
    · rw [if_neg c2] at q
      injection q with q
      rw [← q]
  · rw [if_neg c1] at q
    by_cases c2 : kyA T X a = ywI
    · rw [if_pos c2] at q
      by_cases c3 : idV (vlA X a) = 0 ∨ ¬ wId M X.1.length (idV (vlA X a)) = -1
      · rw [if_pos c3] at q
        cases q
      · rw [if_neg c3] at q
        injection q with q
        rw [← q]
        show (if (1 : Nat) = 4 ∧ x = x then idV (vlA X a) else M.2 1 x) = M.2 1 x
        rw [if_neg (fun z => absurd z.1 (by decide))]
    · rw [if_neg c2] at q
      by_cases c3 : fdN e 1 (M.1.2.1 (M.2 1 x)) (kyA T X a) = -1
      · rw [if_pos c3] at q
        cases q
      · rw [if_neg c3] at q
        cases hf : fil e M.1 (M.2 1 x) (fdN e 1 (M.1.2.1 (M.2 1 x)) (kyA T X a)) (vlA X a) with
        | none =>
          rw [hf] at q
          cases q
        | some w =>
          rw [hf] at q
          injection q with q
          rw [← q]
theorem atS_U (hU : Upd o' U) : ∀ (k : Nat) (M : Mm) (a : Int), ¬ M.2 1 x = o' → atS e T X x k (uM U M) a = (atS e T X x k M a).map (uM U)
  | 0, M, a, _ => rfl
  | k + 1, M, a, ho => by
    unfold atS
    rw [atO_U hU ho]
    cases hO : atO e T X M x a with
    | none => rfl
    | some M1 => exact atS_U hU k M1 (a + 1) (by rw [atO_1 hO]; exact ho)
theorem sdO_U (hU : Upd o' U) (ho : ¬ M.2 1 x = o') : sdO e T X (uM U M) x = (sdO e T X M x).map (uM U) := by
  unfold sdO
  by_cases c : xSd X x = true
  · rw [if_pos c, if_pos c]
    rfl
  · rw [if_neg c, if_neg c]
    exact atS_U hU _ M _ ho
/-- what was in a cell that is written is no matter -/
theorem zCA (ho : ¬ o = h.1) : zC (zB e (zA h o f g) c) o f (h.2.2.1 o f) v = zC (zB e (zA h o f d) c) o f (h.2.2.1 o f) v := by
  refine Prod.ext rfl (Prod.ext rfl (Prod.ext rfl (funext fun a => funext fun b => funext fun i => ?_)))
  show (if a = o ∧ b = f ∧ i = h.2.2.1 o f then v else if a = o ∧ b = f ∧ i = h.2.2.1 o f then g else h.2.2.2 a b i) = (if a = o ∧ b = f ∧ i = h.2.2.1 o f then v else if a = o ∧ b = f ∧ i = h.2.2.1 o f then d else h.2.2.2 a b i)
  by_cases q : a = o ∧ b = f ∧ i = h.2.2.1 o f
  · rw [if_pos q, if_pos q]
  · rw [if_neg q, if_neg q, if_neg q, if_neg q]
theorem zCA2 : zC (zA h o f g) o f (h.2.2.1 o f) v = zA h o f v := by
  refine Prod.ext rfl (Prod.ext rfl (Prod.ext rfl (funext fun a => funext fun b => funext fun i => ?_)))
  show (if a = o ∧ b = f ∧ i = h.2.2.1 o f then v else if a = o ∧ b = f ∧ i = h.2.2.1 o f then g else h.2.2.2 a b i) = (if a = o ∧ b = f ∧ i = h.2.2.1 o f then v else h.2.2.2 a b i)
  by_cases q : a = o ∧ b = f ∧ i = h.2.2.1 o f
  · rw [if_pos q, if_pos q]
  · rw [if_neg q, if_neg q, if_neg q]
/-- an object in a list, as the model sees it -/
theorem ls_obR (ho : ¬ o = M.1.1) (hR : atN T X x ywR = -1) (h8 : M.1.2.2.1 o f < 8) : (match inL e T X fb M x o f with | none => none | some M1 => sdM e T X M1 x) = (obR e T X (zA M.1 o f g, M.2) x (clN e fb (nmE T X x)) (-1)).map (uM (fun h => zC h o f (M.1.2.2.1 o f) M.1.1)) := by
  unfold inL obR
  by_cases c1 : clN e fb (nmE T X x) = -1
  · rw [if_pos (Or.inl c1), bgM_none (Or.inl c1)]
    rfl
  · rw [if_neg (fun w => w.elim c1 (fun w => w h8)), if_pos hR]
    by_cases c2 : M.1.1 < 30
    · have b1 := bgM_some (e := e) (M := (zA M.1 o f (-2), M.2)) (x := x) (c := clN e fb (nmE T X x)) (f := -1) (fun w => w.elim c1 (fun w => w c2))
      have b2 := bgM_some (e := e) (M := (zA M.1 o f g, M.2)) (x := x) (c := clN e fb (nmE T X x)) (f := -1) (fun w => w.elim c1 (fun w => w c2))
      rw [b1, b2]
      dsimp only
      have e1 : ((zC (tkR (zB e (zA M.1 o f (-2)) (clN e fb (nmE T X x)), M.2) x 1 (zA M.1 o f (-2)).1 (-1) (-1)).1 o f (M.1.2.2.1 o f) M.1.1, (tkR (zB e (zA M.1 o f (-2)) (clN e fb (nmE T X x)), M.2) x 1 (zA M.1 o f (-2)).1 (-1) (-1)).2) : Mm) = uM (fun h => zC h o f (M.1.2.2.1 o f) M.1.1) (tkR (zB e (zA M.1 o f g) (clN e fb (nmE T X x)), M.2) x 1 (zA M.1 o f g).1 (-1) (-1)) := Prod.ext (zCA (g := -2) (d := g) ho) rfl
      have e2 : (uM (fun h => zC h o f (M.1.2.2.1 o f) M.1.1) (tkR (zB e (zA M.1 o f g) (clN e fb (nmE T X x)), M.2) x 1 (zA M.1 o f g).1 (-1) (-1))).2 0 x = 1 := (tkR_at (M := (zB e (zA M.1 o f g) (clN e fb (nmE T X x)), M.2)) (x := x) (r := 1) (o := (zA M.1 o f g).1) (f := -1) (p := -1)).1
      have e3 : (tkR (zB e (zA M.1 o f g) (clN e fb (nmE T X x)), M.2) x 1 (zA M.1 o f g).1 (-1) (-1)).2 1 x = M.1.1 := (tkR_at (M := (zB e (zA M.1 o f g) (clN e fb (nmE T X x)), M.2)) (x := x) (r := 1) (o := (zA M.1 o f g).1) (f := -1) (p := -1)).2.1
      rw [e1]
      unfold sdM
      rw [if_pos e2]
      exact sdO_U Upd.zC (by rw [e3]; exact fun w => ho w.symm)
    · rw [bgM_none (M := (zA M.1 o f (-2), M.2)) (Or.inr c2), bgM_none (M := (zA M.1 o f g, M.2)) (Or.inr c2)]
      rfl
/-- an object in a field, as the model sees it -/
theorem tg_obR (ho : ¬ o = M.1.1) (hR : atN T X x ywR = -1) : (match inT e T X fb M x o f with | none => none | some M1 => sdM e T X M1 x) = (obR e T X M x (clQ e T X fb x 1) f).map (uM (fun h => zV h o f M.1.1)) := by
  unfold inT obR clQ
  rw [if_neg (fun w => w hR), if_neg (show ¬ (1 : Int) = 0 by decide)]
  by_cases c0 : atN T X x ywC = -1
  · rw [if_pos c0, if_pos c0, bgM_none (Or.inl rfl)]
    rfl
  · rw [if_neg c0, if_neg c0]
    by_cases c1 : clN e fb (vlA X (atN T X x ywC)) = -1 ∨ ¬ M.1.1 < 30
    · rw [bgM_none c1]
      rfl
    · rw [bgM_some c1]
      dsimp only
      have e2 : (uM (fun h => zV h o f M.1.1) (tkR (zB e M.1 (clN e fb (vlA X (atN T X x ywC))), M.2) x 1 M.1.1 f (-1))).2 0 x = 1 := (tkR_at (M := (zB e M.1 (clN e fb (vlA X (atN T X x ywC))), M.2)) (x := x) (r := 1) (o := M.1.1) (f := f) (p := -1)).1
      have e3 : (tkR (zB e M.1 (clN e fb (vlA X (atN T X x ywC))), M.2) x 1 M.1.1 f (-1)).2 1 x = M.1.1 := (tkR_at (M := (zB e M.1 (clN e fb (vlA X (atN T X x ywC))), M.2)) (x := x) (r := 1) (o := M.1.1) (f := f) (p := -1)).2.1
      show sdM e T X (uM (fun h => zV h o f M.1.1) (tkR (zB e M.1 (clN e fb (vlA X (atN T X x ywC))), M.2) x 1 M.1.1 f (-1))) x = _
      unfold sdM
      rw [if_pos e2]
      exact sdO_U Upd.zV (by rw [e3]; exact fun w => ho w.symm)
/-- a key reference is no field, no class and no id -/
theorem atO_ref (hV : EV e) (hX : XE e) (hc : okC e (M.1.2.1 (M.2 1 x))) (hk : kyA T X a = ywR) : atO e T X M x a = none := by
  unfold atO
  rw [if_neg (by rw [hk]; decide), if_neg (by rw [hk]; decide), if_pos]
  rcases fdN_ok (a := 1) hV hc (L := kyA T X a) with w | ⟨w1, -, w3⟩
  · exact w
  · exact absurd (w3.trans hk) (hX.2.2.2.2.2.2 _ _ w1).2.2
theorem atS_ref (hV : EV e) (hX : XE e) (hk : kyA T X d = ywR) : ∀ (k : Nat) (M : Mm) (a : Int), okC e (M.1.2.1 (M.2 1 x)) → a ≤ d → d < a + k → atS e T X x k M a = none
  | 0, M, a, _, h1, h2 => by omega
  | k + 1, M, a, hc, h1, h2 => by
    unfold atS
    by_cases q : a = d
    · rw [atO_ref hV hX hc (by rw [q]; exact hk)]
    · cases hO : atO e T X M x a with
      | none => rfl
      | some M1 =>
        have hk1 := atO_keep hV hc hO
        exact atS_ref hV hX hk k M1 (a + 1) (by rw [hk1.2.1, hk1.2.2.2 1 (by decide)]; exact hc) (by omega) (by omega)
theorem obR_ref (hV : EV e) (hX : XE e) (hR : ¬ atN T X x ywR = -1) (hac : 0 ≤ xAc X x) (hc : c = -1 ∨ okC e c) : obR e T X M x c fl = none := by
  unfold obR
  by_cases c1 : c = -1 ∨ ¬ M.1.1 < 30
  · rw [bgM_none c1]
  · rw [bgM_some c1]
    show sdO e T X _ x = none
    unfold sdO
    by_cases c2 : xSd X x = true
    · rw [if_pos c2]
    · rw [if_neg c2]
      rcases atN_ok (T := T) (X := X) (x := x) (L := ywR) with ⟨w, -⟩ | ⟨w1, w2, w3⟩ | w
      · exact absurd w hR
      · refine atS_ref hV hX w3 _ _ _ ?_ w1 (by omega)
        have e1 : (tkR (zB e M.1 c, M.2) x 1 M.1.1 fl (-1)).2 1 x = M.1.1 := (tkR_at (M := (zB e M.1 c, M.2)) (x := x) (r := 1) (o := M.1.1) (f := fl) (p := -1)).2.1
        rw [e1]
        show okC e (if M.1.1 = M.1.1 then c else _)
        rw [if_pos rfl]
        exact hc.resolve_left (fun w => c1 (Or.inl w))
      · omega
/-- what is read stays well-formed -/
theorem vlA_sn (hs : SV X) (h0 : 0 ≤ (gAt X a).2.2.1) (h1 : (gAt X a).2.2.2 ≤ X.2.2.length) : ∀ u ∈ vlA X a, isSn u := sgV_mem hs h0 h1
theorem atS_EH (hV : EV e) (hs : SV X) (hv : ∀ a : Int, 0 ≤ a → a < X.2.1.length → 0 ≤ (gAt X a).2.2.1 ∧ (gAt X a).2.2.2 ≤ X.2.2.length) : ∀ (k : Nat) (M : Mm) (a : Int), EH e M.1 → 0 ≤ M.2 1 x ∧ M.2 1 x < M.1.1 → 0 ≤ a → a + k ≤ X.2.1.length → atS e T X x k M a = some M' → EH e M'.1
  | 0, M, a, hH, _, _, _, q => by
    injection q with q
    rw [← q]
    exact hH
  | k + 1, M, a, hH, ho, a0, a1, q => by
    unfold atS at q
    cases hO : atO e T X M x a with
    | none =>
      rw [hO] at q
      cases q
    | some M1 =>
      rw [hO] at q
      have hc := hH.2.1 _ ho.1 ho.2
      have hk := atO_keep hV hc hO
      refine atS_EH hV hs hv k M1 (a + 1) ?_ (by rw [hk.2.2.2 1 (by decide), hk.1]; exact ho) (by omega) (by omega) q
      unfold atO at hO
      by_cases c1 : kyA T X a = ywC
      · rw [if_pos c1] at hO
        by_cases c2 : M.2 2 x = -1
        · rw [if_pos c2] at hO
          cases hO
        · rw [if_neg c2] at hO
          injection hO with hO
          rw [← hO]
          exact hH
      · rw [if_neg c1] at hO
        by_cases c2 : kyA T X a = ywI
        · rw [if_pos c2] at hO
          by_cases c3 : idV (vlA X a) = 0 ∨ ¬ wId M X.1.length (idV (vlA X a)) = -1
          · rw [if_pos c3] at hO
            cases hO
          · rw [if_neg c3] at hO
            injection hO with hO
            rw [← hO]
            exact hH
        · rw [if_neg c2] at hO
          by_cases c3 : fdN e 1 (M.1.2.1 (M.2 1 x)) (kyA T X a) = -1
          · rw [if_pos c3] at hO
            cases hO
          · rw [if_neg c3] at hO
            cases hf : fil e M.1 (M.2 1 x) (fdN e 1 (M.1.2.1 (M.2 1 x)) (kyA T X a)) (vlA X a) with
            | none =>
              rw [hf] at hO
              cases hO
            | some w =>
              rw [hf] at hO
              injection hO with hO
              rw [← hO]
              obtain ⟨f1, f2, -⟩ := (fdN_ok (a := 1) hV hc (L := kyA T X a)).resolve_left c3
              have hD := (hV.2.2.2.2.1 _ _ f1).1
              have hA := isA_le f2
              have hv1 := hv a a0 (by omega)
              exact fil_EH hH ho (vlA_sn hs hv1.1 hv1.2) (by omega) hf
end PC

