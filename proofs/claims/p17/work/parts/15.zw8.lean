/-! WHAT ELEMENTS MEAN: the model: an element in a list -/
/-- a reference of another form -/
def bdE (T : Int → Int) (X : Xs) (x : Int) : Prop := ¬ atN T X x ywR = -1 ∧ ¬ frm X x
def lsR (e : Env) (T : Int → Int) (X : Xs) (fb : Int → Int) (M : Mm) (x o f : Int) : Option Mm := match inL e T X fb M x o f with
  | none => none
  | some M1 => sdM e T X M1 x
/-- the rows of the others stay, also what was told of the objects that were there -/
def XF (x N : Int) (S S' : St) : Prop := NF S S' ∧ (∀ y, ¬ y = x → S'.2 98 y = S.2 98 y ∧ S'.2 99 y = S.2 99 y ∧ S'.2 100 y = S.2 100 y ∧ S'.2 101 y = S.2 101 y ∧ S'.2 102 y = S.2 102 y) ∧ ∀ i, i < 4 * N → S'.2 103 i = S.2 103 i
/-- a new object x -/
def NewO (x N fl : Int) (M M' : Mm) (S' : St) : Prop := (M'.2 0 x = 1 ∧ M'.2 1 x = N ∧ M'.2 2 x = fl ∧ M'.2 3 x = -1) ∧ (∀ t y, t ≤ 3 → ¬ y = x → M'.2 t y = M.2 t y) ∧ (∀ y, ¬ y = x → M'.2 4 y = M.2 4 y) ∧ M'.2 5 = M.2 5 ∧ M'.1.1 = N + 1 ∧ S'.2 98 x = 4 ∧ S'.2 99 x = N ∧ S'.2 102 x = M'.2 4 x ∧ ∀ f, 0 ≤ f → f < 4 → S'.2 103 (4 * N + f) = 0
section NQ
variable {S S' : St} {K : Int → St → Prop} {T W : Int → Int} {n x y o f v u c r p a b d i k z w q fl N : Int} {X : Xs} {e : Env} {fb : Int → Int} {M M' : Mm} {L : List Int} {h h' : Hs}
theorem XF.rf : XF x N S S := ⟨NF.rf, fun _ _ => ⟨rfl, rfl, rfl, rfl, rfl⟩, fun _ _ => rfl⟩
theorem XF.tr {S1 S2 : St} (h : XF x N S S1) (g : XF x N S1 S2) : XF x N S S2 := ⟨h.1.tr g.1, fun y q => ⟨(g.2.1 y q).1.trans (h.2.1 y q).1, (g.2.1 y q).2.1.trans (h.2.1 y q).2.1, (g.2.1 y q).2.2.1.trans (h.2.1 y q).2.2.1, (g.2.1 y q).2.2.2.1.trans (h.2.1 y q).2.2.2.1, (g.2.1 y q).2.2.2.2.trans (h.2.1 y q).2.2.2.2⟩, fun i q => (g.2.2 i q).trans (h.2.2 i q)⟩
theorem XF.ps {a : Nat} (ha : 98 ≤ a ∧ a ≤ 102) : XF x N S (pA S a x v) := by
  have ne : ∀ (b : Nat) (y : Int), ¬ y = x → (pA S a x v).2 b y = S.2 b y := fun b y q => by
    by_cases hb : b = a
    · rw [hb, pA_if, if_neg q]
    · rw [(pA_ne b hb).2]
  exact ⟨NF.pa (by omega), fun y q => ⟨ne 98 y q, ne 99 y q, ne 100 y q, ne 101 y q, ne 102 y q⟩, fun i _ => by rw [(pA_ne 103 (by omega)).2]⟩
theorem XF.hp {a : Nat} {i : Int} (ha : (a = 69 ∧ 240 ≤ i) ∨ (a = 70 ∧ 4800 ≤ i)) : XF x N S (pA S a i v) := by
  have ne : ∀ b : Nat, 98 ≤ b → (pA S a i v).2 b = S.2 b := fun b hb => (pA_ne b (by omega)).2
  refine ⟨?_, fun y _ => ⟨by rw [ne 98 (by decide)], by rw [ne 99 (by decide)], by rw [ne 100 (by decide)], by rw [ne 101 (by decide)], by rw [ne 102 (by decide)]⟩, fun j _ => by rw [ne 103 (by decide)]⟩
  rcases ha with ⟨rfl, w⟩ | ⟨rfl, w⟩
  · exact NF.p69 w
  · exact NF.p70 w
theorem UF.xf (h : UF x S S') (h3 : ∀ i, i < 4 * N → S'.2 103 i = S.2 103 i) : XF x N S S' := ⟨h.1, fun y q => ⟨(h.2.2.2 y q).1, (h.2.2.2 y q).2.1, by rw [h.2.1], by rw [h.2.2.1], (h.2.2.2 y q).2.2⟩, h3⟩
theorem obR_ok (hV : EV e) (hK : ∀ y, 0 ≤ y → y < M.1.1 → okC e (M.1.2.1 y)) (hN : 0 ≤ M.1.1) (hc : c = -1 ∨ okC e c) (q : obR e T X M x c fl = some M') : (M'.2 0 x = 1 ∧ M'.2 1 x = M.1.1 ∧ M'.2 2 x = fl ∧ M'.2 3 x = -1) ∧ (∀ t y, t ≤ 3 → ¬ y = x → M'.2 t y = M.2 t y) ∧ M'.2 5 = M.2 5 ∧ M'.1.1 = M.1.1 + 1 ∧ M'.1.2.1 = (zB e M.1 c).2.1 ∧ (∀ o f, ¬ eD e ((zB e M.1 c).2.1 o) f ≤ 1 → M'.1.2.2.1 o f = (zB e M.1 c).2.2.1 o f) ∧ okC e c ∧ M.1.1 < 30 := by
  unfold obR at q
  by_cases c1 : c = -1 ∨ ¬ M.1.1 < 30
  · rw [bgM_none c1] at q
    cases q
  · rw [bgM_some c1] at q
    have q : sdO e T X (tkR (zB e M.1 c, M.2) x 1 M.1.1 fl (-1)) x = some M' := q
    have hc := hc.resolve_left (fun w => c1 (Or.inl w))
    have tk := tkR_at (M := (zB e M.1 c, M.2)) (x := x) (r := 1) (o := M.1.1) (f := fl) (p := -1)
    unfold sdO at q
    by_cases c2 : xSd X x = true
    · rw [if_pos c2] at q
      cases q
    · rw [if_neg c2] at q
      have ak := atS_keep (M := tkR (zB e M.1 c, M.2) x 1 M.1.1 fl (-1)) hV (fun y y0 y1 => by
        have y1 : y < M.1.1 + 1 := y1
        show okC e (if y = M.1.1 then c else M.1.2.1 y)
        by_cases w : y = M.1.1
        · rw [if_pos w]
          exact hc
        · rw [if_neg w]
          exact hK y y0 (by omega)) (by rw [tk.2.1]; exact ⟨hN, by show M.1.1 < M.1.1 + 1; omega⟩) _ _ _ AK.rf q
      obtain ⟨k1, k2, k3, k4⟩ := ak
      refine ⟨⟨by rw [k4 0 (by decide)]; exact tk.1, by rw [k4 1 (by decide)]; exact tk.2.1, by rw [k4 2 (by decide)]; exact tk.2.2.1, by rw [k4 3 (by decide)]; exact tk.2.2.2⟩, fun t y t3 hy => by rw [k4 t (by omega)]; exact tkR_ne (Or.inr hy), by rw [k4 5 (by decide)]; exact funext fun y => tkR_ne (Or.inl (by decide)), k1, k2, k3, hc, Int.lt_of_not_ge (fun w => c1 (Or.inr (by omega)))⟩
/-- the model puts an element into a list -/
theorem n_list (hC : CNm T n X S) (hE : mE S e) (hV : EV e) (hX : XE e) (hf : ∀ c, okC e c → S.2 61 c = fb c) (g : mH S e M.1) (hH : EH e M.1) (x0 : 0 ≤ x) (x1 : x < X.1.length) (ho : 0 ≤ o ∧ o < M.1.1) (hfF : okF e (M.1.2.1 o) f) (hk : eD e (M.1.2.1 o) f = 3) (hid : ∀ y, 0 ≤ y → y < x → S.2 102 y = M.2 4 y) (hix : S.2 102 x = M.2 4 x) (hz : ∀ y, x ≤ y → M.2 4 y = 0) (hK : ∀ r S', XF x M.1.1 S S' → ((r = 0 ∧ (lsR e T X fb M x o f = none ∨ bdE T X x)) ∨ (r = 1 ∧ ¬ bdE T X x ∧ ∃ M', lsR e T X fb M x o f = some M' ∧ mH S' e M'.1 ∧ ((M' = tkR (zA M.1 o f (-2), M.2) x 4 o f (M.1.2.2.1 o f) ∧ S'.2 98 x = 5 ∧ S'.2 100 x = 4 * (60 + o) + f ∧ S'.2 101 x = M.1.2.2.1 o f ∧ S'.2 102 x = M.2 4 x ∧ frm X x ∧ ¬ clN e fb (nmE T X x) = -1) ∨ NewO x M.1.1 (-1) M M' S'))) → K r S') : wX11_isListed x o f S K := by
  have l := hC.len
  have h30 := hH.1
  have f4 := okF4 hV hfF
  have hW := hH.ew
  have h8 := (hW.2.2 o f ho.1 ho.2 hfF).2.2 hk
  have e69 := g.2.2.1 o f ho.1 ho.2 hfF
  obtain ⟨s1, s2, s3, s4, s5, g1, g2, g3⟩ := (cn_e hC x0 x1).2
  unfold wX11_isListed
  intro _ _ _ y1 ey
  rw [ey, e69]
  refine ⟨by omega, by omega, fun _ => ⟨fun w => ⟨x0, by omega, ⟨by omega, by omega⟩, fun S6 e6' => ?_⟩, fun w => ?_⟩⟩
  rotate_left
  · refine hK 0 S XF.rf (Or.inl ⟨rfl, Or.inl ?_⟩)
    unfold lsR inL
    rw [if_pos (Or.inr (by omega))]
  have v8 : M.1.2.2.1 o f < 8 := by omega
  have a6 : S6.2 69 (4 * (60 + o) + f) = M.1.2.2.1 o f := by
    rw [e6', (pA_ne 69 (by decide)).2]
    exact e69
  rw [a6]
  refine ⟨by omega, by omega, fun _ => ⟨x0, by omega, ⟨by omega, by omega⟩, fun S11 e11 => ?_⟩⟩
  have a11 : S11.2 69 (4 * (60 + o) + f) = M.1.2.2.1 o f := by
    rw [e11, (pA_ne 69 (by decide)).2]
    exact a6
  rw [a11]
  refine ⟨by omega, by omega, fun _ => ⟨by omega, by omega, ⟨by omega, by omega⟩, fun S16 e16 => ?_⟩⟩
  have xf16 : XF x M.1.1 S S16 := by
    rw [e16, e11, e6']
    exact ((XF.ps (by decide)).tr (XF.ps (by decide))).tr (XF.hp (Or.inl ⟨rfl, by omega⟩))
  have g11 : mH S11 e M.1 := by
    rw [e11, e6']
    exact (g.tb (fun a b1 b2 => (pA_ne a (by omega)).2)).tb (fun a b1 b2 => (pA_ne a (by omega)).2)
  obtain ⟨gb, hgb⟩ : ∃ gb, gb = S11.2 70 (20 * (4 * (60 + o) + f) + M.1.2.2.1 o f) := ⟨_, rfl⟩
  have g16 : mH S16 e (zA M.1 o f gb) := by
    rw [e16, hgb]
    exact mH_A g11 hV hW ho hfF hk
  have hW16 : EW e (zA M.1 o f gb) := EW_A hW ho hfF hk v8
  have e100 : S16.2 100 x = 4 * (60 + o) + f := by
    rw [e16, (pA_ne 100 (by decide)).2, e11, (pA_ne 100 (by decide)).2, e6', pA_if, if_pos rfl]
  have e101 : S16.2 101 x = M.1.2.2.1 o f := by
    rw [e16, (pA_ne 101 (by decide)).2, e11, pA_if, if_pos rfl]
  have e102 : S16.2 102 = S.2 102 := by
    rw [e16, (pA_ne 102 (by decide)).2, e11, (pA_ne 102 (by decide)).2, e6', (pA_ne 102 (by decide)).2]
  have hno : ¬ o = M.1.1 := by
    have := ho.2
    omega
  refine n_objE (M := (zA M.1 o f gb, M.2)) (q := 0) (fl := -1) (fb := fb) (hC.nf xf16.1) (hE.nf hV xf16.1) hV hX (fun c hc => by rw [xf16.1.2.1 61 (by decide) (by decide)]; exact hf c hc) g16 hW16 x0 x1 (Or.inr ⟨rfl, rfl⟩) (fun y y0 y1 => by rw [e102]; exact hid y y0 y1) (by rw [e102]; exact hix) hz (fun r S19 hO => ?_)
  -- the list's new cell
  have put : ∀ (S19 : St), UF x S16 S19 → ∀ (r18 : Int), iv 0 1 r18 → ((¬ S19.2 98 x = 4 → K r18 (pA S19 70 (20 * (4 * (60 + o) + f) + M.1.2.2.1 o f) (-2))) ∧ (S19.2 98 x = 4 → iv 0 29 (S19.2 99 x) → K r18 (pA S19 70 (20 * (4 * (60 + o) + f) + M.1.2.2.1 o f) (S19.2 99 x)))) → (0 ≤ x ∧ x < 200 ∧ (iv (-2) 7 (S19.2 101 x) → (0 ≤ x ∧ x < 200 ∧ (iv (-2) 5 (S19.2 98 x) → ((¬ S19.2 98 x = 4 → (0 ≤ 20 * (4 * (60 + o) + f) + S19.2 101 x ∧ 20 * (4 * (60 + o) + f) + S19.2 101 x < 7200 ∧ ∀ S26, S26 = pA S19 70 (20 * (4 * (60 + o) + f) + S19.2 101 x) (-2) → (iv 0 1 r18 ∧ K r18 S26))) ∧ ((¬ ¬ S19.2 98 x = 4) → (0 ≤ x ∧ x < 200 ∧ (iv 0 29 (S19.2 99 x) → (0 ≤ 20 * (4 * (60 + o) + f) + S19.2 101 x ∧ 20 * (4 * (60 + o) + f) + S19.2 101 x < 7200 ∧ (iv (-2147483648) 2147483647 (S19.2 99 x) ∧ ∀ S31, S31 = pA S19 70 (20 * (4 * (60 + o) + f) + S19.2 101 x) (S19.2 99 x) → (iv 0 1 r18 ∧ K r18 S31))))))))))) := fun S19 hu r18 hr hk2 => by
    have f101 : S19.2 101 x = M.1.2.2.1 o f := by
      rw [hu.2.2.1]
      exact e101
    rw [f101]
    refine ⟨x0, by omega, fun _ => ⟨x0, by omega, fun _ => ⟨fun w1 => ⟨by omega, by omega, fun S26 e26 => ⟨hr, ?_⟩⟩, fun w1 => ⟨x0, by omega, fun h99 => ⟨by omega, by omega, ⟨by omega, by omega⟩, fun S31 e31 => ⟨hr, ?_⟩⟩⟩⟩⟩⟩
    · rw [e26]
      exact hk2.1 w1
    · rw [e31]
      exact hk2.2 (Classical.not_not.mp w1) h99
  have q48 : ∀ v, XF x M.1.1 S19 (pA S19 70 (20 * (4 * (60 + o) + f) + M.1.2.2.1 o f) v) := fun v => XF.hp (Or.inr ⟨rfl, by omega⟩)
  rcases hO with ⟨o1, o2, o3, o4⟩ | ⟨o1, ou, o3, o4⟩
  · -- a reference
    have hR : ¬ atN T X x ywR = -1 := fun w => by
      rcases atN_ok (T := T) (X := X) (x := x) (L := ywR) with ⟨-, y⟩ | ⟨y, -⟩ | y
      · exact y (xAf X x) (Int.le_refl _) (by omega) o2
      · omega
      · omega
    have u19 : UF x S16 S19 := by
      rw [o3]
      exact UF.p (by decide)
    have f98 : S19.2 98 x = 5 := by rw [o3, pA_if, if_pos rfl]
    have xs := (xf16.tr (u19.xf (N := M.1.1) (fun i _ => by rw [o3, (pA_ne 103 (by decide)).2]))).tr (q48 (-2))
    rcases o4 with ⟨rfl, o5, o6, o7⟩ | ⟨rfl, o5⟩
    · have o7 : ¬ clN e fb (nmE T X x) = -1 := o7.resolve_left (by decide)
      have hfr : frm X x := ⟨o1, o5, o6⟩
      refine put S19 u19 1 ⟨by decide, by decide⟩ ⟨fun _ => hK 1 _ xs (Or.inr ⟨rfl, fun w => w.2 hfr, tkR (zA M.1 o f (-2), M.2) x 4 o f (M.1.2.2.1 o f), ?_, ?_, Or.inl ⟨rfl, ?_, ?_, ?_, ?_, hfr, o7⟩⟩), fun w => absurd (f98.symm.trans w) (by decide)⟩
      · unfold lsR inL
        rw [if_neg (fun w => w.elim o7 (fun w => w v8)), if_neg hR]
        dsimp only
        unfold sdM
        have t0 : (tkR (zA M.1 o f (-2), M.2) x 4 o f (M.1.2.2.1 o f)).2 0 x = 4 := tkR_at.1
        rw [t0, if_neg (by decide), if_neg (by decide), if_neg (by decide)]
      · have g19 : mH S19 e (zA M.1 o f gb) := by
          rw [o3]
          exact g16.tb (fun a b1 b2 => (pA_ne a (by omega)).2)
        have := mH_C (x := -2) (i := M.1.2.2.1 o f) g19 hV hW16 hfF (by omega) (by omega)
        rw [zCA2] at this
        exact this
      · rw [(pA_ne 98 (by decide)).2]
        exact f98
      · rw [(pA_ne 100 (by decide)).2, u19.2.1]
        exact e100
      · rw [(pA_ne 101 (by decide)).2, u19.2.2.1]
        exact e101
      · rw [(pA_ne 102 (by decide)).2, o3, (pA_ne 102 (by decide)).2, e102]
        exact hix
    · refine put S19 u19 0 ⟨by decide, by decide⟩ ⟨fun _ => hK 0 _ xs (Or.inl ⟨rfl, ?_⟩), fun w => absurd (f98.symm.trans w) (by decide)⟩
      by_cases w : clN e fb (nmE T X x) = -1
      · left
        unfold lsR inL
        rw [if_pos (Or.inl w)]
      · exact Or.inr ⟨hR, fun hfr => o5 ⟨hfr.2.1, hfr.2.2, Or.inr w⟩⟩
  · -- an object
    have xs := xf16.tr (ou.xf (N := M.1.1) o3)
    have hcq : clQ e T X fb x 0 = clN e fb (nmE T X x) := if_pos rfl
    rw [hcq] at o4
    by_cases hR : atN T X x ywR = -1
    · have key := ls_obR (e := e) (fb := fb) (g := gb) hno hR v8
      have hnb : ¬ bdE T X x := fun w => w.1 hR
      rcases o4 with ⟨rfl, o4⟩ | ⟨rfl, M2, o4, p1, p2, p3, p4, p5, p6, p7⟩
      · have hn : lsR e T X fb M x o f = none := by
          have k2 : lsR e T X fb M x o f = _ := key
          rw [k2, o4]
          rfl
        exact put S19 ou 0 ⟨by decide, by decide⟩ ⟨fun _ => hK 0 _ (xs.tr (q48 _)) (Or.inl ⟨rfl, Or.inl hn⟩), fun _ _ => hK 0 _ (xs.tr (q48 _)) (Or.inl ⟨rfl, Or.inl hn⟩)⟩
      · have hs : lsR e T X fb M x o f = some (uM (fun h => zC h o f (M.1.2.2.1 o f) M.1.1) M2) := by
          have k2 : lsR e T X fb M x o f = _ := key
          rw [k2, o4]
          rfl
        obtain ⟨r1, r2, r3, r4, r5, r6, r7, r8⟩ := obR_ok (M := (zA M.1 o f gb, M.2)) hV (fun y y0 y1 => hH.2.1 y y0 y1) h30.1 ((clN_ok hV).imp_right (fun y => y.1)) o4
        have ek : M2.1.2.1 o = M.1.2.1 o := by
          rw [r5]
          exact if_neg hno
        have hf2 : okF e (M2.1.2.1 o) f := by rw [ek]; exact hfF
        refine put S19 ou 1 ⟨by decide, by decide⟩ ⟨fun w => absurd p3 w, fun _ _ => ?_⟩
        rw [p4]
        refine hK 1 _ (xs.tr (q48 _)) (Or.inr ⟨rfl, hnb, _, hs, mH_C p1 hV p2 hf2 (by omega) (by omega), Or.inr ⟨r1, r2, p6, r3, r4, ?_, ?_, ?_, fun f f0 f1 => ?_⟩⟩)
        · rw [(pA_ne 98 (by decide)).2]
          exact p3
        · rw [(pA_ne 99 (by decide)).2]
          exact p4
        · rw [(pA_ne 102 (by decide)).2]
          exact p5
        · rw [(pA_ne 103 (by decide)).2]
          exact p7 f f0 f1
    · have hbd : bdE T X x := ⟨hR, fun w => o1 ⟨w.1, by
        rcases atN_ok (T := T) (X := X) (x := x) (L := ywR) with ⟨y, -⟩ | ⟨y1, y2, y3⟩ | y
        · exact absurd y hR
        · have : atN T X x ywR = xAf X x := by
            have := w.1
            omega
          rw [this] at y3
          exact y3
        · omega⟩⟩
      have hn := obR_ref (M := (zA M.1 o f gb, M.2)) (fl := -1) hV hX hR g2 ((clN_ok (fb := fb) hV (L := nmE T X x)).imp_right (fun y => y.1))
      rcases o4 with ⟨rfl, -⟩ | ⟨-, M2, o4, -⟩
      · exact put S19 ou 0 ⟨by decide, by decide⟩ ⟨fun _ => hK 0 _ (xs.tr (q48 _)) (Or.inl ⟨rfl, Or.inr hbd⟩), fun _ _ => hK 0 _ (xs.tr (q48 _)) (Or.inl ⟨rfl, Or.inr hbd⟩)⟩
      · rw [hn] at o4
        cases o4
end NQ

