/-! WHAT ELEMENTS MEAN: the model: an element has a meaning, all cases -/
section NS
variable {S S' : St} {K : Int → St → Prop} {T W : Int → Int} {n x y o f v u c r p a b d i k z w q fl N : Int} {X : Xs} {e : Env} {fb : Int → Int} {M M' M1 : Mm} {L : List Int} {h h' : Hs}
theorem RwN {N : Int} (h : NewO x N fl M M' S') : mRw T X e fb M' S' x := by
  obtain ⟨⟨h0, h1, h2, h3⟩, -, -, -, -, s98, s99, s102, -⟩ := h
  unfold mRw
  rw [h0, h1]
  exact ⟨s102, fun _ => ⟨s98, s99⟩, fun w => absurd w (by decide), fun w => absurd w (by decide), fun w => absurd w (by decide), by decide, by decide⟩
theorem NewO.row {N : Int} (h : NewO x N fl M M' S') : ∀ t y, t ≤ 4 → ¬ y = x → M'.2 t y = M.2 t y := fun t y t4 hy => by
  by_cases q : t = 4
  · rw [q]
    exact h.2.2.1 y hy
  · exact h.2.1 t y (by omega) hy
/-- a step to a new object that told no field -/
theorem PN_new (hP : PNm T n X e fb M x S) (hV : EV e) (hX : XE e) (hI : TI e M x) (x0 : 0 ≤ x) (x1 : x < X.1.length) (hs : stM e T X fb M x = some M') (xf : XF x M.1.1 S S') (hm : mH S' e M'.1) (hO : NewO x M.1.1 fl M M' S') : PNm T n X e fb M' (x + 1) S' ∧ TI e M' (x + 1) := by
  have sn := seen_new (M' := M') hP xf.2.2 hO.2.2.2.1 hO.2.2.2.2.1 hO.2.2.2.2.2.2.2.2
  exact PN_next hP hV hX hI x0 x1 hs xf.yf hm hO.row (RwN hO) sn.1 sn.2
theorem n_has (hP : PNm T n X e fb M x S) (hV : EV e) (hX : XE e) (hI : TI e M x) (x0 : 0 ≤ x) (x1 : x < X.1.length) (hK : ∀ r S', NF S S' → ((r = 0 ∧ (stM e T X fb M x = none ∨ bdE T X x)) ∨ (r = 1 ∧ ¬ bdE T X x ∧ ∃ M', stM e T X fb M x = some M' ∧ PNm T n X e fb M' (x + 1) S' ∧ TI e M' (x + 1)) ∨ (r = 1 ∧ stM e T X fb M x = none ∧ x = 0 ∧ X.1.length = 1 ∧ S'.2 98 0 = 5 ∧ xAf X 0 < X.2.1.length)) → K r S') : wX11_hasMeaning x S K := by
  have hP0 := hP
  obtain ⟨hC, hE, hf, g, hH, hRw, hs1, hs2, hz, hui⟩ := hP
  have l := hC.len
  have h6 := hV.2.1
  have h30 := hH.1
  obtain ⟨⟨-, e86, e87, e88, e90, e91⟩, s1, s2, s3, s4, s5, a1, a2, a3⟩ := cn_e hC x0 x1
  have nm : sbT T ((gE X x).1 + 1) ((gE X x).1 + 1 + ((gE X x).2.1 - ((gE X x).1 + 1))) = nmE T X x := by
    unfold nmE
    rw [show (gE X x).1 + 1 + ((gE X x).2.1 - ((gE X x).1 + 1)) = (gE X x).2.1 by omega]
  have hkdp : 0 ≤ xPr X x → xKd X (xPr X x) = true := fun w => xKd_iff.mpr ⟨x.toNat, by omega, by
    show xPr X x = xPr X x
    rfl⟩
  have refN : xAc X x = 1 → kyA T X (xAf X x) = ywR → ¬ atN T X x ywR = -1 := fun w1 w2 w => by
    rcases atN_ok (T := T) (X := X) (x := x) (L := ywR) with ⟨-, y⟩ | ⟨y, -⟩ | y
    · exact y (xAf X x) (Int.le_refl _) (by omega) w2
    · omega
    · omega
  have refB : ¬ (xAc X x = 1 ∧ kyA T X (xAf X x) = ywR) → ¬ atN T X x ywR = -1 → bdE T X x := fun o1 hR => ⟨hR, fun w => o1 ⟨w.1, by
    rcases atN_ok (T := T) (X := X) (x := x) (L := ywR) with ⟨y, -⟩ | ⟨y1, y2, y3⟩ | y
    · exact absurd y hR
    · have : atN T X x ywR = xAf X x := by
        have := w.1
        omega
      rw [this] at y3
      exact y3
    · omega⟩⟩
  unfold wX11_hasMeaning
  refine fun _ => ⟨x0, by omega, fun _ x3 e3 => ⟨x0, by omega, fun S7 e7 => ⟨x0, by omega, fun S9 e9 => ?_⟩⟩⟩
  rw [e88] at e3
  have xf9 : XF x M.1.1 S S9 := by
    rw [e9, e7]
    exact (XF.ps (by decide)).tr (XF.ps (by decide))
  have g9 : mH S9 e M.1 := by
    rw [e9, e7]
    exact (g.tb (fun a b1 b2 => (pA_ne a (by omega)).2)).tb (fun a b1 b2 => (pA_ne a (by omega)).2)
  have i9 : ∀ y, 0 ≤ y → y < x → S9.2 102 y = M.2 4 y := fun y y0 y1 => by
    rw [(xf9.2.1 y (by omega)).2.2.2.2]
    exact (hRw y y0 y1).1
  have ix9 : S9.2 102 x = M.2 4 x := by
    rw [e9, pA_if, if_pos rfl]
    exact (hz x (Int.le_refl _)).symm
  have hC9 := hC.nf xf9.1
  have hE9 := hE.nf hV xf9.1
  have hf9 : ∀ c, okC e c → S9.2 61 c = fb c := fun c hc => by
    rw [xf9.1.2.1 61 (by decide) (by decide)]
    exact hf c hc
  have f86 : S9.2 86 x = (gE X x).1 + 1 := by
    rw [xf9.1.2.1 86 (by decide) (by decide)]
    exact e86
  have f87 : S9.2 87 x = (gE X x).2.1 - ((gE X x).1 + 1) := by
    rw [xf9.1.2.1 87 (by decide) (by decide)]
    exact e87
  by_cases hpr : xPr X x < 0
  · rw [if_pos hpr] at e3
    rw [e3]
    refine ⟨fun w => absurd rfl w, fun _ => ⟨x0, by omega, fun S104 e104 => ?_⟩⟩
    have xf1 : XF x M.1.1 S S104 := by
      rw [e104]
      exact xf9.tr (XF.ps (by decide))
    have hst := st_root (e := e) (T := T) (fb := fb) (M := M) hpr
    have d102 : S104.2 102 = S9.2 102 := by rw [e104, (pA_ne 102 (by decide)).2]
    refine n_objE (M := M) (q := 0) (fl := -1) (fb := fb) (hC.nf xf1.1) (hE.nf hV xf1.1) hV hX (fun c hc => by rw [xf1.1.2.1 61 (by decide) (by decide)]; exact hf c hc) (by rw [e104]; exact g9.tb (fun a b1 b2 => (pA_ne a (by omega)).2)) hH.ew x0 x1 (Or.inr ⟨rfl, rfl⟩) (fun y y0 y1 => by rw [d102]; exact i9 y y0 y1) (by rw [d102]; exact ix9) hz (fun r S2 hO => ?_)
    rcases hO with ⟨o1, o2, o3, o4⟩ | ⟨o1, ou, o3, o4⟩
    · have hR := refN o1 o2
      have hn : stM e T X fb M x = none := by
        rw [hst]
        exact obR_ref hV hX hR a2 ((clN_ok hV).imp_right (fun y => y.1))
      have nf2 : NF S S2 := by
        rw [o3]
        exact xf1.1.tr (NF.pa (by decide))
      rcases o4 with ⟨rfl, o5, o6, o7⟩ | ⟨rfl, o5⟩
      · have hx : x = 0 := by
          by_cases w : x = 0
          · exact w
          · have := hC.2.2.2.2.2.2.2.2.1 x (by omega) x1
            omega
        have hl : X.1.length = 1 := by
          by_cases w : X.1.length = 1
          · exact w
          · exfalso
            have hq := hC.2.2.2.2.2.2.2.1 x x0 x1
            have h1 := hC.2.2.2.2.2.2.2.2.1 (x + 1) (by omega) (by omega)
            have h2 := (cn_e hC (show 0 ≤ x + 1 by omega) (by omega)).2.2.2.2.2.1
            have := hq.mpr ⟨by omega, by omega⟩
            rw [o5] at this
            cases this
        refine ⟨⟨by decide, by decide⟩, hK 1 S2 nf2 (Or.inr (Or.inr ⟨rfl, hn, hx, hl, ?_, ?_⟩))⟩
        · rw [o3, hx, pA_if, if_pos rfl]
        · rw [hx] at o1 a3
          omega
      · exact ⟨⟨by decide, by decide⟩, hK 0 S2 nf2 (Or.inl ⟨rfl, Or.inl hn⟩)⟩
    · have xs := xf1.tr (ou.xf (N := M.1.1) o3)
      have hcq : clQ e T X fb x 0 = clN e fb (nmE T X x) := if_pos rfl
      rw [hcq] at o4
      rcases o4 with ⟨rfl, o4⟩ | ⟨rfl, M2, o4, p1, p2, p3, p4, p5, p6, p7⟩
      · exact ⟨⟨by decide, by decide⟩, hK 0 S2 xs.1 (Or.inl ⟨rfl, Or.inl (hst.trans o4)⟩)⟩
      · have hR : atN T X x ywR = -1 := Classical.not_not.mp (fun w => by
          rw [obR_ref hV hX w a2 ((clN_ok hV).imp_right (fun y => y.1))] at o4
          cases o4)
        obtain ⟨r1, r2, r3, r4, r5, r6, r7, r8⟩ := obR_ok (M := M) hV hH.2.1 h30.1 ((clN_ok hV).imp_right (fun y => y.1)) o4
        have hO : NewO x M.1.1 (-1) M M2 S2 := ⟨r1, r2, p6, r3, r4, p3, p4, p5, p7⟩
        exact ⟨⟨by decide, by decide⟩, hK 1 S2 xs.1 (Or.inr (Or.inl ⟨rfl, fun w => w.1 hR, M2, hst.trans o4, PN_new hP0 hV hX hI x0 x1 (hst.trans o4) xs p1 hO⟩))⟩
  · rw [if_neg hpr] at e3
    rw [e3]
    have p0 : 0 ≤ xPr X x := by omega
    have hR := hRw _ p0 s5
    obtain ⟨-, q1, q2, q3, q4, q5, q6⟩ := hR
    have kd := hkdp p0
    have r12 : M.2 0 (xPr X x) = 1 ∨ M.2 0 (xPr X x) = 2 := by
      rcases (show M.2 0 (xPr X x) = 1 ∨ M.2 0 (xPr X x) = 2 ∨ M.2 0 (xPr X x) = 3 ∨ M.2 0 (xPr X x) = 4 by omega) with w | w | w | w
      · exact Or.inl w
      · exact Or.inr w
      · rw [(q3 w).2] at kd
        cases kd
      · rw [(q4 w).2.2.2.1.2.1] at kd
        cases kd
    have rows := xf9.2.1 (xPr X x) (by omega)
    obtain ⟨t1, t2, -⟩ := hI _ p0 s5
    refine ⟨fun _ => ⟨p0, by omega, fun _ x13 e13 => ⟨p0, by omega, fun _ => ⟨fun w => ?_, fun w => ?_⟩⟩⟩, fun w => absurd (show ¬ xPr X x = -2 by omega) w⟩
    rotate_left
    · -- in a list
      have m2 : M.2 0 (xPr X x) = 2 := by
        rcases r12 with y | y
        · rw [rows.1, (q1 y).1] at w
          exact absurd (by decide) w
        · exact y
      obtain ⟨u1, u2, u3⟩ := q2 m2
      obtain ⟨j1, j2, j3, j4⟩ := t2 m2
      have f4 := okF4 hV j3
      rw [rows.2.1, u2] at e13
      rw [rows.2.2.1, u3, e13]
      have ef : 4 * (60 + M.2 1 (xPr X x)) + M.2 2 (xPr X x) - Int.tdiv (4 * (60 + M.2 1 (xPr X x)) + M.2 2 (xPr X x)) 4 * 4 = M.2 2 (xPr X x) := by
        rw [Int.tdiv_eq_ediv_of_nonneg (by omega)]
        omega
      rw [ef]
      have hst : stM e T X fb M x = lsR e T X fb M x (M.2 1 (xPr X x)) (M.2 2 (xPr X x)) := by
        unfold stM plM lsR
        rw [if_neg hpr, if_neg (by omega), if_pos m2]
        rfl
      refine ⟨p0, by omega, fun _ => ⟨⟨by omega, by omega⟩, n_list (M := M) (fb := fb) hC9 hE9 hV hX hf9 g9 hH x0 x1 ⟨j1, j2⟩ j3 j4 i9 ix9 hz (fun r S2 xf hO => ?_)⟩⟩
      have xs := xf9.tr xf
      rcases hO with ⟨rfl, hO⟩ | ⟨rfl, hnb, M2, hs, hm, hO⟩
      · refine ⟨⟨by decide, by decide⟩, hK 0 S2 xs.1 (Or.inl ⟨rfl, ?_⟩)⟩
        rw [hst]
        exact hO
      · refine ⟨⟨by decide, by decide⟩, hK 1 S2 xs.1 (Or.inr (Or.inl ⟨rfl, hnb, M2, hst.trans hs, ?_⟩))⟩
        rcases hO with ⟨hM, v98, v100, v101, v102, hfr, hcl⟩ | hO
        · have tk := tkR_at (M := (zA M.1 (M.2 1 (xPr X x)) (M.2 2 (xPr X x)) (-2), M.2)) (x := x) (r := 4) (o := M.2 1 (xPr X x)) (f := M.2 2 (xPr X x)) (p := M.1.2.2.1 (M.2 1 (xPr X x)) (M.2 2 (xPr X x)))
          have h45 : ∀ t y, 3 < t ∨ ¬ y = x → M2.2 t y = M.2 t y := fun t y w => by
            rw [hM]
            exact tkR_ne w
          have hN2 : M2.1.1 = M.1.1 := by rw [hM]; rfl
          rw [← hM] at tk
          have v8 := ((hH.2.2 _ _ j1 j2 j3).2.2.2 j4).1
          refine PN_next hP0 hV hX hI x0 x1 (hst.trans hs) xs.yf hm (fun t y _ hy => h45 t y (Or.inr hy)) ?_ (fun o f o0 o1 f0 f1 => ?_) (fun i hi => ?_)
          · unfold mRw
            rw [tk.1, tk.2.1, tk.2.2.1, tk.2.2.2, h45 4 x (Or.inl (by decide))]
            refine ⟨v102, fun w => absurd w (by decide), fun w => absurd w (by decide), fun w => absurd w (by decide), fun _ => ⟨v98, v100, ?_, hfr, fun _ => hcl⟩, by decide, by decide⟩
            unfold mNg
            rw [if_neg (by omega)]
            exact v101
          · rw [hN2] at o1
            rw [h45 5 _ (Or.inl (by decide)), xs.2.2 _ (by omega)]
            exact hs1 o f o0 o1 f0 f1
          · rw [hN2] at hi
            rw [h45 5 _ (Or.inl (by decide))]
            exact hs2 i hi
        · have hO' : NewO x M.1.1 (-1) M M2 S2 := hO
          exact PN_new hP0 hV hX hI x0 x1 (hst.trans hs) xs hm hO'
    · -- in an object
      have m1 : M.2 0 (xPr X x) = 1 := by
        rcases r12 with y | y
        · exact y
        · rw [rows.1, (q2 y).1] at w
          exact absurd rfl w
      obtain ⟨u1, u2⟩ := q1 m1
      obtain ⟨o0, o1⟩ := t1 m1
      rw [rows.2.1, u2] at e13
      obtain ⟨o, ho⟩ : ∃ o, o = M.2 1 (xPr X x) := ⟨_, rfl⟩
      rw [← ho] at e13 o0 o1
      rw [e13]
      have hc := hH.2.1 o o0 o1
      have hc0 := hc.1
      have hc1 := hc.2
      have e68 := g9.2.1 o o0 o1
      have hst : stM e T X fb M x = (match inO e T X fb M x o with | none => none | some M1 => sdM e T X M1 x) := by
        unfold stM plM
        rw [if_neg hpr, if_pos m1, ho]
        rfl
      rw [e68]
      refine ⟨by omega, by omega, fun _ x21 e21 => ⟨x0, by omega, fun _ => ⟨x0, by omega, fun _ => ?_⟩⟩⟩
      rw [e21, f86, f87]
      refine n_fdM hC9 hE9 hV hX hc (by omega) (by omega) (by omega) ?_
      rw [nm]
      have h4 := hV.2.2.2.1 _ hc
      rcases fdM_ok hV hX hc (L := nmE T X x) with ⟨d1, d2⟩ | ⟨d1, d2, d3⟩
      · -- no field: the implicit list
        have em : mNg (fdM e (M.1.2.1 o) (nmE T X x)) = -2 := if_pos d1
        rw [em]
        refine ⟨⟨by decide, by decide⟩, fun w => absurd rfl w, fun _ => n_imp hE9 hV hX hc ?_⟩
        rcases imp_ok hV hc with i1 | ⟨i1, i2, i3⟩
        · have ei : mNg (imp e (M.1.2.1 o)) = -2 := if_pos i1
          rw [ei]
          refine ⟨⟨by decide, by decide⟩, fun _ => hK 0 S9 xf9.1 (Or.inl ⟨rfl, Or.inl ?_⟩), fun w => absurd rfl w⟩
          have d2 : fdN e 0 (M.1.2.1 o) (nmE T X x) = -1 := by
            rcases d2 with y | ⟨y, z, -⟩
            · exact y
            · rw [y]
              exact i1
          rw [hst]
          unfold inO
          rw [if_pos d2, if_pos i1]
        · have i0 := i1.2.1
          have i4 := i1.2.2
          have ei : mNg (imp e (M.1.2.1 o)) = imp e (M.1.2.1 o) := if_neg (by omega)
          rw [ei]
          refine ⟨⟨by omega, by omega⟩, fun w => absurd w (by omega), fun _ => n_list (M := M) (fb := fb) hC9 hE9 hV hX hf9 g9 hH x0 x1 ⟨o0, o1⟩ i1 i2 i9 ix9 hz (fun r S2 xf hO => ?_)⟩
          have xs := xf9.tr xf
          rcases d2 with d2 | ⟨d2, -, -, -, d5⟩
          · have hst2 : stM e T X fb M x = lsR e T X fb M x o (imp e (M.1.2.1 o)) := by
              rw [hst]
              unfold inO lsR
              rw [if_pos d2, if_neg (by omega)]
              rfl
            rcases hO with ⟨rfl, hO⟩ | ⟨rfl, hnb, M2, hs, hm, hO⟩
            · refine ⟨⟨by decide, by decide⟩, fun _ => hK 0 S2 xs.1 (Or.inl ⟨rfl, ?_⟩), fun w => absurd rfl w⟩
              rw [hst2]
              exact hO
            · refine ⟨⟨by decide, by decide⟩, fun w => absurd w (by decide), fun _ => hK 1 S2 xs.1 (Or.inr (Or.inl ⟨rfl, hnb, M2, hst2.trans hs, ?_⟩))⟩
              rcases hO with ⟨hM, v98, v100, v101, v102, hfr, hcl⟩ | hO
              · have tk := tkR_at (M := (zA M.1 o (imp e (M.1.2.1 o)) (-2), M.2)) (x := x) (r := 4) (o := o) (f := imp e (M.1.2.1 o)) (p := M.1.2.2.1 o (imp e (M.1.2.1 o)))
                have h45 : ∀ t y, 3 < t ∨ ¬ y = x → M2.2 t y = M.2 t y := fun t y w => by
                  rw [hM]
                  exact tkR_ne w
                have hN2 : M2.1.1 = M.1.1 := by rw [hM]; rfl
                rw [← hM] at tk
                have v8 := ((hH.2.2 _ _ o0 o1 i1).2.2.2 i2).1
                refine PN_next hP0 hV hX hI x0 x1 (hst2.trans hs) xs.yf hm (fun t y _ hy => h45 t y (Or.inr hy)) ?_ (fun o f o0 o1 f0 f1 => ?_) (fun i hi => ?_)
                · unfold mRw
                  rw [tk.1, tk.2.1, tk.2.2.1, tk.2.2.2, h45 4 x (Or.inl (by decide))]
                  refine ⟨v102, fun w => absurd w (by decide), fun w => absurd w (by decide), fun w => absurd w (by decide), fun _ => ⟨v98, v100, ?_, hfr, fun _ => hcl⟩, by decide, by decide⟩
                  unfold mNg
                  rw [if_neg (by omega)]
                  exact v101
                · rw [hN2] at o1
                  rw [h45 5 _ (Or.inl (by decide)), xs.2.2 _ (by omega)]
                  exact hs1 o f o0 o1 f0 f1
                · rw [hN2] at hi
                  rw [h45 5 _ (Or.inl (by decide))]
                  exact hs2 i hi
              · exact PN_new hP0 hV hX hI x0 x1 (hst2.trans hs) xs hm hO
          · -- the list's own name: no class has it
            have hn : stM e T X fb M x = none := by
              rw [hst]
              unfold inO
              rw [if_neg (by omega), if_pos (Or.inl d2)]
            have hcl : clN e fb (nmE T X x) = -1 := by
              rcases clN_ok (fb := fb) hV (L := nmE T X x) with y | ⟨y1, y2, -⟩
              · exact y
              · exact absurd (d5.trans y2.symm) (hX.2.2.2.1 _ _ _ _ i1 i2 i3 i1 y1)
            have hln : lsR e T X fb M x o (imp e (M.1.2.1 o)) = none := by
              unfold lsR inL
              rw [if_pos (Or.inl hcl)]
            rcases hO with ⟨rfl, -⟩ | ⟨-, -, M2, hs, -⟩
            · exact ⟨⟨by decide, by decide⟩, fun _ => hK 0 S2 xs.1 (Or.inl ⟨rfl, Or.inl hn⟩), fun w => absurd rfl w⟩
            · rw [hln] at hs
              cases hs
      · -- a field
        obtain ⟨f, hff⟩ : ∃ f, f = fdM e (M.1.2.1 o) (nmE T X x) := ⟨_, rfl⟩
        rw [← hff] at d1 d2 d3 ⊢
        have f4 := okF4 hV d2
        have e59 := (hE9.2.2.2.2.2.2.1 _ _ d2).1
        have hD := (hV.2.2.2.2.1 _ _ d2).1
        have em : mNg f = f := if_neg (by omega)
        rw [em]
        refine ⟨⟨by omega, by omega⟩, fun _ => ⟨by omega, by omega, fun _ => ⟨fun w2 => ⟨by omega, by omega, fun S36 e36 => ?_⟩, fun w2 => ?_⟩⟩, fun w2 => absurd (show ¬ f = -2 by omega) w2⟩
        rotate_left
        · refine hK 0 S9 xf9.1 (Or.inl ⟨rfl, Or.inl ?_⟩)
          have w2 := Classical.not_not.mp w2
          rw [xf9.2.2 _ (by omega)] at w2
          rw [hst]
          unfold inO
          rw [d1, if_neg (by omega), if_pos (Or.inr ((hs1 o f o0 o1 f4.1 f4.2).mp w2))]
        have ns : ¬ M.2 5 (o * 4 + f) = 1 := fun y => w2 (by rw [xf9.2.2 _ (by omega)]; exact (hs1 o f o0 o1 f4.1 f4.2).mpr y)
        have hst2 : stM e T X fb M x = (match inF e T X fb (zS M 5 (o * 4 + f) 1) x o f with | none => none | some M1 => sdM e T X M1 x) := by
          rw [hst]
          unfold inO
          rw [d1, if_neg (by omega), if_neg (fun y => y.elim d3 ns)]
        have g59 : S36.2 59 (4 * M.1.2.1 o + f) = eD e (M.1.2.1 o) f := by
          rw [e36, (pA_ne 59 (by decide)).2]
          exact e59
        rw [g59]
        refine ⟨by omega, by omega, fun _ x39 e39 => ⟨x0, by omega, ⟨by omega, by omega⟩, fun S43 e43 => ⟨x0, by omega, fun S46 e46 => ?_⟩⟩⟩
        rw [e39]
        have yf46 : YF x S S46 := by
          rw [e46, e43, e36]
          exact ((xf9.yf.tr YF.p103).tr (XF.ps (N := 0) (by decide)).yf).tr (XF.ps (N := 0) (by decide)).yf
        have t46 : ∀ a, 98 ≤ a → ¬ a = 100 → ¬ a = 101 → ¬ a = 103 → S46.2 a = S9.2 a := fun a b1 b2 b3 b4 => by
          rw [e46, (pA_ne a b3).2, e43, (pA_ne a b2).2, e36, (pA_ne a b4).2]
        have k103 : ∀ i, S46.2 103 i = if i = 4 * o + f then 1 else S9.2 103 i := fun i => by
          rw [e46, (pA_ne 103 (by decide)).2, e43, (pA_ne 103 (by decide)).2, e36, pA_if]
        have k100 : S46.2 100 x = 4 * (60 + o) + f := by
          rw [e46, (pA_ne 100 (by decide)).2, e43, pA_if, if_pos rfl]
        have k101 : S46.2 101 x = -2 := by
          rw [e46, pA_if, if_pos rfl]
        have g46 : mH S46 e M.1 := by
          rw [e46, e43, e36]
          exact ((g9.tb (fun a b1 b2 => (pA_ne a (by omega)).2)).tb (fun a b1 b2 => (pA_ne a (by omega)).2)).tb (fun a b1 b2 => (pA_ne a (by omega)).2)
        -- what was told then
        have sn : ∀ (S2 : St) (M2 : Mm), (∀ i, i < 4 * M.1.1 → S2.2 103 i = S46.2 103 i) → M2.1.1 = M.1.1 → M2.2 5 = (zS M 5 (o * 4 + f) 1).2 5 → (∀ o' f', 0 ≤ o' → o' < M2.1.1 → 0 ≤ f' → f' < 4 → (S2.2 103 (4 * o' + f') = 1 ↔ M2.2 5 (o' * 4 + f') = 1)) ∧ ∀ i, M2.1.1 * 4 ≤ i → ¬ M2.2 5 i = 1 := fun S2 M2 b1 b2 b3 => by
          rw [b2, b3]
          refine ⟨fun o' f' c0 c1 c2 c3 => ?_, fun i hi => ?_⟩
          · rw [b1 _ (by omega), k103]
            show _ ↔ (if 5 = 5 ∧ o' * 4 + f' = o * 4 + f then (1 : Int) else M.2 5 (o' * 4 + f')) = 1
            by_cases y : 4 * o' + f' = 4 * o + f
            · rw [if_pos y, if_pos ⟨rfl, by omega⟩]
            · rw [if_neg y, if_neg (fun z => y (by omega)), xf9.2.2 _ (by omega)]
              exact hs1 o' f' c0 c1 c2 c3
          · show ¬ (if 5 = 5 ∧ i = o * 4 + f then (1 : Int) else M.2 5 i) = 1
            rw [if_neg (fun z => by omega)]
            exact hs2 i hi
        refine ⟨fun nk => ⟨x0, by omega, ⟨by omega, by omega⟩, fun S49 e49 => ⟨x0, by omega, fun S52 e52 => ?_⟩⟩, fun nk => ?_⟩
        · -- a number, a text or a list
          have yf52 : YF x S S52 := by
            rw [e52, e49]
            exact (yf46.tr (XF.ps (N := 0) (by decide)).yf).tr (XF.ps (N := 0) (by decide)).yf
          have hC52 := hC.nf yf52.1
          have hE52 := hE.nf hV yf52.1
          have j91 : S52.2 91 x = xAc X x := (cn_e hC52 x0 x1).1.2.2.2.2.2
          have j98 : S52.2 98 x = eD e (M.1.2.1 o) f := by rw [e52, (pA_ne 98 (by decide)).2, e49, pA_if, if_pos rfl]
          have j99 : S52.2 99 x = o := by rw [e52, pA_if, if_pos rfl]
          have j100 : S52.2 100 x = 4 * (60 + o) + f := by rw [e52, (pA_ne 100 (by decide)).2, e49, (pA_ne 100 (by decide)).2]; exact k100
          have j102 : S52.2 102 x = M.2 4 x := by rw [e52, (pA_ne 102 (by decide)).2, e49, (pA_ne 102 (by decide)).2, t46 102 (by decide) (by decide) (by decide) (by decide)]; exact ix9
          have j103 : S52.2 103 = S46.2 103 := by rw [e52, (pA_ne 103 (by decide)).2, e49, (pA_ne 103 (by decide)).2]
          have g52 : mH S52 e M.1 := by
            rw [e52, e49]
            exact (g46.tb (fun a b1 b2 => (pA_ne a (by omega)).2)).tb (fun a b1 b2 => (pA_ne a (by omega)).2)
          rw [j91]
          refine ⟨fun nl => ⟨x0, by omega, fun _ => ⟨fun w3 => ?_, fun w3 => n_kid hC52 x0 x1 (fun r hr => ?_)⟩⟩, fun nl => ⟨x0, by omega, fun _ => ⟨fun w3 => ?_, fun w3 => n_blk hC52 x0 x1 (fun r hr => ?_)⟩⟩⟩
          · have hst3 : stM e T X fb M x = sdM e T X (tkR (zS M 5 (o * 4 + f) 1) x 3 o f (-1)) x := by
              rw [hst2]
              show (match (if eD e (M.1.2.1 o) f = 2 then _ else some (tkR (zS M 5 (o * 4 + f) 1) x (if eD e (M.1.2.1 o) f = 3 then 2 else 3) o f (-1))) with | none => none | some M1 => sdM e T X M1 x) = _
              rw [if_neg nk, if_neg nl]
            refine hK 0 S52 yf52.1 (Or.inl ⟨rfl, Or.inl ?_⟩)
            rw [hst3]
            have tk := tkR_at (M := zS M 5 (o * 4 + f) 1) (x := x) (r := 3) (o := o) (f := f) (p := -1)
            unfold sdM
            rw [tk.1, if_neg (by decide), if_neg (by decide), if_pos rfl, if_pos (Or.inl (by omega))]
          · have hst3 : stM e T X fb M x = sdM e T X (tkR (zS M 5 (o * 4 + f) 1) x 3 o f (-1)) x := by
              rw [hst2]
              show (match (if eD e (M.1.2.1 o) f = 2 then _ else some (tkR (zS M 5 (o * 4 + f) 1) x (if eD e (M.1.2.1 o) f = 3 then 2 else 3) o f (-1))) with | none => none | some M1 => sdM e T X M1 x) = _
              rw [if_neg nk, if_neg nl]
            have tk := tkR_at (M := zS M 5 (o * 4 + f) 1) (x := x) (r := 3) (o := o) (f := f) (p := -1)
            rcases hr with ⟨rfl, hkd⟩ | ⟨rfl, hkd⟩
            · refine ⟨⟨by decide, by decide⟩, fun y => absurd y (by decide), fun _ => hK 0 S52 yf52.1 (Or.inl ⟨rfl, Or.inl ?_⟩)⟩
              rw [hst3]
              unfold sdM
              rw [tk.1, if_neg (by decide), if_neg (by decide), if_pos rfl, if_pos (Or.inr hkd)]
            · refine ⟨⟨by decide, by decide⟩, fun _ => n_pcT hC52 x0 x1 (fun S2 b1 b2 b3 => ?_), fun y => absurd rfl y⟩
              have pf : PcF S52 S2 := ⟨b1, b2⟩
              have hfil : stM e T X fb M x = (match fil e M.1 o f (txE X x) with | none => none | some h => some (h, (tkR (zS M 5 (o * 4 + f) 1) x 3 o f (-1)).2)) := by
                rw [hst3]
                unfold sdM
                rw [tk.1, if_neg (by decide), if_neg (by decide), if_pos rfl, if_neg (fun y => y.elim (fun y => y (by omega)) (fun y => by rw [hkd] at y; cases y)), tk.2.1, tk.2.2.1]
                rfl
              have tl : (txE X x).length ≤ 3000 := by
                have : (txE X x).length ≤ X.2.2.length := by
                  unfold txE
                  rw [List.length_map]
                  exact List.length_filter_le _ _
                omega
              refine n_become (L := txE X x) (g52.tb (fun a c1 c2 => b1 a (by omega))) (hE52.nf hV pf.nf) hV hH.ew ⟨o0, o1⟩ d2 (by omega) b3 tl (txE_sn hC.2.2.2.2.2.2.1) (fun hn S3 bf => ?_) (fun h3 S3 hs bf g3 w3 => ?_)
              · refine ⟨⟨by decide, by decide⟩, hK 0 S3 (yf52.1.tr (pf.nf.tr bf.nf)) (Or.inl ⟨rfl, Or.inl ?_⟩)⟩
                rw [hfil, hn]
              · have hnb : ¬ bdE T X x := fun y => by
                  rcases atN_ok (T := T) (X := X) (x := x) (L := ywR) with ⟨y1, -⟩ | ⟨y1, y2, -⟩ | y1
                  · exact y.1 y1
                  · omega
                  · omega
                have hs' : stM e T X fb M x = some (h3, (tkR (zS M 5 (o * 4 + f) 1) x 3 o f (-1)).2) := by
                  rw [hfil, hs]
                have kp := fil_keep (show eD e (M.1.2.1 o) f ≤ 1 by omega) hs
                have e98 : ∀ a, 98 ≤ a → a ≤ 103 → S3.2 a = S52.2 a := fun a c1 c2 => by
                  rw [bf.2.1 a (by omega) (by omega), b1 a (by omega)]
                have yf3 : YF x S S3 := yf52.tr ⟨pf.nf.tr bf.nf, fun y _ => ⟨by rw [e98 98 (by decide) (by decide)], by rw [e98 99 (by decide) (by decide)], by rw [e98 100 (by decide) (by decide)], by rw [e98 101 (by decide) (by decide)], by rw [e98 102 (by decide) (by decide)]⟩⟩
                have sn2 := sn S3 (h3, (tkR (zS M 5 (o * 4 + f) 1) x 3 o f (-1)).2) (fun i _ => by rw [e98 103 (by decide) (by decide), j103]) kp.1 (funext fun i => (tkR_ne (t := 5) (y := i) (Or.inl (by decide)) : (tkR (zS M 5 (o * 4 + f) 1) x 3 o f (-1)).2 5 i = (zS M 5 (o * 4 + f) 1).2 5 i))
                refine ⟨⟨by decide, by decide⟩, hK 1 S3 yf3.1 (Or.inr (Or.inl ⟨rfl, hnb, _, hs', PN_next hP0 hV hX hI x0 x1 hs' yf3 g3 (fun t y t4 hy => ?_) ?_ sn2.1 sn2.2⟩))⟩
                · show (tkR (zS M 5 (o * 4 + f) 1) x 3 o f (-1)).2 t y = M.2 t y
                  rw [tkR_ne (Or.inr hy)]
                  exact if_neg (fun z => by omega)
                · unfold mRw
                  show S3.2 102 x = (tkR (zS M 5 (o * 4 + f) 1) x 3 o f (-1)).2 4 x ∧ ((tkR (zS M 5 (o * 4 + f) 1) x 3 o f (-1)).2 0 x = 1 → _) ∧ ((tkR (zS M 5 (o * 4 + f) 1) x 3 o f (-1)).2 0 x = 2 → _) ∧ ((tkR (zS M 5 (o * 4 + f) 1) x 3 o f (-1)).2 0 x = 3 → _) ∧ ((tkR (zS M 5 (o * 4 + f) 1) x 3 o f (-1)).2 0 x = 4 → _) ∧ 1 ≤ (tkR (zS M 5 (o * 4 + f) 1) x 3 o f (-1)).2 0 x ∧ (tkR (zS M 5 (o * 4 + f) 1) x 3 o f (-1)).2 0 x ≤ 4
                  rw [tk.1]
                  refine ⟨?_, fun y => absurd y (by decide), fun y => absurd y (by decide), fun _ => ⟨?_, hkd⟩, fun y => absurd y (by decide), by decide, by decide⟩
                  · rw [e98 102 (by decide) (by decide), j102, tkR_ne (Or.inl (by decide))]
                    show M.2 4 x = (if (4 : Nat) = 5 ∧ x = o * 4 + f then 1 else M.2 4 x)
                    rw [if_neg (fun z => absurd z.1 (by decide))]
                  · rw [e98 98 (by decide) (by decide), j98]
                    omega
          · have hst3 : stM e T X fb M x = sdM e T X (tkR (zS M 5 (o * 4 + f) 1) x 2 o f (-1)) x := by
              rw [hst2]
              show (match (if eD e (M.1.2.1 o) f = 2 then _ else some (tkR (zS M 5 (o * 4 + f) 1) x (if eD e (M.1.2.1 o) f = 3 then 2 else 3) o f (-1))) with | none => none | some M1 => sdM e T X M1 x) = _
              rw [if_neg nk, if_pos (Classical.not_not.mp nl)]
            have tk := tkR_at (M := zS M 5 (o * 4 + f) 1) (x := x) (r := 2) (o := o) (f := f) (p := -1)
            refine hK 0 S52 yf52.1 (Or.inl ⟨rfl, Or.inl ?_⟩)
            rw [hst3]
            unfold sdM
            rw [tk.1, if_neg (by decide), if_pos rfl, if_pos (Or.inr w3)]
          · have hst3 : stM e T X fb M x = sdM e T X (tkR (zS M 5 (o * 4 + f) 1) x 2 o f (-1)) x := by
              rw [hst2]
              show (match (if eD e (M.1.2.1 o) f = 2 then _ else some (tkR (zS M 5 (o * 4 + f) 1) x (if eD e (M.1.2.1 o) f = 3 then 2 else 3) o f (-1))) with | none => none | some M1 => sdM e T X M1 x) = _
              rw [if_neg nk, if_pos (Classical.not_not.mp nl)]
            have tk := tkR_at (M := zS M 5 (o * 4 + f) 1) (x := x) (r := 2) (o := o) (f := f) (p := -1)
            have w3 := Classical.not_not.mp w3
            rcases hr with ⟨rfl, hsd⟩ | ⟨rfl, hsd⟩
            · have hs' : stM e T X fb M x = some (tkR (zS M 5 (o * 4 + f) 1) x 2 o f (-1)) := by
                rw [hst3]
                unfold sdM
                rw [tk.1, if_neg (by decide), if_pos rfl, if_neg (fun y => y.elim (fun y => by rw [hsd] at y; cases y) (fun y => y w3))]
              have hnb : ¬ bdE T X x := fun y => by
                rcases atN_ok (T := T) (X := X) (x := x) (L := ywR) with ⟨y1, -⟩ | ⟨y1, y2, -⟩ | y1
                · exact y.1 y1
                · omega
                · omega
              have sn2 := sn S52 (tkR (zS M 5 (o * 4 + f) 1) x 2 o f (-1)) (fun i _ => by rw [j103]) rfl (funext fun i => tkR_ne (Or.inl (by decide)))
              refine ⟨⟨by decide, by decide⟩, fun y => absurd y (by decide), fun _ => hK 1 S52 yf52.1 (Or.inr (Or.inl ⟨rfl, hnb, _, hs', PN_next hP0 hV hX hI x0 x1 hs' yf52 g52 (fun t y t4 hy => ?_) ?_ sn2.1 sn2.2⟩))⟩
              · rw [tkR_ne (Or.inr hy)]
                exact if_neg (fun z => by omega)
              · unfold mRw
                rw [tk.1, tk.2.1, tk.2.2.1]
                refine ⟨?_, fun y => absurd y (by decide), fun _ => ⟨?_, j99, j100⟩, fun y => absurd y (by decide), fun y => absurd y (by decide), by decide, by decide⟩
                · rw [j102, tkR_ne (Or.inl (by decide))]
                  show M.2 4 x = (if (4 : Nat) = 5 ∧ x = o * 4 + f then 1 else M.2 4 x)
                  rw [if_neg (fun z => absurd z.1 (by decide))]
                · rw [j98]
                  exact Classical.not_not.mp nl
            · refine ⟨⟨by decide, by decide⟩, fun _ => hK 0 S52 yf52.1 (Or.inl ⟨rfl, Or.inl ?_⟩), fun y => absurd rfl y⟩
              rw [hst3]
              unfold sdM
              rw [tk.1, if_neg (by decide), if_pos rfl, if_pos (Or.inl hsd)]
        · -- a reference
          have k2 : eD e (M.1.2.1 o) f = 2 := Classical.not_not.mp nk
          have hno : ¬ o = M.1.1 := by omega
          have hst3 : stM e T X fb M x = (match inT e T X fb (zS M 5 (o * 4 + f) 1) x o f with | none => none | some M1 => sdM e T X M1 x) := by
            rw [hst2]
            show (match (if eD e (M.1.2.1 o) f = 2 then inT e T X fb (zS M 5 (o * 4 + f) 1) x o f else _) with | none => none | some M1 => sdM e T X M1 x) = _
            rw [if_pos k2]
          have c102 : S46.2 102 = S9.2 102 := t46 102 (by decide) (by decide) (by decide) (by decide)
          have z4 : ∀ y, (zS M 5 (o * 4 + f) 1).2 4 y = M.2 4 y := fun y => by
            show (if (4 : Nat) = 5 ∧ y = o * 4 + f then 1 else M.2 4 y) = M.2 4 y
            rw [if_neg (fun z => absurd z.1 (by decide))]
          refine n_objE (M := zS M 5 (o * 4 + f) 1) (q := 1) (fl := f) (fb := fb) (hC.nf yf46.1) (hE.nf hV yf46.1) hV hX (fun c hc => by rw [yf46.1.2.1 61 (by decide) (by decide)]; exact hf c hc) g46 hH.ew x0 x1 (Or.inl ⟨rfl, by omega⟩) (fun y y0 y1 => by rw [c102, z4]; exact i9 y y0 y1) (by rw [c102, z4]; exact ix9) (fun y y1 => by rw [z4]; exact hz y y1) (fun r S2 hO => ?_)
          have put : ∀ S2 : St, S2.2 100 x = 4 * (60 + o) + f → ∀ r : Int, iv 0 1 r → ((¬ S2.2 98 x = 4 → K r (pA S2 69 (4 * (60 + o) + f) (-2))) ∧ (S2.2 98 x = 4 → iv 0 29 (S2.2 99 x) → K r (pA S2 69 (4 * (60 + o) + f) (S2.2 99 x)))) → (0 ≤ x ∧ x < 200 ∧ (iv (-2) 359 (S2.2 100 x) → (0 ≤ x ∧ x < 200 ∧ (iv (-2) 5 (S2.2 98 x) → ((¬ S2.2 98 x = 4 → (0 ≤ S2.2 100 x ∧ S2.2 100 x < 360 ∧ ∀ S81, S81 = pA S2 69 (S2.2 100 x) (-2) → (iv 0 1 r ∧ K r S81))) ∧ ((¬ ¬ S2.2 98 x = 4) → (0 ≤ x ∧ x < 200 ∧ (iv 0 29 (S2.2 99 x) → (0 ≤ S2.2 100 x ∧ S2.2 100 x < 360 ∧ (iv (-2147483648) 2147483647 (S2.2 99 x) ∧ ∀ S86, S86 = pA S2 69 (S2.2 100 x) (S2.2 99 x) → (iv 0 1 r ∧ K r S86))))))))))) := fun S2 h100 r hr hk2 => by
            rw [h100]
            refine ⟨x0, by omega, fun _ => ⟨x0, by omega, fun _ => ⟨fun w1 => ⟨by omega, by omega, fun S26 e26 => ⟨hr, ?_⟩⟩, fun w1 => ⟨x0, by omega, fun h99 => ⟨by omega, by omega, ⟨by omega, by omega⟩, fun S31 e31 => ⟨hr, ?_⟩⟩⟩⟩⟩⟩
            · rw [e26]
              exact hk2.1 w1
            · rw [e31]
              exact hk2.2 (Classical.not_not.mp w1) h99
          have q69 : ∀ v, YF x S2 (pA S2 69 (4 * (60 + o) + f) v) := fun v => (XF.hp (N := 0) (Or.inl ⟨rfl, by omega⟩)).yf
          rcases hO with ⟨b1, b2, b3, b4⟩ | ⟨b1, bu, b3, b4⟩
          · have hRf := refN b1 b2
            have h100 : S2.2 100 x = 4 * (60 + o) + f := by rw [b3, (pA_ne 100 (by decide)).2]; exact k100
            have h98 : S2.2 98 x = 5 := by rw [b3, pA_if, if_pos rfl]
            have yf2 : YF x S S2 := by
              rw [b3]
              exact yf46.tr (XF.ps (N := 0) (by decide)).yf
            have yf3 := yf2.tr (q69 (-2))
            rcases b4 with ⟨rfl, b5, b6, -⟩ | ⟨rfl, b5⟩
            · have hfr : frm X x := ⟨b1, b5, b6⟩
              have tk := tkR_at (M := zS M 5 (o * 4 + f) 1) (x := x) (r := 4) (o := o) (f := f) (p := -1)
              have hs' : stM e T X fb M x = some (tkR (zS M 5 (o * 4 + f) 1) x 4 o f (-1)) := by
                rw [hst3]
                unfold inT
                rw [if_pos hRf]
                dsimp only
                unfold sdM
                rw [tk.1, if_neg (by decide), if_neg (by decide), if_neg (by decide)]
              have sn2 := sn (pA S2 69 (4 * (60 + o) + f) (-2)) (tkR (zS M 5 (o * 4 + f) 1) x 4 o f (-1)) (fun i _ => by rw [(pA_ne 103 (by decide)).2, b3, (pA_ne 103 (by decide)).2]) rfl (funext fun i => tkR_ne (Or.inl (by decide)))
              refine put S2 h100 1 ⟨by decide, by decide⟩ ⟨fun _ => hK 1 _ yf3.1 (Or.inr (Or.inl ⟨rfl, fun y => y.2 hfr, _, hs', PN_next hP0 hV hX hI x0 x1 hs' yf3 ?_ (fun t y t4 hy => ?_) ?_ sn2.1 sn2.2⟩)), fun y => absurd (h98.symm.trans y) (by decide)⟩
              · have g2 : mH S2 e M.1 := by
                  rw [b3]
                  exact g46.tb (fun a c1 c2 => (pA_ne a (by omega)).2)
                have hv : M.1.2.2.1 o f = -2 := hui o f o0 o1 d2 k2 ns
                have g3 := mH_V (x := -2) g2 hV d2 (Or.inr k2)
                have eq : zV M.1 o f (-2) = M.1 := by
                  refine Prod.ext rfl (Prod.ext rfl (Prod.ext (funext fun a => funext fun b => ?_) rfl))
                  show (if a = o ∧ b = f then (-2 : Int) else M.1.2.2.1 a b) = M.1.2.2.1 a b
                  by_cases y : a = o ∧ b = f
                  · rw [if_pos y, y.1, y.2, hv]
                  · rw [if_neg y]
                rw [eq] at g3
                exact g3
              · rw [tkR_ne (Or.inr hy)]
                exact if_neg (fun z => by omega)
              · unfold mRw
                rw [tk.1, tk.2.1, tk.2.2.1, tk.2.2.2]
                refine ⟨?_, fun y => absurd y (by decide), fun y => absurd y (by decide), fun y => absurd y (by decide), fun _ => ⟨?_, ?_, ?_, hfr, fun y => absurd rfl y⟩, by decide, by decide⟩
                · rw [(pA_ne 102 (by decide)).2, b3, (pA_ne 102 (by decide)).2, c102, tkR_ne (Or.inl (by decide)), z4]
                  exact ix9
                · rw [(pA_ne 98 (by decide)).2]
                  exact h98
                · rw [(pA_ne 100 (by decide)).2]
                  exact h100
                · rw [(pA_ne 101 (by decide)).2, b3, (pA_ne 101 (by decide)).2, k101]
                  exact (if_pos rfl).symm
            · have hbd : bdE T X x := ⟨hRf, fun hfr => b5 ⟨hfr.2.1, hfr.2.2, Or.inl rfl⟩⟩
              exact put S2 h100 0 ⟨by decide, by decide⟩ ⟨fun _ => hK 0 _ yf3.1 (Or.inl ⟨rfl, Or.inr hbd⟩), fun y => absurd (h98.symm.trans y) (by decide)⟩
          · have h100 : S2.2 100 x = 4 * (60 + o) + f := by rw [bu.2.1]; exact k100
            have b3 : ∀ i, i < 4 * M.1.1 → S2.2 103 i = S46.2 103 i := b3
            have yf2 := yf46.tr (bu.xf (N := M.1.1) b3).yf
            have hcq : clQ e T X fb x 1 = -1 ∨ okC e (clQ e T X fb x 1) := by
              unfold clQ
              rw [if_neg (by decide)]
              by_cases y : atN T X x ywC = -1
              · rw [if_pos y]
                exact Or.inl rfl
              · rw [if_neg y]
                exact (clN_ok hV).imp_right (fun y => y.1)
            by_cases hRf : atN T X x ywR = -1
            · have key := tg_obR (e := e) (fb := fb) (M := zS M 5 (o * 4 + f) 1) (f := f) hno hRf
              rcases b4 with ⟨rfl, b4⟩ | ⟨rfl, M2, b4, p1, p2, p3, p4, p5, p6, p7⟩
              · have hn : stM e T X fb M x = none := by
                  have k2 := hst3.trans key
                  rw [k2, b4]
                  rfl
                exact put S2 h100 0 ⟨by decide, by decide⟩ ⟨fun _ => hK 0 _ (yf2.tr (q69 _)).1 (Or.inl ⟨rfl, Or.inl hn⟩), fun _ _ => hK 0 _ (yf2.tr (q69 _)).1 (Or.inl ⟨rfl, Or.inl hn⟩)⟩
              · have hs' : stM e T X fb M x = some (uM (fun h => zV h o f M.1.1) M2) := by
                  have k2 := hst3.trans key
                  rw [k2, b4]
                  rfl
                obtain ⟨r1, r2, r3, r4, r5, r6, r7, r8⟩ := obR_ok (M := zS M 5 (o * 4 + f) 1) hV hH.2.1 h30.1 hcq b4
                have r4 : M2.1.1 = M.1.1 + 1 := r4
                have ek : M2.1.2.1 o = M.1.2.1 o := by
                  rw [r5]
                  exact if_neg hno
                have p4 : S2.2 99 x = M.1.1 := p4
                refine put S2 h100 1 ⟨by decide, by decide⟩ ⟨fun y => absurd p3 y, fun _ _ => ?_⟩
                rw [p4]
                have yf3 := yf2.tr (q69 M.1.1)
                refine hK 1 _ yf3.1 (Or.inr (Or.inl ⟨rfl, fun y => y.1 hRf, _, hs', PN_next hP0 hV hX hI x0 x1 hs' yf3 (mH_V p1 hV (by rw [ek]; exact d2) (Or.inr (by rw [ek]; exact k2))) (fun t y t4 hy => ?_) ?_ (fun o' f' c0 c1 c2 c3 => ?_) (fun i hi => ?_)⟩))
                · show M2.2 t y = M.2 t y
                  by_cases t5 : t = 4
                  · rw [t5, p6 y hy, z4]
                  · rw [r2 t y (by omega) hy]
                    exact if_neg (fun z => by omega)
                · unfold mRw
                  show (pA S2 69 (4 * (60 + o) + f) M.1.1).2 102 x = M2.2 4 x ∧ (M2.2 0 x = 1 → (pA S2 69 (4 * (60 + o) + f) M.1.1).2 98 x = 4 ∧ (pA S2 69 (4 * (60 + o) + f) M.1.1).2 99 x = M2.2 1 x) ∧ (M2.2 0 x = 2 → _) ∧ (M2.2 0 x = 3 → _) ∧ (M2.2 0 x = 4 → _) ∧ 1 ≤ M2.2 0 x ∧ M2.2 0 x ≤ 4
                  rw [r1.1, r1.2.1]
                  refine ⟨?_, fun _ => ⟨?_, ?_⟩, fun y => absurd y (by decide), fun y => absurd y (by decide), fun y => absurd y (by decide), by decide, by decide⟩
                  · rw [(pA_ne 102 (by decide)).2]
                    exact p5
                  · rw [(pA_ne 98 (by decide)).2]
                    exact p3
                  · rw [(pA_ne 99 (by decide)).2]
                    exact p4
                · have c1 : o' < M2.1.1 := c1
                  rw [r4] at c1
                  show (pA S2 69 (4 * (60 + o) + f) M.1.1).2 103 (4 * o' + f') = 1 ↔ M2.2 5 (o' * 4 + f') = 1
                  rw [(pA_ne 103 (by decide)).2, r3]
                  by_cases qo : o' = M.1.1
                  · have p7 : ∀ f, 0 ≤ f → f < 4 → S2.2 103 (4 * M.1.1 + f) = 0 := p7
                    rw [qo, p7 f' c2 c3]
                    refine ⟨fun y => absurd y (by decide), fun y => ?_⟩
                    have y : (if 5 = 5 ∧ M.1.1 * 4 + f' = o * 4 + f then (1 : Int) else M.2 5 (M.1.1 * 4 + f')) = 1 := y
                    rw [if_neg (fun z => by omega)] at y
                    exact absurd y (hs2 _ (by omega))
                  · have := (sn S46 (zS M 5 (o * 4 + f) 1) (fun _ _ => rfl) rfl rfl).1 o' f' c0 (by show o' < M.1.1; omega) c2 c3
                    rw [b3 _ (by omega)]
                    exact this
                · have hi : M2.1.1 * 4 ≤ i := hi
                  rw [r4] at hi
                  show ¬ M2.2 5 i = 1
                  rw [r3]
                  exact (sn S46 (zS M 5 (o * 4 + f) 1) (fun _ _ => rfl) rfl rfl).2 i (by show M.1.1 * 4 ≤ i; omega)
            · have hbd := refB b1 hRf
              have hn := obR_ref (M := zS M 5 (o * 4 + f) 1) (fl := f) hV hX hRf a2 hcq
              rcases b4 with ⟨rfl, -⟩ | ⟨-, M2, b4, -⟩
              · exact put S2 h100 0 ⟨by decide, by decide⟩ ⟨fun _ => hK 0 _ (yf2.tr (q69 _)).1 (Or.inl ⟨rfl, Or.inr hbd⟩), fun _ _ => hK 0 _ (yf2.tr (q69 _)).1 (Or.inl ⟨rfl, Or.inr hbd⟩)⟩
              · rw [hn] at b4
                cases b4
end NS

