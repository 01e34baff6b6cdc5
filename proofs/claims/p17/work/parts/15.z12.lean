/-! BOTH WAYS OF WRITING ARE THE SAME: fields, objects -/
section SM
variable {e : Env} {κ : Int → Int} {s : Ws} {t : Wt} {o f X P k key n : Int} {p : Pth}
theorem sim_add (h : RT e κ s t) (hk : okN e k) (hP : -2 ≤ P ∧ P ≠ -1 ∧ P < t.2.2.2.1.length) (h1 : PM e → (key < 0 → key = -2 - t.2.2.2.1.length) ∧ (key < 0 ∨ 30 ≤ key) ∧ (∀ x : Int, 0 ≤ x → x < t.2.2.2.1.length → κ x ≠ key) ∧ (30 ≤ key → ∃ o g, okO e o ∧ iv 0 3 g ∧ key = 30 + o * 4 + g ∧ 0 < s.2.1 o)) : Sx e κ s t s (addT t P k) (fun y g => key = 30 + y * 4 + g) (fun P' c => if P = P' ∧ eR e k = eR e c then 1 else 0) t.2.2.2.1.length := by
  have hl : (addT t P k).2.2.2.1.length = t.2.2.2.1.length + 1 := by
    show (t.2.2.2.1 ++ [(P, k)]).length = _
    simp
  refine ⟨_, [(P, k)], h.add hk hP h1, rfl, fun x hx => if_neg (by omega), Mo.rf, fun hm x x1 x2 y g hy hg q => Or.inr ?_, fun q => q, fun _ P' c hP' => ?_⟩
  · have q : (if x = (t.2.2.2.1.length : Int) then key else κ x) = 30 + y * 4 + g := q
    rw [if_pos (by omega)] at q
    exact q
  · show ctT e P' c (t.2.2.2.1 ++ [(P, k)]) = ctT e P' c t.2.2.2.1 + (if P = P' ∧ eR e k = eR e c then (1 : Int) else 0)
    rw [ctT_app]
    show _ + ((if P = P' ∧ eR e k = eR e c then (1 : Int) else 0) + 0) = _
    omega
theorem neg_key (h : RT e κ s t) : PM e → ((-2 - t.2.2.2.1.length : Int) < 0 → (-2 - t.2.2.2.1.length : Int) = -2 - t.2.2.2.1.length) ∧ ((-2 - t.2.2.2.1.length : Int) < 0 ∨ 30 ≤ (-2 - t.2.2.2.1.length : Int)) ∧ (∀ x : Int, 0 ≤ x → x < t.2.2.2.1.length → κ x ≠ (-2 - t.2.2.2.1.length : Int)) ∧ (30 ≤ (-2 - t.2.2.2.1.length : Int) → ∃ o g, okO e o ∧ iv 0 3 g ∧ (-2 - t.2.2.2.1.length : Int) = 30 + o * 4 + g ∧ 0 < s.2.1 o) := fun hm => by
  refine ⟨fun _ => rfl, Or.inl (by omega), fun x x1 x2 q => ?_, fun q => absurd q (by omega)⟩
  have := ((h.2.2.2.2.2.2.2 hm).2.2 x x1 x2).1 (by omega)
  omega
theorem Sx.wk {s' : Ws} {t' : Wt} {L L' : Int → Int → Prop} {d d' : Int → Int → Int} {B B' : Int} (h : Sx e κ s t s' t' L d B) (hL : ∀ y g, okO e y → iv 0 3 g → L y g → L' y g) (hB : B' ≤ B) (hd : ∀ P c, P < B' → d' P c = d P c) : Sx e κ s t s' t' L' d' B' := by
  obtain ⟨κ', R, a1, a2, a3, a4, a5, a6, a7⟩ := h
  exact ⟨κ', R, a1, a2, a3, a4, fun hm x x1 x2 y g hy hg q => (a5 hm x x1 x2 y g hy hg q).imp (fun w => w) (hL y g hy hg), a6, fun q P c hP => by rw [a7 q P c (by omega), hd P c hP]⟩
theorem Sx.wk2 {s' : Ws} {t' : Wt} {L L' : Int → Int → Prop} {d : Int → Int → Int} {B : Int} (h : Sx e κ s t s' t' L d B) (hL : PM e → ∀ y g, okO e y → iv 0 3 g → L y g → ¬ 0 < s.2.1 y ∨ L' y g) : Sx e κ s t s' t' L' d B := by
  obtain ⟨κ', R, a1, a2, a3, a4, a5, a6, a7⟩ := h
  exact ⟨κ', R, a1, a2, a3, a4, fun hm x x1 x2 y g hy hg q => (a5 hm x x1 x2 y g hy hg q).elim Or.inl (hL hm y g hy hg), a6, a7⟩
/-- what a field does to the names below its object's element -/
def dc (e : Env) (o f X P' c : Int) : Int := if X = P' then (if eD e (eK e o) f = 3 ∧ eM e (eK e o) f = 1 then cnR e o f c (eV e o f).toNat 0 else if (eD e (eK e o) f ≤ 1 ∧ eM e (eK e o) f = 1) ∨ (eD e (eK e o) f = 2 ∧ eV e o f = -2) then 0 else if eR e (nmF e o f) = eR e c then 1 else 0) else 0
theorem dc_1 (h : ¬ (eD e (eK e o) f = 3 ∧ eM e (eK e o) f = 1)) (h2 : ¬ ((eD e (eK e o) f ≤ 1 ∧ eM e (eK e o) f = 1) ∨ (eD e (eK e o) f = 2 ∧ eV e o f = -2))) (P' c : Int) : dc e o f X P' c = if X = P' ∧ eR e (nmF e o f) = eR e c then 1 else 0 := by
  unfold dc
  rw [if_neg h, if_neg h2]
  by_cases q : X = P'
  · rw [if_pos q]
    by_cases w : eR e (nmF e o f) = eR e c
    · rw [if_pos w, if_pos ⟨q, w⟩]
    · rw [if_neg w, if_neg (fun z => w z.2)]
  · rw [if_neg q, if_neg (fun z => q z.1)]
theorem dc_z (h : ¬ (eD e (eK e o) f = 3 ∧ eM e (eK e o) f = 1)) (h2 : (eD e (eK e o) f ≤ 1 ∧ eM e (eK e o) f = 1) ∨ (eD e (eK e o) f = 2 ∧ eV e o f = -2)) (P' c : Int) : dc e o f X P' c = 0 := by
  unfold dc
  by_cases q : X = P'
  · rw [if_pos q, if_neg h, if_pos h2]
  · rw [if_neg q]
theorem dc_i (h : eD e (eK e o) f = 3 ∧ eM e (eK e o) f = 1) (P' c : Int) : dc e o f X P' c = if X = P' then cnR e o f c (eV e o f).toNat 0 else 0 := by
  unfold dc
  rw [if_pos h]
theorem sim_con {n : Nat} (hV : EV e) (hD : DN e) (hn : SimE e n) (h : RT e κ s t) (ho : okO e o) (hb : 0 < s.2.1 o) (hf : okF e (eK e o) f) (hX : 0 ≤ X ∧ X < t.2.2.2.1.length) (hp : PM e → p = rl κ (pOf (uP e t.2.2.2.1 X))) (hz : PM e → stopT t ∨ (ctT e X (nmF e o f) t.2.2.2.1 = 0 ∧ (eD e (eK e o) f = 3 → eM e (eK e o) f = 1 → ∀ c, okC e c → ctT e X c t.2.2.2.1 = 0))) (hk : PM e → ∀ x : Int, 0 ≤ x → x < t.2.2.2.1.length → κ x ≠ 30 + o * 4 + f) : Sx e κ s t (con e (El e n) o f p s) (conT e (ElT e n) o f X t) (fun y g => y = o ∧ g = f) (dc e o f X) t.2.2.2.1.length := by
  have hob := okO_b hV ho
  have hfb := okF_b hV hf
  have hkd := hV.2.2.2.2.1 _ _ hf
  have hv := hV.2.2.2.2.2 _ _ ho hf
  have hnm := nmF_ok hf
  have hX2 : -2 ≤ X ∧ X ≠ -1 ∧ X < t.2.2.2.1.length := ⟨by omega, by omega, hX.2⟩
  have nokey : ∀ y g, okO e y → iv 0 3 g → (-2 - t.2.2.2.1.length : Int) = 30 + y * 4 + g → y = o ∧ g = f := fun y g hy hg q => by
    have := okO_b hV hy
    omega
  unfold con conT
  by_cases h1 : eD e (eK e o) f ≤ 1
  · rw [if_pos h1, if_pos h1]
    by_cases h2 : eM e (eK e o) f = 1
    · rw [if_pos h2, if_pos h2]
      refine (Sx.rf (L := fun _ _ => False) h).wk (fun _ _ _ _ w => w.elim) (Int.le_refl _) (fun P' c _ => dc_z (fun r => by have := r.1; omega) (Or.inl ⟨h1, h2⟩) P' c)
    · have hd := dc_1 (e := e) (o := o) (f := f) (X := X) (fun r => by have := r.1; omega) (fun r => by rcases r with r | r; exact h2 r.2; have := r.1; omega)
      have ha := (sim_add h hnm hX2 (neg_key h)).wk (L' := fun y g => y = o ∧ g = f) (d' := dc e o f X) nokey (Int.le_refl _) (fun P' c _ => hd P' c)
      rw [if_neg h2, if_neg h2]
      split
      · exact ha.pt
      · exact ha.pt
  · rw [if_neg h1, if_neg h1]
    by_cases h2 : eD e (eK e o) f = 2
    · rw [if_pos h2, if_pos h2]
      by_cases h3 : eV e o f = -2
      · rw [if_pos h3, if_pos h3]
        refine (Sx.rf (L := fun _ _ => False) h).wk (fun _ _ _ _ w => w.elim) (Int.le_refl _) (fun P' c _ => dc_z (fun r => by have := r.1; omega) (Or.inr ⟨h2, h3⟩) P' c)
      · rw [if_neg h3, if_neg h3]
        have hd := dc_1 (e := e) (o := o) (f := f) (X := X) (fun r => by have := r.1; omega) (fun r => by rcases r with r | r; exact h1 r.1; exact h3 r.2)
        refine (hn κ s t (eV e o f) X (nmF e o f) 1 p h ((hv.2.2.1 h2).resolve_left h3) hnm hX2 (fun hm => ?_)).wk (fun _ _ _ _ w => w.elim) (Int.le_refl _) (fun P' c _ => hd P' c)
        rcases hz hm with w | w
        · exact Or.inl w
        · exact Or.inr ⟨hp hm, by rw [w.1]; rfl⟩
    · have h3 : eD e (eK e o) f = 3 := by omega
      have hl := hv.2.2.2 h3
      rw [if_neg h2, if_neg h2]
      by_cases h4 : eM e (eK e o) f = 1
      · rw [if_pos h4, if_pos h4]
        refine (sim_its hV hD hn (p := p) (eV e o f).toNat 0 κ s t h (Int.le_refl _) (fun j j1 j2 => hl.2 j j1 (by omega)) hX (fun hm => ?_)).wk (fun _ _ _ _ w => w.elim) (Int.le_refl _) (fun P' c _ => dc_i ⟨h3, h4⟩ P' c)
        rcases hz hm with w | w
        · exact Or.inl w
        · exact Or.inr ⟨hp hm, fun c hc => w.2 h3 h4 c hc⟩
      · have hd := dc_1 (e := e) (o := o) (f := f) (X := X) (fun r => h4 r.2) (fun r => by rcases r with r | r; exact h1 r.1; exact h2 r.1)
        rw [if_neg h4, if_neg h4]
        by_cases h5 : eV e o f = 0
        · rw [if_pos h5, if_pos h5]
          exact ((sim_add h hnm hX2 (neg_key h)).wk (L' := fun y g => y = o ∧ g = f) (d' := dc e o f X) nokey (Int.le_refl _) (fun P' c _ => hd P' c)).pt
        · rw [if_neg h5, if_neg h5]
          have tl : (addT t X (nmF e o f)).2.2.2.1.length = t.2.2.2.1.length + 1 := by
            show (t.2.2.2.1 ++ [(X, nmF e o f)]).length = _
            simp
          have ha := (h.add (key := 30 + o * 4 + f) hnm hX2 (fun hm => ⟨fun w => absurd w (by omega), Or.inr (by omega), hk hm, fun _ => ⟨o, f, ho, hfb.2, rfl, hb⟩⟩)).pt (l := [60] ++ eL e (nmF e o f) ++ [62])
          have stp1 : stopT t → stopT (ptT (addT t X (nmF e o f)) ([60] ++ eL e (nmF e o f) ++ [62])) := fun w => by
            rcases w with w | w
            · exact Or.inl w
            · refine Or.inr ?_
              show 3000 < (t.1 ++ ([60] ++ eL e (nmF e o f) ++ [62])).length
              rw [List.length_append]
              omega
          refine Sx.pt ?_
          refine Sx.tr0 (R1 := [(X, nmF e o f)]) (L := fun y g => y = o ∧ g = f) (L1 := fun y g => y = o ∧ g = f) (L2 := fun _ _ => False) (d1 := fun P' c => if X = P' ∧ eR e (nmF e o f) = eR e c then 1 else 0) (d2 := fun P' c => if (t.2.2.2.1.length : Int) = P' then cnR e o f c (eV e o f).toNat 0 else 0) (B1 := t.2.2.2.1.length) (B2 := (addT t X (nmF e o f)).2.2.2.1.length) (κ1 := fun x => if x = t.2.2.2.1.length then 30 + o * 4 + f else κ x) (t1 := ptT (addT t X (nmF e o f)) ([60] ++ eL e (nmF e o f) ++ [62])) (s1 := pt s ([60] ++ eL e (nmF e o f) ++ [62])) h rfl (fun x hx => if_neg (by omega)) Mo.rf (fun hm x x1 x2 y g hy hg q => Or.inr ?_) stp1 (fun _ P' c hP' => ?_) ?_ (fun _ _ _ _ w => w) (fun _ _ _ _ w => w.elim) (Int.le_refl _) (by omega) (fun P' c hP' => ?_)
          · have x3 : x < ((addT t X (nmF e o f)).2.2.2.1.length : Int) := x2
            rw [tl] at x3
            have q : (if x = (t.2.2.2.1.length : Int) then 30 + o * 4 + f else κ x) = 30 + y * 4 + g := q
            rw [if_pos (by omega)] at q
            have := okO_b hV hy
            omega
          · show ctT e P' c (t.2.2.2.1 ++ [(X, nmF e o f)]) = ctT e P' c t.2.2.2.1 + (if X = P' ∧ eR e (nmF e o f) = eR e c then (1 : Int) else 0)
            rw [ctT_app]
            show _ + ((if X = P' ∧ eR e (nmF e o f) = eR e c then (1 : Int) else 0) + 0) = _
            omega
          · refine sim_its hV hD hn (p := lst e o f p) (P := (t.2.2.2.1.length : Int)) (eV e o f).toNat 0 _ _ _ ha (Int.le_refl _) (fun j j1 j2 => hl.2 j j1 (by omega)) ⟨by omega, by show (t.2.2.2.1.length : Int) < ((addT t X (nmF e o f)).2.2.2.1.length : Nat); omega⟩ (fun hm => ?_)
            rcases hz hm with w | w
            · exact Or.inl (stp1 w)
            · refine Or.inr ⟨?_, fun c hc => ?_⟩
              · show lst e o f p = rl _ (pOf (uP e (t.2.2.2.1 ++ [(X, nmF e o f)]) (t.2.2.2.1.length : Int)))
                rw [uP_new h.2.2.2.2.2.2.1 hnm hX2, pOf_cons, rl_app, w.1]
                unfold lst
                have e1 : rl (fun x => if x = (t.2.2.2.1.length : Int) then 30 + o * 4 + f else κ x) (pOf (uP e t.2.2.2.1 X)) = p := by
                  rw [hp hm]
                  refine rl_eq (fun z hz' => ?_)
                  have := pOf_mem h.2.2.2.2.2.2.1 hX.2 z hz'
                  rw [if_neg (by omega)]
                rw [e1]
                congr 1
                show [(30 + o * 4 + f, nmF e o f, (1 : Int))] = [((if (t.2.2.2.1.length : Int) = t.2.2.2.1.length then 30 + o * 4 + f else κ (t.2.2.2.1.length : Int)), nmF e o f, 1 + (0 : Int))]
                rw [if_pos rfl]
                rfl
              · show ctT e (t.2.2.2.1.length : Int) c (t.2.2.2.1 ++ [(X, nmF e o f)]) = 0
                refine ctT_0 (fun q hq => ?_)
                rcases List.mem_append.mp hq with hq | hq
                · obtain ⟨i, hi, rfl⟩ := List.getElem_of_mem hq
                  have := (h.2.2.2.2.2.2.1 i hi).2.1
                  unfold paT at this
                  rw [Int.toNat_natCast, List.getD_eq_getElem?_getD, List.getElem?_eq_getElem hi] at this
                  have h9 : (t.2.2.2.1[i]).1 < (i : Int) := this
                  omega
                · have : q = (X, nmF e o f) := by simpa using hq
                  rw [this]
                  show X ≠ _
                  omega
          · rw [hd]
            show _ = _ + (if (t.2.2.2.1.length : Int) = P' then cnR e o f c (eV e o f).toNat 0 else 0)
            rw [if_neg (show ¬ (t.2.2.2.1.length : Int) = P' by omega)]
            omega
theorem ct_new {tb : List (Int × Int)} {c : Int} (hT : TV e tb) : ctT e (tb.length : Int) c tb = 0 := ctT_0 (fun q hq => by
  obtain ⟨i, hi, rfl⟩ := List.getElem_of_mem hq
  have := (hT i hi).2.1
  unfold paT at this
  rw [Int.toNat_natCast, List.getD_eq_getElem?_getD, List.getElem?_eq_getElem hi] at this
  have h9 : (tb[i]).1 < (i : Int) := this
  omega)
/-- nothing stands yet below an element for the fields from f on -/
def CZ (e : Env) (o X f : Int) (tb : List (Int × Int)) : Prop := ∀ g, f ≤ g → okF e (eK e o) g → ctT e X (nmF e o g) tb = 0 ∧ (eD e (eK e o) g = 3 → eM e (eK e o) g = 1 → ∀ c, okC e c → ctT e X c tb = 0)
theorem dc_0 (hV : EV e) (hD : DN e) (ho : okO e o) (hf : okF e (eK e o) f) {g : Int} (hfg : f < g) (hg : okF e (eK e o) g) : dc e o f X X (nmF e o g) = 0 ∧ (eD e (eK e o) g = 3 → eM e (eK e o) g = 1 → ∀ c, okC e c → dc e o f X X c = 0) := by
  have hv := hV.2.2.2.2.2 _ _ ho hf
  unfold dc
  rw [if_pos rfl]
  refine ⟨?_, fun h3 h4 c hc => ?_⟩
  · by_cases q : eD e (eK e o) f = 3 ∧ eM e (eK e o) f = 1
    · rw [if_pos q]
      exact cnR_0 hV (fun d hd => hD.2.2.1 _ f g d hf q.1 q.2 hg hd) _ _ (fun i i1 i2 => (hv.2.2.2 q.1).2 i i1 (by omega))
    · rw [if_neg q]
      split
      · rfl
      · rw [if_neg (fun w => by have := hD.2.1 _ f g hf hg w; omega)]
  · rw [if_pos rfl, if_neg (fun w => by have := hD.2.2.2 _ f g hf hg w.1 w.2 h3 h4; omega)]
    split
    · rfl
    · rw [if_neg (show ¬ eR e (nmF e o f) = eR e c from hD.2.2.1 _ g f c hg h3 h4 hf hc)]
theorem sim_cns {n : Nat} (hV : EV e) (hD : DN e) (hn : SimE e n) (ho : okO e o) : ∀ (m : Nat) (f : Int) (κ : Int → Int) (s : Ws) (t : Wt), RT e κ s t → 0 ≤ f → f + m ≤ eF e (eK e o) → 0 < s.2.1 o → (0 ≤ X ∧ X < t.2.2.2.1.length) → (PM e → p = rl κ (pOf (uP e t.2.2.2.1 X))) → (PM e → stopT t ∨ CZ e o X f t.2.2.2.1) → (PM e → ∀ x : Int, 0 ≤ x → x < t.2.2.2.1.length → ∀ g, f ≤ g → g < 4 → κ x ≠ 30 + o * 4 + g) → Sx e κ s t (cns e (El e n) o p m f s) (cnsT e (ElT e n) o X m f t) (fun y g => y = o) (fun _ _ => 0) X
  | 0, f, κ, s, t, h, _, _, _, _, _, _, _ => Sx.rf h
  | m + 1, f, κ, s, t, h, h0, hm, hb, hX, hp, hz, hk => by
    have hkc := hV.2.2.1 o ho
    have hF := hV.2.2.2.1 _ hkc
    have hf : okF e (eK e o) f := ⟨hkc, h0, by omega⟩
    have h1 := sim_con hV hD hn h ho hb hf hX hp (fun q => (hz q).imp (fun w => w) (fun w => w f (Int.le_refl _) hf)) (fun q x x1 x2 => hk q x x1 x2 f (Int.le_refl _) (by omega))
    refine Sx.tr h h1 (L2 := fun y g => y = o) (d2 := fun _ _ => 0) (B2 := X) (fun κ1 g1 g2 g3 g4 g5 g6 => ?_) (fun _ _ _ _ w => w.1) (fun _ _ _ _ w => w) (by omega) (Int.le_refl _) (fun P' c hP' => ?_)
    · obtain ⟨R, hR⟩ := g5
      have hl : t.2.2.2.1.length ≤ (conT e (ElT e n) o f X t).2.2.2.1.length := by rw [hR, List.length_append]; omega
      have hb1 := (g6.2 o h.2.2.2.1 hb).1
      refine sim_cns hV hD hn ho m (f + 1) κ1 _ _ g1 (by omega) (by omega) hb1 ⟨hX.1, by omega⟩ (fun q => ?_) (fun q => ?_) (fun q x x1 x2 g g1' g2' => ?_)
      · rw [hR, uP_app h.2.2.2.2.2.2.1 hX.2, hp q]
        refine (rl_eq (fun z hz' => ?_)).symm
        have := pOf_mem h.2.2.2.2.2.2.1 hX.2 z hz'
        exact g2 _ (by omega)
      · by_cases w : stopT (conT e (ElT e n) o f X t)
        · exact Or.inl w
        · refine Or.inr (fun g hg1 hg2 => ?_)
          have hz2 := (hz q).resolve_left (fun z => w (stop_of conT_st conT_dp z)) g (by omega) hg2
          have d0 := dc_0 (X := X) hV hD ho hf (show f < g by omega) hg2
          refine ⟨?_, fun h3 h4 c hc => ?_⟩
          · rw [g4 w X _ hX.2, hz2.1, d0.1]
            rfl
          · rw [g4 w X c hX.2, hz2.2 h3 h4 c hc, d0.2 h3 h4 c hc]
            rfl
      · by_cases w : x < t.2.2.2.1.length
        · rw [g2 x w]
          exact hk q x x1 w g (by omega) g2'
        · intro r
          rcases g3 q x (by omega) x2 o g ho ⟨by omega, by omega⟩ r with z | z
          · exact z hb
          · omega
    · show (0 : Int) = dc e o f X P' c + 0
      unfold dc
      rw [if_neg (show ¬ X = P' by omega)]
      rfl
theorem sim_El (hV : EV e) (hD : DN e) (hmo : iv 0 3 (eO e)) : ∀ n : Nat, SimE e n := by
  have ref : ∀ (κ : Int → Int) (s : Ws) (t : Wt) (o P k r : Int) (p : Pth), RT e κ s t → okO e o → okN e k → (-2 ≤ P ∧ P ≠ -1 ∧ P < t.2.2.2.1.length) → ¬ eO e = 3 → 0 < s.2.1 o → (PM e → p = rl κ (pOf (uP e t.2.2.2.1 P))) → Sx e κ s t (pt s (rfT e s o p k)) (ptT (addT t P k) (rfU e (addT t P k) o k t.2.2.2.1.length)) (fun _ _ => False) (fun P' c => if P = P' ∧ eR e k = eR e c then 1 else 0) t.2.2.2.1.length := by
    intro κ s t o P k r p h ho hk hP h3 hb hp
    have ha := (sim_add h hk hP (neg_key h)).wk (L' := fun _ _ => False) (d' := fun P' c => if P = P' ∧ eR e k = eR e c then 1 else 0) (fun y g hy hg q => by have := okO_b hV hy; omega) (Int.le_refl _) (fun _ _ _ => rfl)
    have et : rfU e (addT t P k) o k t.2.2.2.1.length = rfT e s o p k := by
      unfold rfU rfT rfW
      by_cases m2 : eO e = 2
      · rw [if_pos m2, if_pos m2, h.2.2.2.2.2.1 h3 o ho]
        rfl
      · rw [if_neg m2, if_neg m2]
        have tb1 : (addT t P k).2.2.2.1 = t.2.2.2.1 ++ [(P, k)] := rfl
        have eb1 : (addT t P k).2.2.1 o = t.2.2.1 o := rfl
        rw [tb1, eb1]
        by_cases m0 : eO e = 0
        · have hm : PM e := Or.inl m0
          obtain ⟨b1, b2, b3⟩ := h.2.2.2.2.2.2.2 hm
          obtain ⟨c1, c2⟩ := b1 o ho hb
          rw [if_pos m0, if_pos m0, uP_new h.2.2.2.2.2.2.1 hk hP, uP_app h.2.2.2.2.2.2.1 c1.2, pOf_cons, c2, hp hm]
          rw [way_rl (len := (t.2.2.2.1.length : Int)) (x := ((t.2.2.2.1.length : Int), k, 1 + ctT e P k t.2.2.2.1)) (y := (-1, k, 1)) b2 (fun x x1 x2 q => by have := (b3 x x1 x2).1 (by omega); omega) (fun q hq => by have := pOf_mem h.2.2.2.2.2.2.1 hP.2.2 q hq; omega) (fun q hq => by have := pOf_mem h.2.2.2.2.2.2.1 c1.2 q hq; omega) rfl rfl]
        · by_cases m1 : eO e = 1
          · have hm : PM e := Or.inr m1
            obtain ⟨b1, b2, b3⟩ := h.2.2.2.2.2.2.2 hm
            obtain ⟨c1, c2⟩ := b1 o ho hb
            rw [if_neg m0, if_neg m0, uP_app h.2.2.2.2.2.2.1 c1.2, c2, pth_rl]
          · omega
    rw [et]
    exact ha.pt
  intro n
  induction n with
  | zero =>
    intro κ s t o P k r p h ho hk hP hpr
    unfold El ElT
    by_cases q : t.2.2.2.2.2 = 1 ∨ 3000 < t.1.length
    · have qs : s.2.2.2.2 = 1 ∨ 3000 < s.1.length := by rw [h.1, h.2.1]; exact q
      rw [if_pos qs, if_pos q]
      obtain ⟨κ', R, a1, a2, a3, a4, a5, a6, a7⟩ := Sx.rf (L := fun _ _ => False) (B := t.2.2.2.1.length) h
      exact ⟨κ', R, a1, a2, a3, a4, a5, a6, fun w => absurd q w⟩
    · have qs : ¬ (s.2.2.2.2 = 1 ∨ 3000 < s.1.length) := by rw [h.1, h.2.1]; exact q
      rw [if_neg qs, if_neg q]
      by_cases w : ¬ eO e = 3 ∧ 0 < s.2.1 o
      · rw [if_pos w, if_pos ⟨w.1, (h.2.2.2.2.1 o ho).mp w.2⟩]
        exact ref κ s t o P k r p h ho hk hP w.1 w.2 (fun hm => ((hpr hm).resolve_left q).1)
      · rw [if_neg w, if_neg (fun z => w ⟨z.1, (h.2.2.2.2.1 o ho).mpr z.2⟩)]
        refine ⟨κ, [], ⟨h.1, rfl, h.2.2⟩, (List.append_nil _).symm, fun _ _ => rfl, Mo.rf, fun _ x x1 x2 => absurd x2 (by show ¬ x < (t.2.2.2.1.length : Int); omega), fun _ => Or.inl rfl, fun z => absurd (Or.inl rfl) z⟩
  | succ n ih =>
    intro κ s t o P k r p h ho hk hP hpr
    unfold El ElT
    by_cases q : t.2.2.2.2.2 = 1 ∨ 3000 < t.1.length
    · have qs : s.2.2.2.2 = 1 ∨ 3000 < s.1.length := by rw [h.1, h.2.1]; exact q
      rw [if_pos qs, if_pos q]
      obtain ⟨κ', R, a1, a2, a3, a4, a5, a6, a7⟩ := Sx.rf (L := fun _ _ => False) (B := t.2.2.2.1.length) h
      exact ⟨κ', R, a1, a2, a3, a4, a5, a6, fun w => absurd q w⟩
    · have qs : ¬ (s.2.2.2.2 = 1 ∨ 3000 < s.1.length) := by rw [h.1, h.2.1]; exact q
      rw [if_neg qs, if_neg q]
      by_cases w : ¬ eO e = 3 ∧ 0 < s.2.1 o
      · rw [if_pos w, if_pos ⟨w.1, (h.2.2.2.2.1 o ho).mp w.2⟩]
        exact ref κ s t o P k r p h ho hk hP w.1 w.2 (fun hm => ((hpr hm).resolve_left q).1)
      · have wt : ¬ (¬ eO e = 3 ∧ 0 < t.2.1 o) := fun z => w ⟨z.1, (h.2.2.2.2.1 o ho).mpr z.2⟩
        rw [if_neg w, if_neg wt]
        have hb := h.beg (r := r) (p := p) hV ho hk hP (fun z1 z2 => w ⟨z1, z2⟩) (fun hm => (hpr hm).resolve_left q)
        have tl : (bgnT (addT t P k) o t.2.2.2.1.length).2.2.2.1.length = t.2.2.2.1.length + 1 := by
          show (t.2.2.2.1 ++ [(P, k)]).length = _
          simp
        have mo : Mo e s (bgn s o (p ++ [(o, k, r)])) := bgn_mo (by
          by_cases z : eO e = 3
          · exact Or.inl z
          · exact Or.inr (fun z2 => w ⟨z, z2⟩))
        have base : ∀ l : List Int, Sx e κ s t (pt (bgn s o (p ++ [(o, k, r)])) l) (ptT (bgnT (addT t P k) o t.2.2.2.1.length) l) (fun _ _ => False) (fun P' c => if P = P' ∧ eR e k = eR e c then 1 else 0) t.2.2.2.1.length := fun l => by
          refine Sx.pt ⟨_, [(P, k)], hb, rfl, fun x hx => if_neg (by omega), mo, fun hm x x1 x2 y g hy hg z => ?_, fun z => absurd z q, fun _ P' c hP' => ?_⟩
          · rw [tl] at x2
            have z : (if x = (t.2.2.2.1.length : Int) then o else κ x) = 30 + y * 4 + g := z
            rw [if_pos (by omega)] at z
            have := okO_b hV ho
            have := okO_b hV hy
            omega
          · show ctT e P' c (t.2.2.2.1 ++ [(P, k)]) = ctT e P' c t.2.2.2.1 + (if P = P' ∧ eR e k = eR e c then (1 : Int) else 0)
            rw [ctT_app]
            show _ + ((if P = P' ∧ eR e k = eR e c then (1 : Int) else 0) + 0) = _
            omega
        have ek : t.2.2.2.2.1 = s.2.2.2.1 := h.2.2.1.symm
        cases hc : hCo e o (eF e (eK e o)).toNat 0 with
        | false =>
          rw [if_neg (show ¬ (false = true) by decide), if_neg (show ¬ (false = true) by decide)]
          have := base (sTg e o k (s.2.2.2.1 + 1) ++ [47, 62])
          unfold begT
          rw [ek, ptT_ptT]
          exact this
        | true =>
          rw [if_pos rfl, if_pos rfl]
          unfold begT
          rw [ek, ptT_ptT]
          refine Sx.pt ?_
          have hkc := hV.2.2.1 o ho
          have hF := hV.2.2.2.1 _ hkc
          have hob := okO_b hV ho
          have h3m : PM e → ¬ eO e = 3 := fun hm => by
            rcases hm with z | z <;> omega
          have hno : PM e → ¬ 0 < s.2.1 o := fun hm z => w ⟨h3m hm, z⟩
          have hio : (bgn s o (p ++ [(o, k, r)])).2.1 o = s.2.2.2.1 + 1 := by
            show (if o = o then s.2.2.2.1 + 1 else s.2.1 o) = _
            rw [if_pos rfl]
          refine Sx.wk2 (L := fun y g => y = o) ?_ (fun hm y g _ _ z => Or.inl (by rw [z]; exact hno hm))
          refine Sx.tr0 (R1 := [(P, k)]) (L1 := fun _ _ => False) (L2 := fun y g => y = o) (d1 := fun P' c => if P = P' ∧ eR e k = eR e c then 1 else 0) (d2 := fun _ _ => 0) (B1 := t.2.2.2.1.length) (B2 := t.2.2.2.1.length) (κ1 := fun x => if x = t.2.2.2.1.length then o else κ x) (t1 := ptT (bgnT (addT t P k) o t.2.2.2.1.length) (sTg e o k (s.2.2.2.1 + 1) ++ [62])) (s1 := pt (bgn s o (p ++ [(o, k, r)])) (sTg e o k (s.2.2.2.1 + 1) ++ [62])) h rfl (fun x hx => if_neg (by omega)) mo (fun hm x x1 x2 y g hy hg z => ?_) (fun z => absurd z q) (fun _ P' c hP' => ?_) ?_ (fun _ _ _ _ z => z.elim) (fun _ _ _ _ z => z) (Int.le_refl _) (Int.le_refl _) (fun P' c _ => by show _ = _ + (0 : Int); omega)
          · have x3 : x < ((bgnT (addT t P k) o t.2.2.2.1.length).2.2.2.1.length : Int) := x2
            rw [tl] at x3
            have z : (if x = (t.2.2.2.1.length : Int) then o else κ x) = 30 + y * 4 + g := z
            rw [if_pos (by omega)] at z
            have := okO_b hV hy
            omega
          · show ctT e P' c (t.2.2.2.1 ++ [(P, k)]) = ctT e P' c t.2.2.2.1 + (if P = P' ∧ eR e k = eR e c then (1 : Int) else 0)
            rw [ctT_app]
            show _ + ((if P = P' ∧ eR e k = eR e c then (1 : Int) else 0) + 0) = _
            omega
          · refine sim_cns hV hD ih ho (eF e (eK e o)).toNat 0 _ _ _ (hb.pt (l := sTg e o k (s.2.2.2.1 + 1) ++ [62])) (Int.le_refl _) (by omega) (by show 0 < (bgn s o (p ++ [(o, k, r)])).2.1 o; rw [hio]; have := h.2.2.2.1; omega) ⟨by omega, by show (t.2.2.2.1.length : Int) < ((bgnT (addT t P k) o t.2.2.2.1.length).2.2.2.1.length : Nat); omega⟩ (fun hm => ?_) (fun hm => Or.inr (fun g g1 g2 => ?_)) (fun hm x x1 x2 g g1 g2 z => ?_)
            · obtain ⟨b1, -⟩ := hb.2.2.2.2.2.2.2 hm
              have b2 := (b1 o ho (by rw [hio]; have := h.2.2.2.1; omega)).2
              have i1 : (bgn s o (p ++ [(o, k, r)])).2.2.1 o = p ++ [(o, k, r)] := by
                show (if o = o then p ++ [(o, k, r)] else s.2.2.1 o) = _
                rw [if_pos rfl]
              have i2 : (bgnT (addT t P k) o t.2.2.2.1.length).2.2.1 o = t.2.2.2.1.length := by
                show (if o = o ∧ ¬ 0 < t.2.1 o then (t.2.2.2.1.length : Int) else t.2.2.1 o) = _
                rw [if_pos ⟨rfl, fun z => hno hm ((h.2.2.2.2.1 o ho).mpr z)⟩]
              rw [i1, i2] at b2
              exact b2
            · have z0 : ∀ c, ctT e (t.2.2.2.1.length : Int) c (t.2.2.2.1 ++ [(P, k)]) = 0 := fun c => by
                rw [ctT_app, ct_new h.2.2.2.2.2.2.1]
                show 0 + ((if P = (t.2.2.2.1.length : Int) ∧ eR e k = eR e c then (1 : Int) else 0) + 0) = 0
                rw [if_neg (fun z => by have := z.1; omega)]
                rfl
              exact ⟨z0 _, fun _ _ c _ => z0 c⟩
            · have x3 : x < ((bgnT (addT t P k) o t.2.2.2.1.length).2.2.2.1.length : Int) := x2
              rw [tl] at x3
              have z : (if x = (t.2.2.2.1.length : Int) then o else κ x) = 30 + o * 4 + g := z
              by_cases zz : x = t.2.2.2.1.length
              · rw [if_pos zz] at z
                omega
              · rw [if_neg zz] at z
                obtain ⟨y, g', d1, d2, d3, d4⟩ := ((h.2.2.2.2.2.2.2 hm).2.2 x x1 (by omega)).2.2 (by omega)
                have := okO_b hV d1
                have hy : y = o := by omega
                exact hno hm (hy ▸ d4)
end SM

