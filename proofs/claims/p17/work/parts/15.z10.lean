/-! BOTH WAYS OF WRITING ARE THE SAME: ranks and keys -/
def PM (e : Env) : Prop := eO e = 0 ∨ eO e = 1
def rl (κ : Int → Int) (p : Pth) : Pth := p.map (fun q => (κ q.1, q.2))
def TV (e : Env) (t : List (Int × Int)) : Prop := ∀ x : Nat, x < t.length → okN e (nmT t x) ∧ paT t x < x ∧ -2 ≤ paT t x ∧ paT t x ≠ -1
/-- names are different -/
def DN (e : Env) : Prop := (∀ c d, okC e c → okC e d → eR e c = eR e d → c = d) ∧ (∀ c f g, okF e c f → okF e c g → eR e (6 + c * 4 + f) = eR e (6 + c * 4 + g) → f = g) ∧ (∀ c g f d, okF e c g → eD e c g = 3 → eM e c g = 1 → okF e c f → okC e d → ¬ eR e (6 + c * 4 + f) = eR e d) ∧ ∀ c f g, okF e c f → okF e c g → eD e c f = 3 → eM e c f = 1 → eD e c g = 3 → eM e c g = 1 → f = g
theorem getD_appL {t R : List (Int × Int)} {x : Nat} (h : x < t.length) : (t ++ R).getD x (-2, 0) = t.getD x (-2, 0) := by
  rw [List.getD_eq_getElem?_getD, List.getElem?_append_left h, ← List.getD_eq_getElem?_getD]
theorem pnr_app {e : Env} {t R : List (Int × Int)} {x : Int} (h0 : 0 ≤ x) (h : x < t.length) : paT (t ++ R) x = paT t x ∧ nmT (t ++ R) x = nmT t x ∧ rkT e (t ++ R) x = rkT e t x := by
  have hx : x.toNat < t.length := by omega
  have h1 : paT (t ++ R) x = paT t x := by
    unfold paT
    rw [getD_appL hx]
  have h2 : nmT (t ++ R) x = nmT t x := by
    unfold nmT
    rw [getD_appL hx]
  refine ⟨h1, h2, ?_⟩
  unfold rkT
  rw [h1, h2, List.take_append_of_le_length (by omega)]
theorem TV.at {e : Env} {t : List (Int × Int)} (h : TV e t) {x : Int} (h0 : 0 ≤ x) (h1 : x < t.length) : okN e (nmT t x) ∧ paT t x < x ∧ -2 ≤ paT t x ∧ paT t x ≠ -1 := by
  have := h x.toNat (by omega)
  rw [Int.toNat_of_nonneg h0] at this
  exact this
theorem ups_app {e : Env} {t R : List (Int × Int)} (hT : TV e t) : ∀ (n : Nat) (x : Int), x < t.length → ups e (t ++ R) n x = ups e t n x
  | 0, x, h => rfl
  | n + 1, x, h => by
    unfold ups
    by_cases q : x < 0
    · rw [if_pos q, if_pos q]
    · have g := pnr_app (e := e) (R := R) (show 0 ≤ x by omega) h
      have hv := hT.at (show 0 ≤ x by omega) h
      rw [if_neg q, if_neg q, g.1, g.2.1, g.2.2, ups_app hT n _ (by omega)]
theorem ups_fu {e : Env} {t : List (Int × Int)} (hT : TV e t) : ∀ (n m : Nat) (x : Int), x < t.length → x + 1 ≤ n → x + 1 ≤ m → ups e t n x = ups e t m x
  | 0, 0, x, _, _, _ => rfl
  | 0, m + 1, x, _, h, _ => by
    unfold ups
    rw [if_pos (by omega)]
  | n + 1, 0, x, _, _, h => by
    unfold ups
    rw [if_pos (by omega)]
  | n + 1, m + 1, x, h, h1, h2 => by
    unfold ups
    by_cases q : x < 0
    · rw [if_pos q, if_pos q]
    · have hv := hT.at (show 0 ≤ x by omega) h
      rw [if_neg q, if_neg q, ups_fu hT n m _ (by omega) (by omega) (by omega)]
theorem uP_app {e : Env} {t R : List (Int × Int)} (hT : TV e t) {x : Int} (h : x < t.length) : uP e (t ++ R) x = uP e t x := ups_app hT _ _ h
theorem TV.snoc {e : Env} {t : List (Int × Int)} {P k : Int} (hT : TV e t) (hk : okN e k) (hP : -2 ≤ P ∧ P ≠ -1 ∧ P < t.length) : TV e (t ++ [(P, k)]) := fun x hx => by
  have hl : (t ++ [(P, k)]).length = t.length + 1 := by simp
  rw [hl] at hx
  by_cases q : x < t.length
  · have g := paT_app (e := e) (q := (P, k)) q
    rw [g.1, g.2.1]
    exact hT x q
  · have e1 : x = t.length := by omega
    subst e1
    have g := paT_new (e := e) (t := t) (q := (P, k))
    rw [g.1, g.2.1]
    exact ⟨hk, hP.2.2, hP.1, hP.2.1⟩
theorem uP_new {e : Env} {t : List (Int × Int)} {P k : Int} (hT : TV e t) (hk : okN e k) (hP : -2 ≤ P ∧ P ≠ -1 ∧ P < t.length) : uP e (t ++ [(P, k)]) (t.length : Int) = ((t.length : Int), (t.length : Int), k, 1 + ctT e P k t) :: uP e t P := by
  have g := paT_new (e := e) (t := t) (q := (P, k))
  have hT2 := hT.snoc hk hP
  unfold uP
  rw [show ((t.length : Int) + 1).toNat = t.length + 1 by omega]
  conv => lhs; unfold ups
  rw [if_neg (by omega), g.1, g.2.1, g.2.2, ups_fu hT2 t.length (P + 1).toNat P (by rw [List.length_append]; omega) (by omega) (by omega), ups_app hT _ _ hP.2.2]
theorem ups_mem {e : Env} {t : List (Int × Int)} (hT : TV e t) : ∀ (n : Nat) (x : Int), x < t.length → ∀ q ∈ ups e t n x, 0 ≤ q.1 ∧ q.1 ≤ x ∧ q.2.1 = q.1
  | 0, x, _, q, h => by cases h
  | n + 1, x, hx, q, h => by
    unfold ups at h
    by_cases r : x < 0
    · rw [if_pos r] at h
      cases h
    · rw [if_neg r] at h
      have hv := hT.at (show 0 ≤ x by omega) hx
      rcases List.mem_cons.mp h with rfl | h
      · exact ⟨by omega, Int.le_refl _, rfl⟩
      · have := ups_mem hT n _ (by omega) q h
        exact ⟨this.1, by omega, this.2.2⟩
theorem pOf_mem {e : Env} {t : List (Int × Int)} (hT : TV e t) {x : Int} (hx : x < t.length) : ∀ q ∈ pOf (uP e t x), 0 ≤ q.1 ∧ q.1 ≤ x := fun q hq => by
  unfold pOf at hq
  obtain ⟨a, ha, rfl⟩ := List.mem_map.mp (List.mem_reverse.mp hq)
  have := ups_mem hT _ _ hx a ha
  rw [this.2.2]
  exact ⟨this.1, this.2.1⟩
theorem pOf_cons {q : Int × Int × Int × Int} {u : Upl} : pOf (q :: u) = pOf u ++ [q.2] := by
  unfold pOf
  simp
theorem rl_eq {κ κ' : Int → Int} {p : Pth} (h : ∀ q ∈ p, κ' q.1 = κ q.1) : rl κ' p = rl κ p := List.map_congr_left (fun q hq => by rw [h q hq])
theorem rl_app {κ : Int → Int} {p q : Pth} : rl κ (p ++ q) = rl κ p ++ rl κ q := List.map_append
theorem rl_len {κ : Int → Int} {p : Pth} : (rl κ p).length = p.length := List.length_map _
theorem pth_rl {e : Env} {κ : Int → Int} {p : Pth} : pth e (rl κ p) = pth e p := by
  unfold pth rl
  rw [List.flatMap_map]
  rfl
theorem shr_cg : ∀ {a b a' b' : Pth}, a'.length = a.length → b'.length = b.length → (∀ m, m < a.length → m < b.length → ((a.getD m (0, 0, 0)).1 = (b.getD m (0, 0, 0)).1 ↔ (a'.getD m (0, 0, 0)).1 = (b'.getD m (0, 0, 0)).1)) → shr a' b' = shr a b
  | [], b, a', b', h1, h2, h => by
    have : a' = [] := List.eq_nil_of_length_eq_zero h1
    subst this
    rfl
  | x :: a, [], a', b', h1, h2, h => by
    have : b' = [] := List.eq_nil_of_length_eq_zero h2
    subst this
    cases a' <;> rfl
  | x :: a, y :: b, a', b', h1, h2, h => by
    cases a' with
    | nil => simp at h1
    | cons x' a' =>
      cases b' with
      | nil => simp at h2
      | cons y' b' =>
        have h0 := h 0 (by simp) (by simp)
        have ih := shr_cg (a := a) (b := b) (a' := a') (b' := b') (by simpa using h1) (by simpa using h2) (fun m m1 m2 => h (m + 1) (by simp; omega) (by simp; omega))
        have h0' : x.1 = y.1 ↔ x'.1 = y'.1 := h0
        unfold shr
        rw [ih]
        by_cases q : x.1 = y.1
        · rw [if_pos q, if_pos (h0'.mp q)]
        · rw [if_neg q, if_neg (fun r => q (h0'.mpr r))]
theorem way_rl {e : Env} {κ : Int → Int} {a w : Pth} {x y : Int × Int × Int} {len : Int} (hκ : ∀ x y : Int, 0 ≤ x → x < len → 0 ≤ y → y < len → κ x = κ y → x = y) (h1 : ∀ x : Int, 0 ≤ x → x < len → κ x ≠ -1) (ha : ∀ q ∈ a, 0 ≤ q.1 ∧ q.1 < len) (hw : ∀ q ∈ w, 0 ≤ q.1 ∧ q.1 < len) (hx : x.1 = len) (hy : y.1 = -1) : way e (rl κ a ++ [y]) (rl κ w) = way e (a ++ [x]) w := by
  have hs : shr (rl κ a ++ [y]) (rl κ w) = shr (a ++ [x]) w := by
    refine shr_cg (by simp [rl_len]) rl_len (fun m m1 m2 => ?_)
    have hwm : w.getD m (0, 0, 0) ∈ w := by
      rw [List.getD_eq_getElem?_getD, List.getElem?_eq_getElem m2]
      exact List.getElem_mem m2
    have ew : ((rl κ w).getD m (0, 0, 0)).1 = κ (w.getD m (0, 0, 0)).1 := by
      unfold rl
      rw [List.getD_eq_getElem?_getD, List.getElem?_map, List.getD_eq_getElem?_getD, List.getElem?_eq_getElem m2]
      rfl
    have hw2 := hw _ hwm
    by_cases q : m < a.length
    · have ham : a.getD m (0, 0, 0) ∈ a := by
        rw [List.getD_eq_getElem?_getD, List.getElem?_eq_getElem q]
        exact List.getElem_mem q
      have e1 : ((a ++ [x]).getD m (0, 0, 0)) = a.getD m (0, 0, 0) := by
        rw [List.getD_eq_getElem?_getD, List.getElem?_append_left q, ← List.getD_eq_getElem?_getD]
      have e2 : ((rl κ a ++ [y]).getD m (0, 0, 0)).1 = κ (a.getD m (0, 0, 0)).1 := by
        rw [List.getD_eq_getElem?_getD, List.getElem?_append_left (by rw [rl_len]; exact q)]
        unfold rl
        rw [List.getElem?_map, List.getD_eq_getElem?_getD, List.getElem?_eq_getElem q]
        rfl
      have ha2 := ha _ ham
      rw [e1, e2, ew]
      exact ⟨fun r => by rw [r], fun r => hκ _ _ ha2.1 ha2.2 hw2.1 hw2.2 r⟩
    · have e0 : m = a.length := by simp at m1; omega
      have e1 : (a ++ [x]).getD m (0, 0, 0) = x := by
        rw [List.getD_eq_getElem?_getD, List.getElem?_append_right (by omega), e0]
        simp
      have e2 : (rl κ a ++ [y]).getD m (0, 0, 0) = y := by
        rw [List.getD_eq_getElem?_getD, List.getElem?_append_right (by rw [rl_len]; omega), rl_len, e0]
        simp
      rw [e1, e2, ew, hx, hy]
      exact ⟨fun r => by omega, fun r => absurd r.symm (h1 _ hw2.1 hw2.2)⟩
  unfold way
  rw [hs]
  have hl : (rl κ a ++ [y]).length = (a ++ [x]).length := by simp [rl_len]
  rw [hl]
  have hd : (rl κ w).drop (shr (a ++ [x]) w) = rl κ (w.drop (shr (a ++ [x]) w)) := by
    unfold rl
    rw [List.map_drop]
  rw [hd, pth_rl]
/-- both states say the same -/
def RT (e : Env) (κ : Int → Int) (s : Ws) (t : Wt) : Prop := s.1 = t.1 ∧ s.2.2.2.2 = t.2.2.2.2.2 ∧ s.2.2.2.1 = t.2.2.2.2.1 ∧ 0 ≤ s.2.2.2.1 ∧ (∀ o, okO e o → (0 < s.2.1 o ↔ 0 < t.2.1 o)) ∧ (¬ eO e = 3 → ∀ o, okO e o → s.2.1 o = t.2.1 o) ∧ TV e t.2.2.2.1 ∧ (PM e → (∀ o, okO e o → 0 < s.2.1 o → (0 ≤ t.2.2.1 o ∧ t.2.2.1 o < t.2.2.2.1.length) ∧ s.2.2.1 o = rl κ (pOf (uP e t.2.2.2.1 (t.2.2.1 o)))) ∧ (∀ x y : Int, 0 ≤ x → x < t.2.2.2.1.length → 0 ≤ y → y < t.2.2.2.1.length → κ x = κ y → x = y) ∧ (∀ x : Int, 0 ≤ x → x < t.2.2.2.1.length → (κ x < 0 → κ x = -2 - x) ∧ (0 ≤ κ x → κ x < 30 → 0 < s.2.1 (κ x)) ∧ (30 ≤ κ x → ∃ o g, okO e o ∧ iv 0 3 g ∧ κ x = 30 + o * 4 + g ∧ 0 < s.2.1 o)))
theorem RT.pt {e : Env} {κ : Int → Int} {s : Ws} {t : Wt} {l : List Int} (h : RT e κ s t) : RT e κ (pt s l) (ptT t l) := ⟨by show s.1 ++ l = t.1 ++ l; rw [h.1], h.2⟩
/-- an element more, that is no object's -/
theorem RT.add {e : Env} {κ : Int → Int} {s : Ws} {t : Wt} {P k key : Int} (h : RT e κ s t) (hk : okN e k) (hP : -2 ≤ P ∧ P ≠ -1 ∧ P < t.2.2.2.1.length) (h1 : PM e → (key < 0 → key = -2 - t.2.2.2.1.length) ∧ (key < 0 ∨ 30 ≤ key) ∧ (∀ x : Int, 0 ≤ x → x < t.2.2.2.1.length → κ x ≠ key) ∧ (30 ≤ key → ∃ o g, okO e o ∧ iv 0 3 g ∧ key = 30 + o * 4 + g ∧ 0 < s.2.1 o)) : RT e (fun x => if x = t.2.2.2.1.length then key else κ x) s (addT t P k) := by
  obtain ⟨a1, a2, a3, a4, a5, a6, a7, a8⟩ := h
  have hl : (addT t P k).2.2.2.1.length = t.2.2.2.1.length + 1 := by
    show (t.2.2.2.1 ++ [(P, k)]).length = _
    simp
  refine ⟨a1, a2, a3, a4, a5, a6, a7.snoc hk hP, fun hm => ?_⟩
  obtain ⟨b1, b2, b3⟩ := a8 hm
  obtain ⟨k1, k2, k3, k4⟩ := h1 hm
  rw [hl]
  refine ⟨fun o ho hb => ?_, fun x y x1 x2 y1 y2 q => ?_, fun x x1 x2 => ?_⟩
  · obtain ⟨c1, c2⟩ := b1 o ho hb
    refine ⟨⟨c1.1, by show t.2.2.1 o < _; omega⟩, ?_⟩
    show s.2.2.1 o = rl _ (pOf (uP e (t.2.2.2.1 ++ [(P, k)]) (t.2.2.1 o)))
    rw [uP_app a7 c1.2, c2]
    refine (rl_eq (fun q hq => ?_)).symm
    have := pOf_mem a7 c1.2 q hq
    rw [if_neg (by omega)]
  · dsimp only at q
    by_cases r1 : x = t.2.2.2.1.length
    · by_cases r2 : y = t.2.2.2.1.length
      · omega
      · rw [if_pos r1, if_neg r2] at q
        exact absurd q.symm (k3 y y1 (by omega))
    · by_cases r2 : y = t.2.2.2.1.length
      · rw [if_neg r1, if_pos r2] at q
        exact absurd q (k3 x x1 (by omega))
      · rw [if_neg r1, if_neg r2] at q
        exact b2 x y x1 (by omega) y1 (by omega) q
  · dsimp only
    by_cases r1 : x = t.2.2.2.1.length
    · rw [if_pos r1]
      exact ⟨fun w => by have := k1 w; omega, fun g1 g2 => by omega, k4⟩
    · rw [if_neg r1]
      exact b3 x x1 (by omega)
/-- an object is begun -/
theorem RT.beg {e : Env} {κ : Int → Int} {s : Ws} {t : Wt} {o P k r : Int} {p : Pth} (hV : EV e) (h : RT e κ s t) (ho : okO e o) (hk : okN e k) (hP : -2 ≤ P ∧ P ≠ -1 ∧ P < t.2.2.2.1.length) (hnb : ¬ eO e = 3 → ¬ 0 < s.2.1 o) (hp : PM e → p = rl κ (pOf (uP e t.2.2.2.1 P)) ∧ r = 1 + ctT e P k t.2.2.2.1) : RT e (fun x => if x = t.2.2.2.1.length then o else κ x) (bgn s o (p ++ [(o, k, r)])) (bgnT (addT t P k) o t.2.2.2.1.length) := by
  obtain ⟨a1, a2, a3, a4, a5, a6, a7, a8⟩ := h
  have hob := okO_b hV ho
  have hl : (bgnT (addT t P k) o t.2.2.2.1.length).2.2.2.1.length = t.2.2.2.1.length + 1 := by
    show (t.2.2.2.1 ++ [(P, k)]).length = _
    simp
  have i1 : ∀ y, (bgn s o (p ++ [(o, k, r)])).2.1 y = if y = o then s.2.2.2.1 + 1 else s.2.1 y := fun y => rfl
  have i2 : ∀ y, (bgnT (addT t P k) o t.2.2.2.1.length).2.1 y = if y = o ∧ ¬ 0 < t.2.1 o then t.2.2.2.2.1 + 1 else t.2.1 y := fun y => rfl
  refine ⟨a1, a2, by show s.2.2.2.1 + 1 = t.2.2.2.2.1 + 1; omega, by show 0 ≤ s.2.2.2.1 + 1; omega, fun y hy => ?_, fun hm y hy => ?_, a7.snoc hk hP, fun hm => ?_⟩
  · rw [i1, i2]
    by_cases q : y = o
    · rw [if_pos q]
      by_cases q2 : 0 < t.2.1 o
      · rw [if_neg (fun w => w.2 q2), q]
        exact ⟨fun _ => q2, fun _ => by omega⟩
      · rw [if_pos ⟨q, q2⟩]
        omega
    · rw [if_neg q, if_neg (fun w => q w.1)]
      exact a5 y hy
  · rw [i1, i2]
    by_cases q : y = o
    · have q2 : ¬ 0 < t.2.1 o := fun w => hnb hm ((a5 o ho).mpr w)
      rw [if_pos q, if_pos ⟨q, q2⟩]
      omega
    · rw [if_neg q, if_neg (fun w => q w.1)]
      exact a6 hm y hy
  · have hm3 : ¬ eO e = 3 := by
      rcases hm with w | w <;> omega
    have hno := hnb hm3
    have hnt : ¬ 0 < t.2.1 o := fun w => hno ((a5 o ho).mpr w)
    obtain ⟨b1, b2, b3⟩ := a8 hm
    obtain ⟨p1, p2⟩ := hp hm
    have fresh : ∀ x : Int, 0 ≤ x → x < t.2.2.2.1.length → κ x ≠ o := fun x x1 x2 w => hno (w ▸ (b3 x x1 x2).2.1 (by omega) (by omega))
    rw [hl]
    refine ⟨fun y hy hb => ?_, fun x y x1 x2 y1 y2 q => ?_, fun x x1 x2 => ?_⟩
    · show (0 ≤ (if y = o ∧ ¬ 0 < t.2.1 o then (t.2.2.2.1.length : Int) else t.2.2.1 y) ∧ (if y = o ∧ ¬ 0 < t.2.1 o then (t.2.2.2.1.length : Int) else t.2.2.1 y) < ((t.2.2.2.1.length + 1 : Nat) : Int)) ∧ (if y = o then p ++ [(o, k, r)] else s.2.2.1 y) = rl _ (pOf (uP e (t.2.2.2.1 ++ [(P, k)]) (if y = o ∧ ¬ 0 < t.2.1 o then (t.2.2.2.1.length : Int) else t.2.2.1 y)))
      by_cases q : y = o
      · rw [if_pos ⟨q, hnt⟩, if_pos q, uP_new a7 hk hP, pOf_cons, rl_app]
        refine ⟨⟨by omega, by omega⟩, ?_⟩
        have e1 : rl (fun x => if x = (t.2.2.2.1.length : Int) then o else κ x) (pOf (uP e t.2.2.2.1 P)) = p := by
          rw [p1]
          refine rl_eq (fun z hz => ?_)
          have := pOf_mem a7 hP.2.2 z hz
          rw [if_neg (by omega)]
        rw [e1, p2]
        congr 1
        show [(o, k, 1 + ctT e P k t.2.2.2.1)] = [((if (t.2.2.2.1.length : Int) = t.2.2.2.1.length then o else κ (t.2.2.2.1.length : Int)), k, 1 + ctT e P k t.2.2.2.1)]
        rw [if_pos rfl]
      · rw [if_neg (fun w => q w.1), if_neg q]
        rw [i1, if_neg q] at hb
        obtain ⟨c1, c2⟩ := b1 y hy hb
        refine ⟨⟨c1.1, by omega⟩, ?_⟩
        rw [uP_app a7 c1.2, c2]
        refine (rl_eq (fun z hz => ?_)).symm
        have := pOf_mem a7 c1.2 z hz
        rw [if_neg (by omega)]
    · dsimp only at q
      by_cases r1 : x = t.2.2.2.1.length
      · by_cases r2 : y = t.2.2.2.1.length
        · omega
        · rw [if_pos r1, if_neg r2] at q
          exact absurd q.symm (fresh y y1 (by omega))
      · by_cases r2 : y = t.2.2.2.1.length
        · rw [if_neg r1, if_pos r2] at q
          exact absurd q (fresh x x1 (by omega))
        · rw [if_neg r1, if_neg r2] at q
          exact b2 x y x1 (by omega) y1 (by omega) q
    · dsimp only
      have up : ∀ z, 0 < s.2.1 z → 0 < (bgn s o (p ++ [(o, k, r)])).2.1 z := fun z hz => by
        rw [i1]
        split
        · omega
        · exact hz
      by_cases r1 : x = t.2.2.2.1.length
      · rw [if_pos r1]
        refine ⟨fun w => by omega, fun g1 g2 => ?_, fun g1 => by omega⟩
        rw [i1, if_pos rfl]
        omega
      · rw [if_neg r1]
        obtain ⟨c1, c2, c3⟩ := b3 x x1 (by omega)
        refine ⟨c1, fun g1 g2 => up _ (c2 g1 g2), fun g1 => ?_⟩
        obtain ⟨y, g, d1, d2, d3, d4⟩ := c3 g1
        exact ⟨y, g, d1, d2, d3, up _ d4⟩

