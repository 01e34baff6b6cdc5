/-! BOTH WAYS OF WRITING ARE THE SAME: by the depth -/
def stopT (t : Wt) : Prop := t.2.2.2.2.2 = 1 ∨ 3000 < t.1.length
theorem stop_of {s t : Wt} (h : St3 s t) (k : Dp3 s t) (q : stopT s) : stopT t := by
  rcases q with q | q
  · exact Or.inl (k q)
  · exact Or.inr (h q).1
theorem ctT_app {e : Env} {P c : Int} : ∀ {a b : List (Int × Int)}, ctT e P c (a ++ b) = ctT e P c a + ctT e P c b
  | [], b => by
    show ctT e P c b = 0 + ctT e P c b
    omega
  | q :: a, b => by
    show (if q.1 = P ∧ eR e q.2 = eR e c then 1 else 0) + ctT e P c (a ++ b) = (if q.1 = P ∧ eR e q.2 = eR e c then 1 else 0) + ctT e P c a + ctT e P c b
    rw [ctT_app]
    omega
theorem ctT_0 {e : Env} {P c : Int} : ∀ {a : List (Int × Int)}, (∀ q ∈ a, q.1 ≠ P) → ctT e P c a = 0
  | [], _ => rfl
  | q :: a, h => by
    show (if q.1 = P ∧ eR e q.2 = eR e c then 1 else 0) + ctT e P c a = 0
    rw [if_neg (fun r => h q (List.mem_cons_self ..) r.1), ctT_0 (fun z hz => h z (List.mem_cons_of_mem _ hz))]
    rfl
/-- what a piece of writing does to the table: nothing is taken away; new keys of lists are of objects that were not begun, or as L says; how often a name stands below a parent grows by d, unless the writing has stopped -/
def Sx (e : Env) (κ : Int → Int) (s : Ws) (t : Wt) (s' : Ws) (t' : Wt) (L : Int → Int → Prop) (d : Int → Int → Int) (B : Int) : Prop := ∃ (κ' : Int → Int) (R : List (Int × Int)), RT e κ' s' t' ∧ t'.2.2.2.1 = t.2.2.2.1 ++ R ∧ (∀ x : Int, x < t.2.2.2.1.length → κ' x = κ x) ∧ Mo e s s' ∧ (PM e → ∀ x : Int, t.2.2.2.1.length ≤ x → x < t'.2.2.2.1.length → ∀ y g, okO e y → iv 0 3 g → κ' x = 30 + y * 4 + g → ¬ 0 < s.2.1 y ∨ L y g) ∧ (stopT t → stopT t') ∧ (¬ stopT t' → ∀ P c, P < B → ctT e P c t'.2.2.2.1 = ctT e P c t.2.2.2.1 + d P c)
theorem Sx.rf {e : Env} {κ : Int → Int} {s : Ws} {t : Wt} {B : Int} (h : RT e κ s t) {L : Int → Int → Prop} : Sx e κ s t s t L (fun _ _ => 0) B := ⟨κ, [], h, (List.append_nil _).symm, fun _ _ => rfl, Mo.rf, fun _ x x1 x2 => absurd x2 (by omega), fun q => q, fun _ P c _ => by show ctT e P c t.2.2.2.1 = ctT e P c t.2.2.2.1 + (0 : Int); omega⟩
theorem Sx.pt {e : Env} {κ : Int → Int} {s : Ws} {t : Wt} {s1 : Ws} {t1 : Wt} {L : Int → Int → Prop} {d : Int → Int → Int} {l : List Int} {B : Int} (h : Sx e κ s t s1 t1 L d B) : Sx e κ s t (pt s1 l) (ptT t1 l) L d B := by
  obtain ⟨κ', R, h1, h2, h3, h4, h5, h6, h7⟩ := h
  have up : stopT t1 → stopT (ptT t1 l) := fun q => by
    rcases q with q | q
    · exact Or.inl q
    · refine Or.inr ?_
      show 3000 < (t1.1 ++ l).length
      rw [List.length_append]
      omega
  exact ⟨κ', R, h1.pt, h2, h3, h4, h5, fun q => up (h6 q), fun q => h7 (fun r => q (up r))⟩
theorem Sx.tr0 {e : Env} {κ κ1 : Int → Int} {R1 : List (Int × Int)} {s s2 : Ws} {t t2 : Wt} {s1 : Ws} {t1 : Wt} {L L1 L2 : Int → Int → Prop} {d d1 d2 : Int → Int → Int} {B B1 B2 : Int} (hs : RT e κ s t) (h2 : t1.2.2.2.1 = t.2.2.2.1 ++ R1) (h3 : ∀ x : Int, x < t.2.2.2.1.length → κ1 x = κ x) (h4 : Mo e s s1) (h5 : PM e → ∀ x : Int, t.2.2.2.1.length ≤ x → x < t1.2.2.2.1.length → ∀ y g, okO e y → iv 0 3 g → κ1 x = 30 + y * 4 + g → ¬ 0 < s.2.1 y ∨ L1 y g) (h6 : stopT t → stopT t1) (h7 : ¬ stopT t1 → ∀ P c, P < B1 → ctT e P c t1.2.2.2.1 = ctT e P c t.2.2.2.1 + d1 P c) (k : Sx e κ1 s1 t1 s2 t2 L2 d2 B2) (hL1 : ∀ y g, okO e y → iv 0 3 g → L1 y g → L y g) (hL2 : ∀ y g, okO e y → iv 0 3 g → L2 y g → L y g) (hB1 : B ≤ B1) (hB2 : B ≤ B2) (hd : ∀ P c, P < B → d P c = d1 P c + d2 P c) : Sx e κ s t s2 t2 L d B := by
  obtain ⟨κ2, R2, k1, k2, k3, k4, k5, k6, k7⟩ := k
  have hl : t.2.2.2.1.length ≤ t1.2.2.2.1.length := by rw [h2, List.length_append]; omega
  refine ⟨κ2, R1 ++ R2, k1, by rw [k2, h2, List.append_assoc], fun x hx => (k3 x (by omega)).trans (h3 x hx), h4.tr k4, fun hm x x1 x2 y g hy hg q => ?_, fun q => k6 (h6 q), fun q P c hP => ?_⟩
  · by_cases r : x < t1.2.2.2.1.length
    · rw [k3 x r] at q
      exact (h5 hm x x1 r y g hy hg q).imp (fun w => w) (hL1 y g hy hg)
    · rcases k5 hm x (by omega) x2 y g hy hg q with w | w
      · exact Or.inl (fun z => w ((h4.2 y hs.2.2.2.1 z).1))
      · exact Or.inr (hL2 y g hy hg w)
  · rw [k7 q P c (by omega), h7 (fun w => q (k6 w)) P c (by omega), hd P c hP]
    omega
theorem Sx.tr {e : Env} {κ : Int → Int} {s s2 : Ws} {t t2 : Wt} {s1 : Ws} {t1 : Wt} {L L1 L2 : Int → Int → Prop} {d d1 d2 : Int → Int → Int} {B B1 B2 : Int} (hs : RT e κ s t) (h : Sx e κ s t s1 t1 L1 d1 B1) (k : ∀ κ1, RT e κ1 s1 t1 → (∀ x : Int, x < t.2.2.2.1.length → κ1 x = κ x) → (PM e → ∀ x : Int, t.2.2.2.1.length ≤ x → x < t1.2.2.2.1.length → ∀ y g, okO e y → iv 0 3 g → κ1 x = 30 + y * 4 + g → ¬ 0 < s.2.1 y ∨ L1 y g) → (¬ stopT t1 → ∀ P c, P < B1 → ctT e P c t1.2.2.2.1 = ctT e P c t.2.2.2.1 + d1 P c) → (∃ R, t1.2.2.2.1 = t.2.2.2.1 ++ R) → Mo e s s1 → Sx e κ1 s1 t1 s2 t2 L2 d2 B2) (hL1 : ∀ y g, okO e y → iv 0 3 g → L1 y g → L y g) (hL2 : ∀ y g, okO e y → iv 0 3 g → L2 y g → L y g) (hB1 : B ≤ B1) (hB2 : B ≤ B2) (hd : ∀ P c, P < B → d P c = d1 P c + d2 P c) : Sx e κ s t s2 t2 L d B := by
  obtain ⟨κ1, R1, h1, h2, h3, h4, h5, h6, h7⟩ := h
  exact Sx.tr0 hs h2 h3 h4 h5 h6 h7 (k κ1 h1 h3 h5 h7 ⟨R1, h2⟩ h4) hL1 hL2 hB1 hB2 hd
def cnR (e : Env) (o f c : Int) : Nat → Int → Int
  | 0, _ => 0
  | n + 1, j => (if eR e (eK e (eP e o f j)) = eR e c then 1 else 0) + cnR e o f c n (j + 1)
theorem cnR_0 {e : Env} {o f c : Int} (hV : EV e) (hc : ∀ d, okC e d → ¬ eR e c = eR e d) : ∀ (n : Nat) (j : Int), (∀ i, j ≤ i → i < j + n → okO e (eP e o f i)) → cnR e o f c n j = 0
  | 0, _, _ => rfl
  | n + 1, j, h => by
    have h0 := h j (Int.le_refl _) (by omega)
    show (if eR e (eK e (eP e o f j)) = eR e c then (1 : Int) else 0) + cnR e o f c n (j + 1) = 0
    rw [cnR_0 hV hc n (j + 1) (fun i i1 i2 => h i (by omega) (by omega)), if_neg (fun r => hc _ (hV.2.2.1 _ h0) r.symm)]
    rfl
theorem cnF_snoc {e : Env} {o f c : Int} : ∀ (n : Nat) (j : Int), cnF e o f c (n + 1) j = cnF e o f c n j + (if eK e (eP e o f (j + n)) = c then 1 else 0)
  | 0, j => by
    show (if eK e (eP e o f j) = c then (1 : Int) else 0) + 0 = 0 + (if eK e (eP e o f (j + (0 : Nat))) = c then 1 else 0)
    rw [show j + ((0 : Nat) : Int) = j by omega]
    omega
  | n + 1, j => by
    have ih := cnF_snoc (e := e) (o := o) (f := f) (c := c) n (j + 1)
    show (if eK e (eP e o f j) = c then (1 : Int) else 0) + cnF e o f c (n + 1) (j + 1) = (if eK e (eP e o f j) = c then 1 else 0) + cnF e o f c n (j + 1) + (if eK e (eP e o f (j + ((n + 1 : Nat) : Int))) = c then 1 else 0)
    rw [ih, show j + 1 + (n : Int) = j + ((n + 1 : Nat) : Int) by omega]
    omega
def SimE (e : Env) (n : Nat) : Prop := ∀ (κ : Int → Int) (s : Ws) (t : Wt) (o P k r : Int) (p : Pth), RT e κ s t → okO e o → okN e k → (-2 ≤ P ∧ P ≠ -1 ∧ P < t.2.2.2.1.length) → (PM e → stopT t ∨ (p = rl κ (pOf (uP e t.2.2.2.1 P)) ∧ r = 1 + ctT e P k t.2.2.2.1)) → Sx e κ s t (El e n o p k r s) (ElT e n o P k t) (fun _ _ => False) (fun P' c => if P = P' ∧ eR e k = eR e c then 1 else 0) t.2.2.2.1.length
theorem sim_its {e : Env} (hV : EV e) (hD : DN e) {n : Nat} (hn : SimE e n) {o f P : Int} {p : Pth} : ∀ (m : Nat) (i : Int) (κ : Int → Int) (s : Ws) (t : Wt), RT e κ s t → 0 ≤ i → (∀ j, 0 ≤ j → j < i + m → okO e (eP e o f j)) → (0 ≤ P ∧ P < t.2.2.2.1.length) → (PM e → stopT t ∨ (p = rl κ (pOf (uP e t.2.2.2.1 P)) ∧ ∀ c, okC e c → ctT e P c t.2.2.2.1 = cnF e o f c i.toNat 0)) → Sx e κ s t (its e (El e n) o f p m i s) (itsT e (ElT e n) o f P m i t) (fun _ _ => False) (fun P' c => if P = P' then cnR e o f c m i else 0) t.2.2.2.1.length
  | 0, i, κ, s, t, h, _, _, _, _ => by
    have := Sx.rf (L := fun _ _ => False) (B := t.2.2.2.1.length) h
    obtain ⟨κ', R, a1, a2, a3, a4, a5, a6, a7⟩ := this
    refine ⟨κ', R, a1, a2, a3, a4, a5, a6, fun q P' c hP => ?_⟩
    show ctT e P' c t.2.2.2.1 = ctT e P' c t.2.2.2.1 + (if P = P' then (0 : Int) else 0)
    split <;> omega
  | m + 1, i, κ, s, t, h, hi, ho, hP, hc => by
    have hoi := ho i hi (by omega)
    have hck := hV.2.2.1 _ hoi
    have h1 := hn κ s t (eP e o f i) P (eK e (eP e o f i)) (rnk e o f i) p h hoi (Or.inl hck) ⟨by omega, by omega, hP.2⟩ (fun hm => (hc hm).imp (fun w => w) (fun w => ⟨w.1, by
      rw [w.2 _ hck]
      unfold rnk
      rw [show (i + 1).toNat = i.toNat + 1 by omega, cnF_snoc, if_pos (by rw [show (0 : Int) + (i.toNat : Int) = i by omega])]
      omega⟩))
    refine Sx.tr h h1 (d2 := fun P' c => if P = P' then cnR e o f c m (i + 1) else 0) (L2 := fun _ _ => False) (B2 := (ElT e n (eP e o f i) P (eK e (eP e o f i)) t).2.2.2.1.length) (fun κ1 g1 g2 g3 g4 g5 g6 => ?_) (fun _ _ _ _ w => w) (fun _ _ _ _ w => w) (Int.le_refl _) (by obtain ⟨κ', R, -, hR, -⟩ := h1; rw [hR, List.length_append]; omega) (fun P' c _ => ?_)
    · obtain ⟨R, hR⟩ := g5
      have hl : t.2.2.2.1.length ≤ (ElT e n (eP e o f i) P (eK e (eP e o f i)) t).2.2.2.1.length := by rw [hR, List.length_append]; omega
      refine sim_its hV hD hn m (i + 1) κ1 _ _ g1 (by omega) (fun j j1 j2 => ho j j1 (by omega)) ⟨hP.1, by omega⟩ (fun hm => ?_)
      · by_cases q : stopT (ElT e n (eP e o f i) P (eK e (eP e o f i)) t)
        · exact Or.inl q
        · have hc2 := (hc hm).resolve_left (fun w => q (stop_of ElT_st ElT_dp w))
          refine Or.inr ⟨?_, fun c hcc => ?_⟩
          · rw [hR, uP_app h.2.2.2.2.2.2.1 hP.2, hc2.1]
            refine (rl_eq (fun z hz => ?_)).symm
            have := pOf_mem h.2.2.2.2.2.2.1 hP.2 z hz
            exact g2 _ (by omega)
          rw [g4 q P c hP.2, hc2.2 c hcc, show (i + 1).toNat = i.toNat + 1 by omega, cnF_snoc, show (0 : Int) + (i.toNat : Int) = i by omega]
          congr 1
          by_cases w : eK e (eP e o f i) = c
          · rw [if_pos ⟨rfl, by rw [w]⟩, if_pos w]
          · rw [if_neg (fun z => w (hD.1 _ _ hck hcc z.2)), if_neg w]
    · by_cases q : P = P'
      · rw [if_pos q, if_pos q]
        show (if eR e (eK e (eP e o f i)) = eR e c then (1 : Int) else 0) + cnR e o f c m (i + 1) = _
        by_cases w : eR e (eK e (eP e o f i)) = eR e c
        · rw [if_pos w, if_pos ⟨q, w⟩]
        · rw [if_neg w, if_neg (fun z => w z.2)]
      · rw [if_neg q, if_neg q, if_neg (fun z => q z.1)]
        rfl

