/-! THE MODEL WRITES WHAT ElT SAYS -/
def mN (S : St) (e : Env) : Prop := ∀ k, okN e k → eR e k = nL S k
/-- the model's cells hold the state of a writing -/
def MT (S : St) (e : Env) (s : Wt) : Prop := oM S s.1 ∧ S.1 54 25 = s.2.2.2.1.length ∧ (∀ x : Nat, x < s.2.2.2.1.length → S.2 72 x = paT s.2.2.2.1 x ∧ S.2 73 x = nmT s.2.2.2.1 x ∧ S.2 74 x = rkT e s.2.2.2.1 x ∧ okN e (nmT s.2.2.2.1 x) ∧ paT s.2.2.2.1 x < x ∧ -2 ≤ paT s.2.2.2.1 x ∧ paT s.2.2.2.1 x ≠ -1) ∧ S.1 54 30 = s.2.2.2.2.1 ∧ (0 ≤ s.2.2.2.2.1 ∧ s.2.2.2.2.1 ≤ s.2.2.2.1.length) ∧ ∀ o, okO e o → (S.2 75 o = -2 ↔ ¬ 0 < s.2.1 o) ∧ (0 < s.2.1 o → S.2 75 o = s.2.2.1 o ∧ iv 0 (s.2.2.2.1.length - 1) (s.2.2.1 o) ∧ S.2 76 o = s.2.1 o)
/-- all but what a writing changes is the same -/
def Ma (S S' : St) : Prop := (∀ a j, ¬ (a = 54 ∧ (j = 39 ∨ j = 25 ∨ j = 30 ∨ j = 32)) → S'.1 a j = S.1 a j) ∧ ∀ a, a < 72 ∨ 83 < a → S'.2 a = S.2 a
theorem Ma.rf {S : St} : Ma S S := ⟨fun _ _ _ => rfl, fun _ _ => rfl⟩
theorem Ma.tr {S S1 S2 : St} (h : Ma S S1) (k : Ma S1 S2) : Ma S S2 := ⟨fun a j q => (k.1 a j q).trans (h.1 a j q), fun a q => (k.2 a q).trans (h.2 a q)⟩
theorem Om.ma {S S' : St} (h : Om S S') : Ma S S' := ⟨fun a j q => h.1 a j (fun r => q ⟨r.1, Or.inl r.2⟩), fun a q => h.2 a (by omega)⟩
theorem NewE.ma {S S' : St} {P k : Int} (h : NewE S S' P k) : Ma S S' := ⟨fun a j q => h.1 a j (fun r => q ⟨r.1, Or.inr (Or.inl r.2)⟩), fun a q => h.2.2.1 a (by omega) (by omega) (by omega)⟩
theorem mE.ma {S S' : St} {e : Env} (h : mE S e) (k : Ma S S') : mE S' e := h.mv (k.1 54 2 (by decide)) (k.2 67 (by decide)) (k.2 68 (by decide)) (k.2 69 (by decide)) (k.2 70 (by decide)) (k.2 56 (by decide)) (k.2 57 (by decide)) (k.2 58 (by decide)) (k.2 59 (by decide)) (k.2 60 (by decide))
theorem nL_mv {S S' : St} {k : Int} (h57 : S'.2 57 = S.2 57) (h58 : S'.2 58 = S.2 58) : nL S' k = nL S k := by
  unfold nL
  rw [h57, h58]
theorem mN.ma {S S' : St} {e : Env} (h : mN S e) (k : Ma S S') : mN S' e := fun x hx => by
  rw [nL_mv (k.2 57 (by decide)) (k.2 58 (by decide))]
  exact h x hx
theorem MT.om {S S' : St} {e : Env} {s : Wt} {l : List Int} (h : MT S e s) (k : Om S S') (ho : oM S' (s.1 ++ l)) : MT S' e (ptT s l) := by
  obtain ⟨h1, h2, h3, h4, h5, h6⟩ := h
  refine ⟨ho, (k.1 54 25 (by decide)).trans h2, fun x hx => ?_, (k.1 54 30 (by decide)).trans h4, h5, fun o q => ?_⟩
  · rw [k.2 72 (by decide), k.2 73 (by decide), k.2 74 (by decide)]
    exact h3 x hx
  · rw [k.2 75 (by decide), k.2 76 (by decide)]
    exact h6 o q
section MS
variable {S : St} {K : Int → St → Prop} {e : Env} {s : Wt} {o k P m : Int}
theorem ctE_ctT (hN : mN S e) (hk : okN e k) (hM : MT S e s) : ∀ (l : List (Int × Int)) (x : Nat), s.2.2.2.1.drop x = l → ctE S P k l.length x = ctT e P k l
  | [], x, _ => rfl
  | q :: l, x, h => by
    have hx : x < s.2.2.2.1.length := by
      by_cases r : x < s.2.2.2.1.length
      · exact r
      · rw [List.drop_eq_nil_of_le (by omega)] at h
        cases h
    have hc := List.drop_eq_getElem_cons hx
    rw [h] at hc
    obtain ⟨h1, h2⟩ := List.cons.inj hc
    have h3 := hM.2.2.1 x hx
    have g : s.2.2.2.1.getD x (-2, 0) = q := by
      rw [List.getD_eq_getElem?_getD, List.getElem?_eq_getElem hx, h1]
      rfl
    have g1 : paT s.2.2.2.1 (x : Int) = q.1 := by
      unfold paT
      rw [Int.toNat_natCast, g]
    have g2 : nmT s.2.2.2.1 (x : Int) = q.2 := by
      unfold nmT
      rw [Int.toNat_natCast, g]
    rw [g1, g2] at h3
    have ih := ctE_ctT hN hk hM l (x + 1) h2.symm
    show (if S.2 72 x = P ∧ nL S (S.2 73 x) = nL S k then 1 else 0) + ctE S P k l.length (x + 1) = (if q.1 = P ∧ eR e q.2 = eR e k then 1 else 0) + ctT e P k l
    rw [h3.1, h3.2.1, hN q.2 h3.2.2.2.1, hN k hk]
    have ih2 : ctE S P k l.length ((x : Int) + 1) = ctT e P k l := ih
    rw [ih2]
theorem getD_app {t : List (Int × Int)} {q : Int × Int} {x : Nat} : (t ++ [q]).getD x (-2, 0) = if x < t.length then t.getD x (-2, 0) else if x = t.length then q else (-2, 0) := by
  by_cases h : x < t.length
  · rw [if_pos h, List.getD_eq_getElem?_getD, List.getElem?_append_left h, ← List.getD_eq_getElem?_getD]
  · rw [if_neg h, List.getD_eq_getElem?_getD, List.getElem?_append_right (by omega)]
    by_cases h2 : x = t.length
    · rw [if_pos h2, h2]
      simp
    · rw [if_neg h2, List.getElem?_eq_none_iff.mpr (by simp; omega)]
      rfl
theorem paT_app {t : List (Int × Int)} {q : Int × Int} {x : Nat} (h : x < t.length) : paT (t ++ [q]) x = paT t x ∧ nmT (t ++ [q]) x = nmT t x ∧ rkT e (t ++ [q]) x = rkT e t x := by
  have h1 : paT (t ++ [q]) x = paT t x := by
    unfold paT
    rw [Int.toNat_natCast, getD_app, if_pos h]
  have h2 : nmT (t ++ [q]) x = nmT t x := by
    unfold nmT
    rw [Int.toNat_natCast, getD_app, if_pos h]
  refine ⟨h1, h2, ?_⟩
  unfold rkT
  rw [h1, h2, Int.toNat_natCast, List.take_append_of_le_length (by omega)]
theorem paT_new {t : List (Int × Int)} {q : Int × Int} : paT (t ++ [q]) (t.length : Nat) = q.1 ∧ nmT (t ++ [q]) (t.length : Nat) = q.2 ∧ rkT e (t ++ [q]) (t.length : Nat) = 1 + ctT e q.1 q.2 t := by
  have h1 : paT (t ++ [q]) (t.length : Nat) = q.1 := by
    unfold paT
    rw [Int.toNat_natCast, getD_app, if_neg (by omega), if_pos rfl]
  have h2 : nmT (t ++ [q]) (t.length : Nat) = q.2 := by
    unfold nmT
    rw [Int.toNat_natCast, getD_app, if_neg (by omega), if_pos rfl]
  refine ⟨h1, h2, ?_⟩
  unfold rkT
  rw [h1, h2, Int.toNat_natCast, List.take_append_of_le_length (Nat.le_refl _), List.take_length]
theorem MT.add {S' : St} (hN : mN S e) (hk : okN e k) (hP : -2 ≤ P ∧ P ≠ -1 ∧ P < s.2.2.2.1.length) (hM : MT S e s) (h : NewE S S' P k) : MT S' e (addT s P k) := by
  have hc := ctE_ctT (P := P) hN hk hM s.2.2.2.1 0 rfl
  obtain ⟨h1, h2, h3, h4, h5, h6⟩ := hM
  obtain ⟨n1, n2, n3, n4, n5, n6⟩ := h
  have hl : (addT s P k).2.2.2.1.length = s.2.2.2.1.length + 1 := by
    show (s.2.2.2.1 ++ [(P, k)]).length = _
    simp
  refine ⟨?_, ?_, fun x hx => ?_, (n1 54 30 (by decide)).trans h4, ⟨h5.1, ?_⟩, fun o q => ?_⟩
  · unfold oM at h1 ⊢
    rw [n1 54 39 (by decide), n3 83 (by decide) (by decide) (by decide)]
    exact h1
  · rw [n2, h2, hl]
    rfl
  · rw [hl] at hx
    show S'.2 72 x = paT (s.2.2.2.1 ++ [(P, k)]) x ∧ S'.2 73 x = nmT (s.2.2.2.1 ++ [(P, k)]) x ∧ S'.2 74 x = rkT e (s.2.2.2.1 ++ [(P, k)]) x ∧ okN e (nmT (s.2.2.2.1 ++ [(P, k)]) x) ∧ paT (s.2.2.2.1 ++ [(P, k)]) x < x ∧ -2 ≤ paT (s.2.2.2.1 ++ [(P, k)]) x ∧ paT (s.2.2.2.1 ++ [(P, k)]) x ≠ -1
    rw [n4, n5, n6, h2]
    by_cases q : x < s.2.2.2.1.length
    · have g := paT_app (e := e) (q := (P, k)) q
      rw [if_neg (by omega), if_neg (by omega), if_neg (by omega), g.1, g.2.1, g.2.2]
      exact h3 x q
    · have e1 : x = s.2.2.2.1.length := by omega
      subst e1
      have g := paT_new (e := e) (t := s.2.2.2.1) (q := (P, k))
      rw [if_pos rfl, if_pos rfl, if_pos rfl, g.1, g.2.1, g.2.2, Int.toNat_natCast]
      refine ⟨rfl, rfl, ?_, hk, hP.2.2, hP.1, hP.2.1⟩
      have : ctE S P k s.2.2.2.1.length ((0 : Nat) : Int) = ctT e P k s.2.2.2.1 := hc
      rw [← this]
      rfl
  · rw [hl]
    show s.2.2.2.2.1 ≤ _
    omega
  · have g := h6 o q
    rw [n3 75 (by decide) (by decide) (by decide), n3 76 (by decide) (by decide) (by decide), hl]
    refine ⟨g.1, fun r => ?_⟩
    have g2 := g.2 r
    exact ⟨g2.1, ⟨g2.2.1.1, by have h9 := g2.2.1.2; show s.2.2.1 o ≤ _; omega⟩, g2.2.2⟩
theorem MT.up (hM : MT S e s) : ∀ (n : Nat) (x : Int), -2 ≤ x → x ≠ -1 → x < s.2.2.2.1.length → x + 1 ≤ n → UpR S (fun y => y) x (ups e s.2.2.2.1 n x)
  | 0, x, h1, h2, h3, h4 => by
    show x = -2
    omega
  | n + 1, x, h1, h2, h3, h4 => by
    unfold ups
    by_cases q : x < 0
    · rw [if_pos q]
      show x = -2
      omega
    · rw [if_neg q]
      have h5 := hM.2.2.1 x.toNat (by omega)
      rw [Int.toNat_of_nonneg (by omega)] at h5
      refine ⟨rfl, by omega, by rw [hM.2.1]; exact h3, by rw [h5.1]; exact h5.2.2.2.2.1, ?_, ?_⟩
      · show (x, nmT s.2.2.2.1 x, rkT e s.2.2.2.1 x) = (x, S.2 73 x, S.2 74 x)
        rw [h5.2.1, h5.2.2.1]
      · rw [h5.1]
        exact MT.up hM n _ h5.2.2.2.2.2.1 h5.2.2.2.2.2.2 (by omega) (by omega)
theorem MT.h73 (hE : mE S e) (hV : EV e) (hM : MT S e s) : ∀ x, 0 ≤ x → x < S.1 54 25 → iv 0 29 (S.2 73 x) ∧ iv 0 8 (S.2 57 (S.2 73 x)) ∧ okN e (S.2 73 x) := fun x h1 h2 => by
  have h5 := hM.2.2.1 x.toNat (by rw [hM.2.1] at h2; omega)
  rw [Int.toNat_of_nonneg h1] at h5
  rw [h5.2.1]
  have a := okN_b hV h5.2.2.2.1
  have b := (hE.2.2.2.2.2.2.2 _ h5.2.2.2.1).1
  exact ⟨a, ⟨by omega, by omega⟩, h5.2.2.2.1⟩
theorem m_elem (hE : mE S e) (hV : EV e) (hN : mN S e) (hM : MT S e s) (hk : okN e k) (hP : -2 ≤ P ∧ P ≠ -1 ∧ P < s.2.2.2.1.length) (hn : s.2.2.2.1.length < 900) (hK : ∀ S', NewE S S' P k → MT S' e (addT s P k) → K (s.2.2.2.1.length : Nat) S') : wX11_element P k S K := by
  have h2 := hM.2.1
  have b := (hE.2.2.2.2.2.2.2 _ hk).1
  refine n_element ⟨by omega, by omega⟩ (okN_b hV hk) (by omega) (by omega) ⟨by omega, by omega⟩ (fun x h1 h3 => ⟨(hM.h73 hE hV x h1 h3).1, (hM.h73 hE hV x h1 h3).2.1⟩) (fun S' h => ?_)
  rw [h2]
  exact hK S' h (hM.add hN hk hP h)
theorem m_refer (hE : mE S e) (hV : EV e) (hN : mN S e) (hM : MT S e s) (ho : okO e o) (hb : 0 < s.2.1 o) (hmo : eO e = 0 ∨ eO e = 1 ∨ eO e = 2) (hk : okN e k) (hP : -2 ≤ P ∧ P ≠ -1 ∧ P < s.2.2.2.1.length) (hn : s.2.2.2.1.length < 899) (hK : ∀ S', Ma S S' → (∀ a, 77 ≤ a → a ≤ 82 → S'.2 a = S.2 a) → S'.1 54 32 = S.1 54 32 → MT S' e (ptT (addT s P k) (rfU e (addT s P k) o k s.2.2.2.1.length)) → K 0 S') : wX11_refer o P k (eO e) S K := by
  have hkb := okN_b hV hk
  have hob := okO_b hV ho
  unfold wX11_refer
  intro _ _ _ _
  refine m_elem hE hV hN hM hk hP (by omega) (fun S1 n1 M1 => ?_)
  have hE1 := hE.ma n1.ma
  refine m_put M1.1 (fun r S2 f2 o2 => m_name (hE1.om f2) o2 hk hkb (fun S3 f3 o3 => m_attr (by decide) (by decide) o3 (fun S4 f4 o4 => m_word4 (by decide) (by decide) o4 (fun S5 f5 o5 => m_word3 (by decide) o5 (fun S6 f6 o6 => ?_)))))
  have f26 := (((f2.tr f3).tr f4).tr f5).tr f6
  have o6' : oM S6 ((addT s P k).1 ++ ([60] ++ (eL e k ++ [32, 114, 101, 102, 101, 114, 101, 110, 99, 101, 61, 34]))) := by
    simp only [List.append_assoc] at o6 ⊢
    exact o6
  have M6 := M1.om f26 o6'
  have hE6 := hE1.om f26
  have fin : ∀ (l : List Int) (S' : St), l = rfW e (addT s P k) o s.2.2.2.1.length → Om S6 S' → oM S' ((addT s P k).1 ++ ([60] ++ (eL e k ++ [32, 114, 101, 102, 101, 114, 101, 110, 99, 101, 61, 34])) ++ l) → wX11_refer_87 S' K := fun l S' hl f' o' => by
    unfold wX11_refer_87
    refine m_word3 (by decide) o' (fun S7 f7 o7 => hK S7 (n1.ma.tr ((f26.tr f').tr f7).ma) (fun a a1 a2 => ?_) ?_ (M1.om ((f26.tr f').tr f7) ?_))
    · rw [((f26.tr f').tr f7).2 a (by omega), n1.2.2.1 a (by omega) (by omega) (by omega)]
    · rw [((f26.tr f').tr f7).1 54 32 (by decide), n1.1 54 32 (by decide)]
    · unfold rfU
      rw [← hl]
      simp only [List.append_assoc] at o7 ⊢
      exact o7
  have hb6 := (M6.2.2.2.2.2 o ho).2 hb
  have hl6 : (ptT (addT s P k) ([60] ++ (eL e k ++ [32, 114, 101, 102, 101, 114, 101, 110, 99, 101, 61, 34]))).2.2.2.1.length = s.2.2.2.1.length + 1 := by
    show (s.2.2.2.1 ++ [(P, k)]).length = _
    simp
  have heb : iv 0 s.2.2.2.1.length (s.2.2.1 o) := by
    have := hb6.2.1
    rw [hl6] at this
    exact ⟨this.1, by have := this.2; show s.2.2.1 o ≤ _; have h9 : s.2.2.1 o ≤ ((s.2.2.2.1.length + 1 : Nat) : Int) - 1 := this; omega⟩
  have h25 : S6.1 54 25 ≤ 900 := by
    rw [M6.2.1, hl6]
    omega
  refine ⟨fun h2 => ?_, fun h2 => ?_⟩
  · rw [hb6.1]
    have eb1 : (ptT (addT s P k) ([60] ++ (eL e k ++ [32, 114, 101, 102, 101, 114, 101, 110, 99, 101, 61, 34]))).2.2.1 o = s.2.2.1 o := rfl
    rw [eb1]
    refine ⟨by omega, by omega, fun _ => ⟨⟨by omega, by omega⟩, ?_⟩⟩
    have hT : ∀ x, 0 ≤ x → x < S6.1 54 25 → okN e (S6.2 73 x) := fun x x1 x2 => (M6.h73 hE6 hV x x1 x2).2.2
    have upx := M6.up (s.2.2.2.1.length + 1 : Int).toNat (s.2.2.2.1.length : Int) (by omega) (by omega) (by rw [hl6]; omega) (by omega)
    have upe := M6.up (s.2.2.1 o + 1).toNat (s.2.2.1 o) (by omega) (by omega) (by rw [hl6]; omega) (by omega)
    have htb : (ptT (addT s P k) ([60] ++ (eL e k ++ [32, 114, 101, 102, 101, 114, 101, 110, 99, 101, 61, 34]))).2.2.2.1 = (addT s P k).2.2.2.1 := rfl
    rw [htb] at upx upe
    by_cases h0 : eO e = 0
    · rw [h0]
      refine m_way (t := pOf (uP e (addT s P k).2.2.2.1 s.2.2.2.1.length)) hE6 hV o6' h25 ⟨by omega, by omega⟩ ⟨by omega, by omega⟩ upx upe (fun a ha b hb r => ?_) (fun r => ?_) hT rfl (fun S7 f7 o7 => fin _ S7 ?_ f7 o7)
      · -- keys are the elements
        have key : ∀ (u : Upl) (z : Int), UpR S6 (fun y => y) z u → ∀ a ∈ u, a.2.1 = a.1 := fun u => by
          induction u with
          | nil => intro z _ a ha; cases ha
          | cons q u ih =>
            intro z hz a ha
            obtain ⟨c1, c2, c3, c4, c5, c6⟩ := hz
            rcases List.mem_cons.mp ha with rfl | ha
            · rw [c5]
              exact c1.symm
            · exact ih _ c6 a ha
        rw [← key _ _ upx a ha, ← key _ _ upe b hb]
        exact r
      · -- the new element is not on the way to an older one
        have key : ∀ (u : Upl) (z : Int), UpR S6 (fun y => y) z u → z < s.2.2.2.1.length → ∀ a ∈ u, a.1 < (s.2.2.2.1.length : Int) := fun u => by
          induction u with
          | nil => intro z _ _ a ha; cases ha
          | cons q u ih =>
            intro z hz hzl a ha
            obtain ⟨c1, c2, c3, c4, c5, c6⟩ := hz
            rcases List.mem_cons.mp ha with rfl | ha
            · omega
            · exact ih _ c6 (by omega) a ha
        obtain ⟨a, ha, ha2⟩ := List.mem_map.mp r
        have hlt : s.2.2.1 o < s.2.2.2.1.length := by
          have := (hM.2.2.2.2.2 o ho).2 hb
          have := this.2.1.2
          omega
        have := key _ _ upe hlt a ha
        have ha3 : a.1 = (s.2.2.2.1.length : Int) := ha2
        omega
      · unfold rfW
        rw [if_neg h2, if_pos h0]
        rfl
    · have h1 : eO e = 1 := by omega
      rw [h1]
      refine m_path hE6 hV o6' h25 ⟨by omega, by omega⟩ upe hT (fun S7 f7 o7 => fin _ S7 ?_ f7 o7)
      unfold rfW
      rw [if_neg h2, if_neg h0]
      rfl
  · rw [hb6.2.2]
    have id1 : (ptT (addT s P k) ([60] ++ (eL e k ++ [32, 114, 101, 102, 101, 114, 101, 110, 99, 101, 61, 34]))).2.1 o = s.2.1 o := rfl
    rw [id1]
    refine ⟨by omega, by omega, fun g => m_number ⟨by omega, by omega⟩ o6' (fun S7 f7 o7 => fin _ S7 ?_ f7 o7)⟩
    unfold rfW
    rw [if_pos (Classical.not_not.mp h2)]
    rfl
end MS

