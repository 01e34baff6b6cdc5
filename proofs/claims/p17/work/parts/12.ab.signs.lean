/-! SIGNS BY TYPES -/
theorem X.mono {G : xG} {y : MethodName} {cc : ByteArray} {nL : Nat} {ret : Option FieldType} {d : Nat} {As : List Value} {cs : List va_E} {Post Post' : xP} (h : X G y cc nL ret d As cs Post) (k : ∀ r c, Post r c → Post' r c) : X G y cc nL ret d As cs Post' := by
  intro l p e a1 a2 a3 s m args below b1 b2 b3 b4
  obtain ⟨n, o, c1, c2, c3, ⟨⟨⟨r, cs', e1, hp, hw⟩, hF⟩, hL⟩⟩ := h l p e a1 a2 a3 s m args below b1 b2 b3 b4
  exact ⟨n, o, c1, c2, c3, ⟨⟨r, cs', e1, k _ _ hp, hw⟩, hF⟩, hL⟩
theorem inl_fst {c p c' p' : Nat} (h : (Sum.inl (c, p) : Ty) = .inl (c', p')) : c = c' := congrArg Prod.fst (Sum.inl.inj h)
theorem some_fst {c p c' p' : Nat} (h : (some (Sum.inl (c, p)) : Option Ty) = some (.inl (c', p'))) : c = c' := inl_fst (Option.some.inj h)
theorem nI_oI (n : Nat) : nI n = Int32.ofInt (n : Int) := rfl
theorem bI_oI (b : Bool) : bI b = Int32.ofInt (if b then 1 else 0) := by cases b <;> rfl
/-- a Signs has changed, and its row may be another cell -/
theorem WT.signs {G : xG} {B : Nat × Nat} {τ : Tau} {cs c1 : List va_E} {a r r1 n n1 : Nat} {t t1 : List Int32} {ov ov1 : Bool} (hW : WT G B τ cs) (ha : τ a = some (.inl (5, n))) (hS : Sg G cs a r n t ov) (hr : τ r = some (.inl (100 + a, 0))) (hS1 : Sg G c1 a r1 n1 t1 ov1) (hF : Fr cs c1 a r r1 n n1) :
    ∃ τ1, WT G B τ1 c1 ∧ Fx [5] τ cs τ1 c1 := by
  obtain ⟨h1, h2, h3, h4, h5, h6, h7⟩ := hW
  obtain ⟨f1, f2, f3, f4, f5⟩ := hF
  have hal := h1 a _ ha
  have hrl := h1 r _ hr
  have hr1 : ∀ b u, τ b = some u → b = r1 → b = r := fun b u hb e => by
    rcases f1 with q | q
    · rw [e, q]
    · have := h1 b u hb; omega
  have hra : r1 ≠ a := by
    obtain ⟨f, -, -, -, -, -, q, -⟩ := hS1
    exact Ne.symm q
  have hsub : Sub τ (fun k => if k = a then some (.inl (5, n1)) else if k = r1 then some (.inl (100 + a, 0)) else τ k) := by
    refine ⟨fun b q hb => ?_, fun b ci p hb => ?_⟩
    · show (if b = a then _ else if b = r1 then _ else τ b) = _
      rw [if_neg (fun e => by subst e; rw [ha] at hb; cases hb), if_neg (fun e => by have := hr1 b _ hb e; subst this; rw [hr] at hb; cases hb)]
      exact hb
    · show ∃ p1, (if b = a then _ else if b = r1 then _ else τ b) = _ ∧ _
      by_cases e : b = a
      · subst e
        rw [ha] at hb
        cases hb
        exact ⟨n1, if_pos rfl, Or.inl rfl⟩
      · rw [if_neg e]
        by_cases e1 : b = r1
        · have := hr1 b _ hb e1
          subst this
          rw [hr] at hb
          cases hb
          exact ⟨0, if_pos e1, Or.inr rfl⟩
        · exact ⟨p, by rw [if_neg e1]; exact hb, Or.inr rfl⟩
  have old : ∀ b u, (if b = a then some (.inl (5, n1)) else if b = r1 then some (.inl (100 + a, 0)) else τ b) = some u → b ≠ a → (∀ p, u ≠ .inl (100 + a, p)) → τ b = some u := fun b u hb e q => by
    rw [if_neg e] at hb
    by_cases e1 : b = r1
    · rw [if_pos e1] at hb
      cases hb
      exact absurd rfl (q 0)
    · rw [if_neg e1] at hb
      exact hb
  have same : ∀ b u, τ b = some u → b ≠ a → (∀ p, u ≠ .inl (100 + a, p)) → c1[b]? = cs[b]? := fun b u hb e q => f3 b (h1 b u hb) e (fun e1 => by subst e1; rw [hr] at hb; cases hb; exact q 0 rfl)
  have hU := h2
  obtain ⟨u1, u2, u3, u4, u5, u6, u7, u8, u9, u10, u11⟩ := h2
  have hnr : ∀ b, isS b → b ≠ r1 := fun b hs q => by
    rcases u10 b hs with ⟨p, hb⟩ | hb
    · have := hr1 b _ hb q
      subst this
      rw [hr] at hb
      have := some_fst hb
      omega
    · rcases f1 with q1 | q1
      · rw [q, q1, hr] at hb; cases hb
      · obtain ⟨c, tc, hc, hc1⟩ := u11
        have := h1 c tc hc1
        unfold isS at hs
        omega
  have hnon : ∀ b, isS b → τ b = none → (fun k => if k = a then some (.inl (5, n1)) else if k = r1 then some (.inl (100 + a, 0)) else τ k) b = none := fun b hs hb => by
    show (if b = a then _ else if b = r1 then _ else τ b) = none
    rw [if_neg (fun q => by subst q; rw [ha] at hb; cases hb), if_neg (hnr b hs)]
    exact hb
  have hsa := u9 a n ha
  refine ⟨fun k => if k = a then some (.inl (5, n1)) else if k = r1 then some (.inl (100 + a, 0)) else τ k, ⟨fun b u hb => ?_, ⟨fun b p hb => ?_, hsub.s u2, fun b hb => ?_, hsub.a u4, fun b hb => ?_, hsub.a u6, fun b p hb => ?_, fun b p hb => ?_, fun b m hb => ?_, fun b hb => (u10 b hb).elim (fun q => Or.inl (hsub.s q)) (fun q => Or.inr (hnon b hb q)), hsub.ex u11⟩, fun b m hb => ?_, fun b k m lo hi hb => ?_, fun b ci p hb g5 g1 => ?_, ?_, ?_⟩, hsub, f2, fun b hb e => ?_, fun b ci p hb hn => ?_, fun b q hb _ _ => ?_⟩
  · have hb : (if b = a then some (.inl (5, n1)) else if b = r1 then some (.inl (100 + a, 0)) else τ b) = some u := hb
    by_cases e : b = a
    · omega
    · rw [if_neg e] at hb
      by_cases e1 : b = r1
      · obtain ⟨f, -, q, -⟩ := hS1
        rw [e1]
        exact at_lt q
      · rw [if_neg e1] at hb
        have := h1 b u hb
        omega
  · by_cases e : b = a
    · have hb : (if b = a then some (.inl (5, n1)) else if b = r1 then some (.inl (100 + a, 0)) else τ b) = some (.inl (6, p)) := hb
      rw [if_pos e] at hb
      cases hb
    · exact u1 b p (old b _ hb e (fun p q => by have := inl_fst q; omega))
  · by_cases e : b = a
    · have hb : (if b = a then some (.inl (5, n1)) else if b = r1 then some (.inl (100 + a, 0)) else τ b) = some (.inr (0, 200, 0, 600)) := hb
      rw [if_pos e] at hb
      cases hb
    · exact u3 b (old b _ hb e (fun p q => by cases q))
  · by_cases e : b = a
    · have hb : (if b = a then some (.inl (5, n1)) else if b = r1 then some (.inl (100 + a, 0)) else τ b) = some (.inr (0, 200, 0, 601)) := hb
      rw [if_pos e] at hb
      cases hb
    · exact u5 b (old b _ hb e (fun p q => by cases q))
  · by_cases e : b = a
    · have hb : (if b = a then some (.inl (5, n1)) else if b = r1 then some (.inl (100 + a, 0)) else τ b) = some (.inl (3, p)) := hb
      rw [if_pos e] at hb
      cases hb
    · exact u7 b p (old b _ hb e (fun p q => by have := inl_fst q; omega))
  · by_cases e : b = a
    · have hb : (if b = a then some (.inl (5, n1)) else if b = r1 then some (.inl (100 + a, 0)) else τ b) = some (.inl (10, p)) := hb
      rw [if_pos e] at hb
      cases hb
    · exact u8 b p (old b _ hb e (fun p q => by have := inl_fst q; omega))
  · by_cases e : b = a
    · rw [e]; exact hsa
    · exact u9 b m (old b _ hb e (fun p q => by have := inl_fst q; omega))
  · by_cases e : b = a
    · subst e
      have hb : (if b = b then some (.inl (5, n1)) else if b = r1 then some (.inl (100 + b, 0)) else τ b) = some (.inl (5, m)) := hb
      rw [if_pos rfl] at hb
      cases hb
      refine ⟨r1, t1, ov1, hS1, ?_⟩
      show (if r1 = b then _ else if r1 = r1 then _ else τ r1) = _
      rw [if_neg hra, if_pos rfl]
    · have hb' := old b _ hb e (fun p q => by have := inl_fst q; omega)
      obtain ⟨rb, tb, ob, ⟨f, q1, q2, q3⟩, hrb⟩ := h3 b m hb'
      have hrb1 : c1[rb]? = cs[rb]? := same rb _ hrb (fun e1 => by subst e1; rw [ha] at hrb; have := some_fst hrb; omega) (fun p q => by have := inl_fst q; omega)
      refine ⟨rb, tb, ob, ⟨f, (same b _ hb' e (fun p q => by have := inl_fst q; omega)).trans q1, hrb1.trans q2, q3⟩, ?_⟩
      show (if rb = a then _ else if rb = r1 then _ else τ rb) = _
      rw [if_neg (fun e1 => by subst e1; rw [ha] at hrb; have := some_fst hrb; omega), if_neg (fun e1 => by have := hr1 rb _ hrb e1; subst this; rw [hr] at hrb; have := some_fst hrb; omega)]
      exact hrb
  · by_cases e : b = a
    · have hb : (if b = a then some (.inl (5, n1)) else if b = r1 then some (.inl (100 + a, 0)) else τ b) = some (.inr (k, m, lo, hi)) := hb
      rw [if_pos e] at hb
      cases hb
    · have hb' := old b _ hb e (fun p q => by cases q)
      obtain ⟨q0, f, q1, q2⟩ := h4 b k m lo hi hb'
      exact ⟨q0, f, (same b _ hb' e (fun p q => by cases q)).trans q1, q2⟩
  · by_cases e : b = a
    · have hb : (if b = a then some (.inl (5, n1)) else if b = r1 then some (.inl (100 + a, 0)) else τ b) = some (.inl (ci, p)) := hb
      rw [if_pos e] at hb
      cases hb
      exact absurd rfl g5
    · have hb' := old b _ hb e (fun p q => by have := inl_fst q; omega)
      obtain ⟨vs, q1, q2⟩ := h5 b ci p hb' g5 g1
      exact ⟨vs, (same b _ hb' e (fun p q => by have := inl_fst q; omega)).trans q1, q2.sub hsub⟩
  · obtain ⟨p3, u2⟩ := u2
    refine h6.ne (same 3 _ u2 (fun e => ?_) (fun p q => by have := inl_fst q; omega)) (same 11 _ u4 (fun e => ?_) (fun p q => by cases q)) (same 12 _ u6 (fun e => ?_) (fun p q => by cases q))
    · rw [← e, u2] at ha; cases ha
    · rw [← e, u4] at ha; cases ha
    · rw [← e, u6] at ha; cases ha
  · have key : ∀ b, isS b → b ≠ a → nO (fun k => if k = a then some (.inl (5, n1)) else if k = r1 then some (.inl (100 + a, 0)) else τ k) b = nO τ b := fun b hs e => by
      have q : b ≠ r1 := hnr b hs
      unfold nO
      simp only [if_neg e, if_neg q]
    have ka : nO (fun k => if k = a then some (.inl (5, n1)) else if k = r1 then some (.inl (100 + a, 0)) else τ k) a = n1 := by
      unfold nO
      show (match (if a = a then _ else if a = r1 then _ else τ a) with | some (.inl q) => q.2 | _ => 0) = _
      rw [if_pos rfl]
    have kb : nO τ a = n := by
      unfold nO
      rw [ha]
    have i1 : isS 1 := Or.inl rfl
    have i4 : isS 4 := Or.inr (Or.inl rfl)
    have i20 : isS 20 := Or.inr (Or.inr (Or.inl rfl))
    have i22 : isS 22 := Or.inr (Or.inr (Or.inr rfl))
    unfold rho1 rho2 at h7 ⊢
    rcases hsa with rfl | rfl | rfl | rfl
    · rw [key 4 i4 (by decide), key 20 i20 (by decide), key 22 i22 (by decide), ka]
      rw [kb] at h7
      omega
    · rw [key 1 i1 (by decide), key 20 i20 (by decide), key 22 i22 (by decide), ka]
      rw [kb] at h7
      omega
    · rw [key 1 i1 (by decide), key 4 i4 (by decide), key 22 i22 (by decide), ka]
      rw [kb] at h7
      omega
    · rw [key 1 i1 (by decide), key 4 i4 (by decide), key 20 i20 (by decide), ka]
      rw [kb] at h7
      omega
  · refine ⟨f3 b hb (fun q => by subst q; rw [ha] at e; cases e) (fun q => by subst q; rw [hr] at e; cases e), ?_⟩
    show (if b = a then _ else if b = r1 then _ else τ b) = none
    rw [if_neg (fun q => by subst q; rw [ha] at e; cases e), if_neg (fun q => ?_)]
    · exact e
    · rcases f1 with q1 | q1
      · rw [q, q1, hr] at e; cases e
      · omega
  · have g1 : ci < 100 := Nat.lt_of_not_le fun q => hn (by rw [show gC ci = 5 from if_neg (by omega)]; exact List.mem_cons_self)
    have g5 : ci ≠ 5 := fun q => hn (by rw [q]; exact List.mem_cons_self)
    exact same b _ hb (fun e => by subst e; rw [ha] at hb; cases hb; exact g5 rfl) (fun p q => by have := inl_fst q; omega)
  · exact same b _ hb (fun e => by subst e; rw [ha] at hb; cases hb) (fun p q => by cases q)
theorem Sg.rm {G : xG} {B : Nat × Nat} {τ : Tau} {cs : List va_E} {a n : Nat} (hW : WT G B τ cs) (ha : τ a = some (.inl (5, n))) : Rm cs n := by
  obtain ⟨h1, h2, h3, h4, h5, h6, h7⟩ := hW
  have hsa := h2.2.2.2.2.2.2.2.2.1 a n ha
  have kb : nO τ a = n := by
    unfold nO
    rw [ha]
  unfold Rm
  unfold rho1 rho2 at h7
  rcases hsa with e | e | e | e <;> (rw [e] at kb; rw [kb] at h7; omega)
section
variable {G : xG} {B : Nat × Nat} {τ : Tau} {cs : List va_E} {a0 : Nat}
end

