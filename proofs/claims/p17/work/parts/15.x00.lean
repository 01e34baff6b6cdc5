/-- what is left of an integer in 32 bits -/
def tI (x : Int) : Int := (Int32.ofInt x).toInt
theorem tI_of (x : Int) : Int32.ofInt (tI x) = Int32.ofInt x := Int32.ofInt_toInt _
/-! THE CLASS OVER THE INTEGERS: a virtual cell a lies at cell v a; the known cells hold the state S; the Signs 1, 4, 20, 22 are values of S too: length S.1 a 1, overflowed S.1 a 2, signs S.2 a; the types WT hold beside -/
def vSh (v : Nat → Nat) : Sh → Sh
  | .inl q => .inl (q.1, q.2.map (Option.map v))
  | .inr q => .inr q
def tM (S : St) (a : Nat) (t : List Int32) (ov : Bool) : Prop := S.1 a 1 = (t.length : Int) ∧ S.1 a 2 = (if ov then 1 else 0) ∧ ∀ i : Nat, i < t.length → t.getD i 0 = Int32.ofInt (S.2 a (i : Int)) ∧ iv 0 65535 (S.2 a (i : Int))
def cT : Tys := (fun a j => match a with
  | 0 => (match j with | 9 => (1, 20) | _ => (-2147483648, 2147483647))
  | 3 => (match j with | 16 => (0, 200) | 17 => (0, 600) | _ => (-2147483648, 2147483647))
  | 24 => (match j with | 8 => (0, 6) | _ => (-2147483648, 2147483647))
  | 33 => (match j with | 8 => (0, 6) | _ => (-2147483648, 2147483647))
  | 42 => (match j with | 3 => (0, 30) | _ => (-2147483648, 2147483647))
  | 46 => (match j with | 3 => (0, 30) | _ => (-2147483648, 2147483647))
  | 50 => (match j with | 3 => (0, 30) | _ => (-2147483648, 2147483647))
  | 210 => (match j with | 4 => (1, 20) | 12 => (0, 1) | _ => (-2147483648, 2147483647))
  | 220 => (match j with | 4 => (-1, 199) | _ => (-2147483648, 2147483647))
  | 250 => (match j with | 6 => (0, 30) | _ => (-2147483648, 2147483647))
  | _ => (-2147483648, 2147483647), fun a => match a with
  | 9 => (-1, 199)
  | 11 => (0, 600)
  | 12 => (0, 601)
  | 15 => (0, 1)
  | 19 => (0, 3000)
  | 25 => (0, 65535)
  | 26 => (0, 16)
  | 28 => (0, 1)
  | 29 => (0, 4)
  | 32 => (0, 1)
  | 34 => (0, 65535)
  | 35 => (0, 16)
  | 37 => (0, 1)
  | 38 => (0, 4)
  | 41 => (0, 1)
  | 214 => (0, 7)
  | 232 => (0, 29)
  | 253 => (0, 29)
  | _ => (-2147483648, 2147483647))
theorem cT_1 (a j : Nat) : -2147483648 ≤ (cT.1 a j).1 ∧ (cT.1 a j).2 ≤ 2147483647 := by
  unfold cT
  dsimp only
  split <;> (try split) <;> exact ⟨by decide, by decide⟩
theorem cT_2 (a : Nat) : -2147483648 ≤ (cT.2 a).1 ∧ (cT.2 a).2 ≤ 2147483647 := by
  unfold cT
  dsimp only
  split <;> exact ⟨by decide, by decide⟩
theorem cT_3 (a : Nat) (h : a ≠ 11 ∧ a ≠ 12) : (cT.2 a).2 ≠ 600 ∧ (cT.2 a).2 ≠ 601 := by
  unfold cT
  dsimp only
  split
  all_goals first | exact absurd rfl h.1 | exact absurd rfl h.2 | exact ⟨by decide, by decide⟩
/-- the bounds that the types of arrays have: Heap's and Schema's are told apart by them -/
def tB (a : Nat) : Int × Int := if (43 ≤ a ∧ a ≤ 45) ∨ (47 ≤ a ∧ a ≤ 49) ∨ (51 ≤ a ∧ a ≤ 53) then (-2147483648, 2147483648) else if a = 27 ∨ a = 30 ∨ a = 31 ∨ a = 36 ∨ a = 39 ∨ a = 40 then (-2147483648, 2147483649) else cT.2 a
theorem tB_ok {a : Nat} {x : Int} (h : iv (cT.2 a).1 (cT.2 a).2 x) : iv (tB a).1 (tB a).2 (Int32.ofInt x).toInt := by
  unfold tB
  split
  · exact any_okT (by decide) _
  · split
    · exact any_okT (by decide) _
    · exact iv_ok h (cT_2 a).1 (cT_2 a).2
theorem tB_2 (a : Nat) (h : a ≠ 11 ∧ a ≠ 12) : (tB a).2 ≠ 600 ∧ (tB a).2 ≠ 601 := by
  unfold tB
  split
  · exact ⟨by decide, by decide⟩
  · split
    · exact ⟨by decide, by decide⟩
    · exact cT_3 a h
def Wv (G : xG) (v : Nat → Nat) (sh : Nat → Option Sh) (B : Nat × Nat) (c0 : List va_E) (S : St) (cs : List va_E) : Prop := ∃ τ : Tau, WT G B τ cs ∧ (∀ (a : Nat) (x : Sh), sh a = some x → cs[v a]? = some (encC G S a (vSh v x))) ∧ (∀ (a b : Nat) (x y : Sh), sh a = some x → sh b = some y → v a = v b → a = b) ∧ okT cT S ∧ (∀ (a k n : Nat), sh a = some (.inr (k, n)) → τ (v a) = some (.inr (k, n, (tB a).1, (tB a).2))) ∧ (∀ (a ci : Nat) (rf : List (Option Nat)), sh a = some (.inl (ci, rf)) → ci ≠ 5 ∧ ci < 100 ∧ (ci = 6 → a = 3) ∧ ∃ p : Nat, τ (v a) = some (.inl (ci, p)) ∧ (a ≠ 0 → ∀ k : Nat, rf[k]? = some none → (fT ci p)[k]? = some (Sum.inl (cT.1 a k) : FT))) ∧ (∀ a : Nat, isS a → isS (v a) ∧ ∃ (n r : Nat) (t : List Int32) (ov : Bool), Sg G cs (v a) r n t ov ∧ tM S a t ov) ∧ (∀ a b : Nat, isS a → isS b → v a = v b → a = b) ∧ (∀ k : Nat, 54 ≤ k → k < 107 → τ k = none ∧ cs[k]? = c0[k]?) ∧ 107 ≤ cs.length ∧ (∀ a : Nat, isS a → oT τ a 5) ∧ (sh 3 = none → cs[3]? = c0[3]? ∧ ∀ (a : Nat) (x : Sh), sh a = some x → v a ≠ 3)
theorem Wv.at {G : xG} {v : Nat → Nat} {sh : Nat → Option Sh} {B : Nat × Nat} {c0 : List va_E} {S : St} {cs : List va_E} (h : Wv G v sh B c0 S cs) {a : Nat} {x : Sh} (hs : sh a = some x) : cs[v a]? = some (encC G S a (vSh v x)) := by
  obtain ⟨τ, -, h, -⟩ := h
  exact h a x hs
theorem Wv.ok {G : xG} {v : Nat → Nat} {sh : Nat → Option Sh} {B : Nat × Nat} {c0 : List va_E} {S : St} {cs : List va_E} (h : Wv G v sh B c0 S cs) : okT cT S := by
  obtain ⟨τ, -, -, -, h, -⟩ := h
  exact h
theorem Wv.iI {G : xG} {v : Nat → Nat} {sh : Nat → Option Sh} {B : Nat × Nat} {c0 : List va_E} {S : St} {cs : List va_E} (h : Wv G v sh B c0 S cs) (a j : Nat) : iv (cT.1 a j).1 (cT.1 a j).2 (S.1 a j) := h.ok.1 a j
theorem Wv.iA {G : xG} {v : Nat → Nat} {sh : Nat → Option Sh} {B : Nat × Nat} {c0 : List va_E} {S : St} {cs : List va_E} (h : Wv G v sh B c0 S cs) (a : Nat) (i : Int) : iv (cT.2 a).1 (cT.2 a).2 (S.2 a i) := h.ok.2 a i
/-- a change of a cell that is not the tree's -/
theorem Wv.trn {G : xG} {v : Nat → Nat} {sh : Nat → Option Sh} {B : Nat × Nat} {c0 : List va_E} {S : St} {cs : List va_E} {a : Nat} {x : Sh} {e : va_E} (hW : Wv G v sh B c0 S cs) (hs : sh a = some x) (h3 : a ≠ 0 ∧ a ≠ 3 ∧ a ≠ 11 ∧ a ≠ 12) : TR (cs.set (v a) e) := by
  obtain ⟨τ, hT, hA, hI, hO, hD, hE, hF, hFi, hH, hL, hQ, hZ⟩ := hW
  cases x with
  | inr q => exact nA hT (hD a q.1 q.2 hs) (tB_2 a h3.2.2).1 (tB_2 a h3.2.2).2 _ (fun b hb => List.getElem?_set_ne (Ne.symm hb))
  | inl q =>
    obtain ⟨e5, e1, e6, p, hp, hk⟩ := hE a q.1 q.2 hs
    exact nT hT hp (fun z => h3.2.1 (e6 z)) _ (fun b hb => List.getElem?_set_ne (Ne.symm hb))
/-- the attributes of an element are attributes -/
def TRS (S : St) : Prop := ∀ e : Int, 0 ≤ e → e < S.1 3 16 → S.2 11 e + S.2 12 e ≤ S.1 3 17
theorem oI_iv {lo hi x : Int} (h : iv lo hi x) (h1 : -2147483648 ≤ lo) (h2 : hi ≤ 2147483647) : (Int32.ofInt x).toInt = x := Int32.toInt_ofInt_of_le (by show -2147483648 ≤ x; omega) (by show x < 2147483648; omega)
theorem Wv.v3 {G : xG} {v : Nat → Nat} {sh : Nat → Option Sh} {B : Nat × Nat} {c0 : List va_E} {S : St} {cs : List va_E} {rf : List (Option Nat)} (hW : Wv G v sh B c0 S cs) (h3 : sh 3 = some (.inl (6, rf))) (h11 : sh 11 = some (.inr (0, 200))) (h12 : sh 12 = some (.inr (0, 200))) : v 3 = 3 ∧ v 11 = 11 ∧ v 12 = 12 := by
  obtain ⟨τ, hT, hA, hI, hO, hD, hE, -⟩ := hW
  obtain ⟨u1, u2, u3, u4, u5, -⟩ := hT.2.1
  obtain ⟨-, -, -, p, hp, -⟩ := hE 3 6 rf h3
  exact ⟨u1 _ p hp, u3 _ (hD 11 0 200 h11), u5 _ (hD 12 0 200 h12)⟩
theorem mp_none {v : Nat → Nat} {rf : List (Option Nat)} {k : Nat} (h : rf[k]? = some none) : (rf.map (Option.map v))[k]? = some none := by simp [h]
theorem mp_some {v : Nat → Nat} {rf : List (Option Nat)} {k r : Nat} (h : rf[k]? = some (some r)) : (rf.map (Option.map v))[k]? = some (some (v r)) := by simp [h]
theorem Wv.trs {G : xG} {v : Nat → Nat} {sh : Nat → Option Sh} {B : Nat × Nat} {c0 : List va_E} {S S' : St} {cs : List va_E} {a : Nat} {x : Sh} {e : va_E} {rf : List (Option Nat)} (hW : Wv G v sh B c0 S cs) (h3 : sh 3 = some (.inl (6, rf))) (h16 : rf[16]? = some none) (h17 : rf[17]? = some none) (h11 : sh 11 = some (.inr (0, 200))) (h12 : sh 12 = some (.inr (0, 200))) (hs : sh a = some x) (he : encC G S' a (vSh v x) = e) (hn : ∀ a', a' ≠ a → S'.1 a' = S.1 a' ∧ S'.2 a' = S.2 a') (hr : okT cT S') (hR : TRS S') : TR (cs.set (v a) e) := by
  obtain ⟨q3, q11, q12⟩ := hW.v3 h3 h11 h12
  obtain ⟨τ, hT, hA, hI, -⟩ := hW
  have key : ∀ b y, sh b = some y → (cs.set (v a) e)[v b]? = some (encC G S' b (vSh v y)) := fun b y hb => by
    by_cases hab : b = a
    · subst hab
      rw [hs] at hb
      cases hb
      rw [set_at (hA _ _ hs), he]
    · rw [List.getElem?_set_ne (fun q => hab (hI b a _ _ hb hs q.symm)), hA b y hb, encC_ne (hn b hab)]
  have k3 := key 3 _ h3
  have k11 := key 11 _ h11
  have k12 := key 12 _ h12
  rw [q3] at k3
  rw [q11] at k11
  rw [q12] at k12
  have f16 : fld (cs.set (v a) e) 3 16 = S'.1 3 16 := by
    unfold fld
    rw [k3]
    show (match (encF G (S'.1 3) 0 (rf.map (Option.map v)))[16]? with | some (.int x) => x.toInt | _ => 0) = _
    rw [encF_i (mp_none h16), Nat.zero_add]
    exact oI_iv (hr.1 3 16) (by decide) (by decide)
  have f17 : fld (cs.set (v a) e) 3 17 = S'.1 3 17 := by
    unfold fld
    rw [k3]
    show (match (encF G (S'.1 3) 0 (rf.map (Option.map v)))[17]? with | some (.int x) => x.toInt | _ => 0) = _
    rw [encF_i (mp_none h17), Nat.zero_add]
    exact oI_iv (hr.1 3 17) (by decide) (by decide)
  have f11 : ∀ i : Int, 0 ≤ i → elt (cs.set (v a) e) 11 i = S'.2 11 i := fun i i0 => by
    unfold elt
    rw [k11]
    show (Int32.ofInt (S'.2 11 ((i.toNat : Nat) : Int))).toInt = _
    rw [Int.toNat_of_nonneg i0]
    exact oI_iv (hr.2 11 i) (by decide) (by decide)
  have f12 : ∀ i : Int, 0 ≤ i → elt (cs.set (v a) e) 12 i = S'.2 12 i := fun i i0 => by
    unfold elt
    rw [k12]
    show (Int32.ofInt (S'.2 12 ((i.toNat : Nat) : Int))).toInt = _
    rw [Int.toNat_of_nonneg i0]
    exact oI_iv (hr.2 12 i) (by decide) (by decide)
  intro i i0 i1
  rw [f16] at i1
  rw [f11 i i0, f12 i i0, f17]
  exact hR i i0 i1
theorem Sg.uq {G : xG} {cs : List va_E} {a r n r' n' : Nat} {t t' : List Int32} {ov ov' : Bool} (h : Sg G cs a r n t ov) (k : Sg G cs a r' n' t' ov') : r = r' ∧ n = n' := by
  obtain ⟨f, h1, h2, -⟩ := h
  obtain ⟨f', k1, k2, -⟩ := k
  rw [h1] at k1
  have e : G.1 + r = G.1 + r' := by
    injection k1 with k1
    injection k1 with k1
    injection k1 with _ k1
    injection k1 with k1
    injection k1 with k1
  have e2 : r = r' := Nat.add_left_cancel e
  subst e2
  rw [h2] at k2
  injection k2 with k2
  injection k2 with k2
  injection k2 with _ k2
  injection k2 with k2
  exact ⟨rfl, k2⟩
theorem tM_ne {S S' : St} {a : Nat} {t : List Int32} {ov : Bool} (h : S'.1 a = S.1 a ∧ S'.2 a = S.2 a) (k : tM S a t ov) : tM S' a t ov := by
  unfold tM at k ⊢
  rw [h.1, h.2]
  exact k
theorem Wv.set {G : xG} {v : Nat → Nat} {sh : Nat → Option Sh} {B : Nat × Nat} {c0 : List va_E} {S S' : St} {cs : List va_E} {a : Nat} {x : Sh} {e : va_E} (hW : Wv G v sh B c0 S cs) (hs : sh a = some x) (h0 : a ≠ 0) (hS : ¬ isS a) (he : encC G S' a (vSh v x) = e) (hz : xSzE e = xSzE (encC G S a (vSh v x))) (hn : ∀ a', a' ≠ a → S'.1 a' = S.1 a' ∧ S'.2 a' = S.2 a') (hr : okT cT S') (hTR : TR (cs.set (v a) e)) : Wv G v sh B c0 S' (cs.set (v a) e) := by
  obtain ⟨τ, hT, hA, hI, hO, hD, hE, hF, hFi, hH, hL, hQ, hZ⟩ := hW
  have hc := hA a x hs
  have hty : ∃ t, τ (v a) = some t ∧ (∀ ci p, t = .inl (ci, p) → ci ≠ 5 ∧ ci < 100) ∧ WT G B τ (cs.set (v a) e) := by
    cases x with
    | inr q =>
      obtain ⟨k, n⟩ := q
      have ht := hD a k n hs
      refine ⟨_, ht, (fun ci p q => by cases q), hT.set ht (fun ci p q => by cases q) hc hz (fun k' n' lo hi q => ?_) (fun ci p q => by cases q) hTR⟩
      cases q
      refine ⟨fun i => Int32.ofInt (S'.2 a (i : Int)), he.symm, fun i => tB_ok (hr.2 a i)⟩
    | inl q =>
      obtain ⟨ci, rf⟩ := q
      obtain ⟨e5, e1, e6, p, hp, hk⟩ := hE a ci rf hs
      refine ⟨_, hp, (fun ci' p' q => by cases q; exact ⟨e5, e1⟩), hT.set hp (fun ci' p' q => by cases q; exact ⟨e5, e1⟩) hc hz (fun k' n' lo hi q => by cases q) (fun ci' p' q => ?_) hTR⟩
      cases q
      obtain ⟨vs, q1, q2⟩ := hT.2.2.2.2.1 (v a) ci p hp e5 e1
      have e3 : vs = encF G (S.1 a) 0 (rf.map (Option.map v)) := by
        rw [hc] at q1
        injection q1 with q1
        injection q1 with q1
        injection q1 with _ q1
        exact q1.symm
      subst e3
      refine ⟨encF G (S'.1 a) 0 (rf.map (Option.map v)), he.symm, ?_, fun j t g => ?_⟩
      · rw [encF_len, ← q2.1, encF_len]
      · obtain ⟨w, g1, g2⟩ := q2.2 j t g
        have hj : j < rf.length := by
          have := (List.getElem?_eq_some_iff.mp g1).1
          rw [encF_len, List.length_map] at this
          exact this
        cases hrf : rf[j]? with
        | none => exact absurd (List.getElem?_eq_none_iff.mp hrf) (by omega)
        | some u =>
          cases u with
          | none =>
            have g3 := hk h0 j hrf
            rw [g3] at g
            cases g
            refine ⟨_, encF_i (mp_none hrf), _, rfl, ?_⟩
            rw [Nat.zero_add]
            exact iv_ok (hr.1 a j) (cT_1 a j).1 (cT_1 a j).2
          | some r =>
            refine ⟨w, ?_, g2⟩
            rw [encF_r (mp_some hrf)] at g1 ⊢
            exact g1
  obtain ⟨t, ht, htn, hT'⟩ := hty
  refine ⟨τ, hT', fun b y hb => ?_, hI, hr, hD, hE, fun b hb => ?_, hFi, fun k k1 k2 => ⟨(hH k k1 k2).1, ?_⟩, by rw [List.length_set]; exact hL, hQ, fun h3 => ⟨by rw [List.getElem?_set_ne ((hZ h3).2 a x hs)]; exact (hZ h3).1, (hZ h3).2⟩⟩
  · by_cases hab : b = a
    · subst hab
      rw [hs] at hb
      cases hb
      rw [set_at hc, he]
    · rw [List.getElem?_set_ne (fun q => hab (hI b a _ _ hb hs q.symm)), hA b y hb, encC_ne (hn b hab)]
  · obtain ⟨s1, n, r, tt, ov, hS1, hM⟩ := hF b hb
    refine ⟨s1, n, r, tt, ov, ?_, tM_ne (hn b (fun q => hS (q ▸ hb))) hM⟩
    obtain ⟨p, hp⟩ := hQ (v b) s1
    obtain ⟨r', t', ov', hS2, hr'⟩ := hT.2.2.1 (v b) p hp
    have e := (hS1.uq hS2).1
    subst e
    obtain ⟨f, q1, q2, q3⟩ := hS1
    refine ⟨f, (List.getElem?_set_ne fun q => ?_).trans q1, (List.getElem?_set_ne fun q => ?_).trans q2, q3⟩
    · rw [q, hp] at ht
      exact (htn 5 p (Option.some.inj ht).symm).1 rfl
    · rw [q, hr'] at ht
      have := (htn _ _ (Option.some.inj ht).symm).2
      omega
  · rw [List.getElem?_set_ne fun q => by subst q; rw [(hH _ k1 k2).1] at ht; cases ht]
    exact (hH k k1 k2).2
/-- a Signs of the world, and what a change of it leaves -/
theorem Wv.sg {G : xG} {v : Nat → Nat} {sh : Nat → Option Sh} {B : Nat × Nat} {c0 : List va_E} {S : St} {cs : List va_E} {a : Nat} (hW : Wv G v sh B c0 S cs) (ha : isS a) (hns : ∀ b x, sh b = some x → b ≠ a) : ∃ n r t ov, Sg G cs (v a) r n t ov ∧ Rm cs n ∧ tM S a t ov ∧ t.length ≤ 3000 ∧ ∀ (c1 : List va_E) (r1 n1 : Nat) (t1 : List Int32) (ov1 : Bool) (S1 : St), Sg G c1 (v a) r1 n1 t1 ov1 → Fr cs c1 (v a) r r1 n n1 → tM S1 a t1 ov1 → (∀ a', a' ≠ a → S1.1 a' = S.1 a' ∧ S1.2 a' = S.2 a') → okT cT S1 → Wv G v sh B c0 S1 c1 := by
  obtain ⟨τ, hT, hA, hI, hO, hD, hE, hF, hFi, hH, hL, hQ, hZ⟩ := hW
  obtain ⟨s1, n, r, t, ov, hS, hM⟩ := hF a ha
  obtain ⟨p, hp⟩ := hQ (v a) s1
  obtain ⟨r', t', ov', hS2, hr'⟩ := hT.2.2.1 (v a) p hp
  obtain ⟨e1, e2⟩ := hS.uq hS2
  subst e1 e2
  have hlen : t.length ≤ 3000 := by
    obtain ⟨f, -, -, q1, q2, -⟩ := hS
    omega
  refine ⟨n, r, t, ov, hS, Sg.rm hT hp, hM, hlen, fun c1 r1 n1 t1 ov1 S1 hS1 hFr hM1 hn hok => ?_⟩
  obtain ⟨τ1, hT1, hX⟩ := hT.signs hp hS hr' hS1 hFr
  have same : ∀ b u, τ b = some u → (∀ q, u ≠ .inl (5, q)) → (∀ q, u ≠ .inl (100 + v a, q)) → c1[b]? = cs[b]? := fun b u hb h1 h2 => hFr.2.2.1 b (hT.1 b u hb) (fun e => by subst e; rw [hp] at hb; exact h1 _ (Option.some.inj hb).symm) (fun e => by subst e; rw [hr'] at hb; exact h2 _ (Option.some.inj hb).symm)
  refine ⟨τ1, hT1, fun b y hb => ?_, hI, hok, fun b k m hb => hX.1.a (hD b k m hb), fun b ci rf hb => ?_, fun b hb => ?_, hFi, fun k k1 k2 => ?_, Nat.le_trans hL hX.2.1, fun b hb => hX.1.s (hQ b hb), fun h3 => ?_⟩
  · have hc : c1[v b]? = cs[v b]? := by
      cases y with
      | inr q => exact same _ _ (hD b q.1 q.2 hb) (fun _ q => by cases q) (fun _ q => by cases q)
      | inl q =>
        obtain ⟨g5, g1, g6, p', hp', -⟩ := hE b q.1 q.2 hb
        exact same _ _ hp' (fun _ q => g5 (inl_fst q)) (fun _ q => by have := inl_fst q; omega)
    rw [hc, hA b y hb, encC_ne (hn b (hns b y hb))]
  · obtain ⟨g5, g1, g6, p', hp', hk⟩ := hE b ci rf hb
    exact ⟨g5, g1, g6, p', hX.1.e hp' g5, hk⟩
  · by_cases q : b = a
    · subst q
      exact ⟨s1, n1, r1, t1, ov1, hS1, hM1⟩
    · obtain ⟨sb, nb, rb, tb, ob, hSb, hMb⟩ := hF b hb
      refine ⟨sb, nb, rb, tb, ob, ?_, tM_ne (hn b q) hMb⟩
      obtain ⟨pb, hpb⟩ := hQ (v b) sb
      obtain ⟨rb', tb', ob', hSb2, hrb'⟩ := hT.2.2.1 (v b) pb hpb
      have e := (hSb.uq hSb2).1
      subst e
      have hvb : v b ≠ v a := fun e => q (hFi b a hb ha e)
      obtain ⟨f, q1, q2, q3⟩ := hSb
      refine ⟨f, (hFr.2.2.1 (v b) (hT.1 _ _ hpb) hvb (fun e => ?_)).trans q1, (same rb _ hrb' (fun _ q => by have := inl_fst q; omega) (fun _ q => by have := inl_fst q; omega)).trans q2, q3⟩
      rw [e, hr'] at hpb
      have := some_fst hpb
      omega
  · obtain ⟨e1, e2⟩ := hH k k1 k2
    obtain ⟨e3, e4⟩ := hX.2.2.1 k (by omega) e1
    exact ⟨e4, e3.trans e2⟩
  · obtain ⟨p3, z3⟩ := hT.2.1.2.1
    exact ⟨(same 3 _ z3 (fun _ q => by have := inl_fst q; omega) (fun _ q => by have := inl_fst q; omega)).trans (hZ h3).1, (hZ h3).2⟩
def vI (G : xG) (v : Nat → Nat) (sh : Nat → Option Sh) (B : Nat × Nat) (c0 : List va_E) (K : Int → St → Prop) : xP := fun r cs => ∃ (x : Int) (S : St), r = some (.int (Int32.ofInt x)) ∧ K x S ∧ Wv G v sh B c0 S cs
def vV (G : xG) (v : Nat → Nat) (sh : Nat → Option Sh) (B : Nat × Nat) (c0 : List va_E) (K : Int → St → Prop) : xP := fun r cs => ∃ (x : Int) (S : St), r = none ∧ K x S ∧ Wv G v sh B c0 S cs
theorem oI_u32 {x : Int} (h : iv 0 65535 x) : ((Int32.ofInt x).toUInt32 % 65536).toInt32 = Int32.ofInt x := by
  have e : (Int32.ofInt x).toUInt32 % 65536 = (Int32.ofInt x).toUInt32 := by
    apply UInt32.toNat_inj.mp
    rw [UInt32.toNat_mod]
    have q : (Int32.ofInt x).toUInt32.toNat = x.toNat := by
      show (BitVec.ofInt 32 x).toNat = x.toNat
      rw [BitVec.toNat_ofInt]
      omega
    rw [q]
    show x.toNat % 65536 = x.toNat
    omega
  rw [e]
  rfl
theorem chr_oI {x : Int} (h : iv 0 65535 x) : chr (Int32.ofInt x) = Int32.ofInt x := by rw [chr_eq, oI_u32 h]
theorem vnarC {x : Int} (h : iv 0 65535 x) : vp_nar .char (Int32.ofInt x) = Int32.ofInt x := by
  have q := chr_oI h
  unfold chr at q
  rwa [oI_u32 h] at q
def bsr (x y : Int) : Int := (Int32.ofInt x >>> (Int32.ofInt y &&& 31)).toInt
def bsl (x y : Int) : Int := (Int32.ofInt x <<< (Int32.ofInt y &&& 31)).toInt
def bnd (x y : Int) : Int := (Int32.ofInt x &&& Int32.ofInt y).toInt
def bor (x y : Int) : Int := (Int32.ofInt x ||| Int32.ofInt y).toInt
/-- sign k of the i-th String -/
def sch (i : Nat) (k : Int) : Int := (sxAt i (Int32.ofInt k)).toInt
section ZV
variable {own : String} {cc : ByteArray} {nL : Nat} {ret : Option FieldType} {ini : Bool} {G : xG} {d : Nat} {Post : xP} {pc : Nat} {L : List (Nat × Value)} {rest : List Value} {cs : List va_E}
variable {v : Nat → Nat} {sh : Nat → Option Sh} {B : Nat × Nat} {c0 : List va_E} {S : St}

theorem v_iand {x y : Int} (hdg : decode cc pc = .ok (.iand, 1)) (kk : Z (own, cc, nL, ret, ini) G d Post (pc + 1) L (.int (Int32.ofInt (bnd x y)) :: rest) cs) : Z (own, cc, nL, ret, ini) G d Post pc L (.int (Int32.ofInt y) :: .int (Int32.ofInt x) :: rest) cs := z_iand hdg (by unfold bnd at kk; rw [Int32.ofInt_toInt] at kk; exact kk)
theorem v_ior {x y : Int} (hdg : decode cc pc = .ok (.ior, 1)) (kk : Z (own, cc, nL, ret, ini) G d Post (pc + 1) L (.int (Int32.ofInt (bor x y)) :: rest) cs) : Z (own, cc, nL, ret, ini) G d Post pc L (.int (Int32.ofInt y) :: .int (Int32.ofInt x) :: rest) cs := z_ior hdg (by unfold bor at kk; rw [Int32.ofInt_toInt] at kk; exact kk)
theorem v_ishl {x y : Int} (hdg : decode cc pc = .ok (.ishl, 1)) (kk : Z (own, cc, nL, ret, ini) G d Post (pc + 1) L (.int (Int32.ofInt (bsl x y)) :: rest) cs) : Z (own, cc, nL, ret, ini) G d Post pc L (.int (Int32.ofInt y) :: .int (Int32.ofInt x) :: rest) cs := z_ishl hdg (by unfold bsl at kk; rw [Int32.ofInt_toInt] at kk; exact kk)
theorem v_ishr {x y : Int} (hdg : decode cc pc = .ok (.ishr, 1)) (kk : Z (own, cc, nL, ret, ini) G d Post (pc + 1) L (.int (Int32.ofInt (bsr x y)) :: rest) cs) : Z (own, cc, nL, ret, ini) G d Post pc L (.int (Int32.ofInt y) :: .int (Int32.ofInt x) :: rest) cs := z_ishr hdg (by unfold bsr at kk; rw [Int32.ofInt_toInt] at kk; exact kk)
theorem i_l2it {x : Int} (hdg : decode cc pc = .ok (.l2i, 1)) (kk : Z (own, cc, nL, ret, ini) G d Post (pc + 1) L (.int (Int32.ofInt (tI x)) :: rest) cs) : Z (own, cc, nL, ret, ini) G d Post pc L (.long (Int64.ofInt x) :: rest) cs := i_l2i hdg (by rw [tI_of] at kk; exact kk)
theorem v_i2c {x : Int} (h : iv 0 65535 x) (hdg : decode cc pc = .ok (.i2c, 1)) (kk : Z (own, cc, nL, ret, ini) G d Post (pc + 1) L (.int (Int32.ofInt x) :: rest) cs) : Z (own, cc, nL, ret, ini) G d Post pc L (.int (Int32.ofInt x) :: rest) cs := z_i2c hdg (by rw [oI_u32 h]; exact kk)
theorem v_mmax {idx : Nat} {x y : Int} (hl : Cond.methodLink own idx Lib.Math.max.name ∈ xTs) (hs : Cond.static Lib.Math.max.name ∈ xTs) (hi : Cond.initialized "java/lang/Math" ∈ xTs) (hdg : decode cc pc = .ok (.invokestatic idx, 3)) (hd : 1 ≤ d) (hw : (rest.map fun v => v.category).sum ≤ 8) (hx : rng x) (hy : rng y) (kk : Z (own, cc, nL, ret, ini) G d Post (pc + 3) L (.int (Int32.ofInt (if x < y then y else x)) :: rest) cs) : Z (own, cc, nL, ret, ini) G d Post pc L (.int (Int32.ofInt y) :: .int (Int32.ofInt x) :: rest) cs := by
  refine z_mmax hl hs hi hdg hd hw ?_
  have e : jMax (Int32.ofInt x) (Int32.ofInt y) = Int32.ofInt (if x < y then y else x) := by
    unfold jMax
    by_cases q : x < y
    · rw [if_pos q, if_pos ((oI_lt hx hy).mpr q)]
    · rw [if_neg q, if_neg (fun r => q ((oI_lt hx hy).mp r))]
  rw [e]
  exact kk
theorem v_mmin {idx : Nat} {x y : Int} (hl : Cond.methodLink own idx Lib.Math.min.name ∈ xTs) (hs : Cond.static Lib.Math.min.name ∈ xTs) (hi : Cond.initialized "java/lang/Math" ∈ xTs) (hdg : decode cc pc = .ok (.invokestatic idx, 3)) (hd : 1 ≤ d) (hw : (rest.map fun v => v.category).sum ≤ 8) (hx : rng x) (hy : rng y) (kk : Z (own, cc, nL, ret, ini) G d Post (pc + 3) L (.int (Int32.ofInt (if y < x then y else x)) :: rest) cs) : Z (own, cc, nL, ret, ini) G d Post pc L (.int (Int32.ofInt y) :: .int (Int32.ofInt x) :: rest) cs := by
  refine z_mmin hl hs hi hdg hd hw ?_
  have e : jMin (Int32.ofInt x) (Int32.ofInt y) = Int32.ofInt (if y < x then y else x) := by
    unfold jMin
    by_cases q : y < x
    · rw [if_pos q, if_pos ((oI_lt hy hx).mpr q)]
    · rw [if_neg q, if_neg (fun r => q ((oI_lt hy hx).mp r))]
  rw [e]
  exact kk
theorem v_mabsl {idx : Nat} {x : Int} (hl : Cond.methodLink own idx Lib.MathLoose.abs_long.x ∈ xTs) (hs : Cond.static Lib.MathLoose.abs_long.x ∈ xTs) (hi : Cond.initialized "java/lang/Math" ∈ xTs) (hdg : decode cc pc = .ok (.invokestatic idx, 3)) (hd : 1 ≤ d) (hw : (rest.map fun v => v.category).sum ≤ 8) (hx : rngL x) (kk : Z (own, cc, nL, ret, ini) G d Post (pc + 3) L (.long (Int64.ofInt (if 0 < x then x else -x)) :: rest) cs) : Z (own, cc, nL, ret, ini) G d Post pc L (.long (Int64.ofInt x) :: rest) cs := by
  refine z_mabsl hl hs hi hdg hd hw ?_
  have e : jAbs (Int64.ofInt x) = Int64.ofInt (if 0 < x then x else -x) := by
    unfold jAbs
    have e0 : (0 : Int64) = Int64.ofInt 0 := rfl
    by_cases q : 0 < x
    · rw [if_pos q, if_pos (by rw [e0]; exact (oL_lt ⟨by decide, by decide⟩ hx).mpr q)]
    · rw [if_neg q, if_neg (fun r => q (by rw [e0] at r; exact (oL_lt ⟨by decide, by decide⟩ hx).mp r)), oL_neg]
  rw [e]
  exact kk
theorem v_getI {C : String} {TT : u_T} {N ci index k a : Nat} {ty : Nat → FieldType} {rf : List (Option Nat)} (hW : Wv G v sh B c0 S cs) (hs : sh a = some (.inl (ci, rf))) (hr : rf[k]? = some none) (hc : xCl ci C TT N ty) (hf : xFl own index TT N k) (hdg : decode cc pc = .ok (.getfield index, 3)) (kk : Z (own, cc, nL, ret, ini) G d Post (pc + 3) L (.int (Int32.ofInt (S.1 a k)) :: rest) cs) : Z (own, cc, nL, ret, ini) G d Post pc L (.ref (G.1 + v a) :: rest) cs := z_get hc hf hdg (hW.at hs) (by rw [encF_i (mp_none hr), Nat.zero_add]) kk
theorem v_getR {C : String} {TT : u_T} {N ci index k a t : Nat} {ty : Nat → FieldType} {rf : List (Option Nat)} (hW : Wv G v sh B c0 S cs) (hs : sh a = some (.inl (ci, rf))) (hr : rf[k]? = some (some t)) (hc : xCl ci C TT N ty) (hf : xFl own index TT N k) (hdg : decode cc pc = .ok (.getfield index, 3)) (kk : Z (own, cc, nL, ret, ini) G d Post (pc + 3) L (.ref (G.1 + v t) :: rest) cs) : Z (own, cc, nL, ret, ini) G d Post pc L (.ref (G.1 + v a) :: rest) cs := z_get hc hf hdg (hW.at hs) (encF_r (mp_some hr)) kk
theorem v_putI {C : String} {TT : u_T} {N ci index k a : Nat} {ty : Nat → FieldType} {rf : List (Option Nat)} {x : Int} (hW : Wv G v sh B c0 S cs) (hs : sh a = some (.inl (ci, rf))) (ha : a ≠ 0 ∧ a ≠ 3 ∧ a ≠ 11 ∧ a ≠ 12) (haS : ¬ isS a) (hr : rf[k]? = some none) (hc : xCl ci C TT N ty) (hf : xFl own index TT N k) (hdg : decode cc pc = .ok (.putfield index, 3)) (hfin : (TT k).2.2.2 = false) (hn : narrow (ty k) (.int (Int32.ofInt x)) = .int (Int32.ofInt x)) (hfit : fits (ty k) (.int (Int32.ofInt x)) = true) (hv : iv (cT.1 a k).1 (cT.1 a k).2 x) (kk : ∀ cs : List va_E, Wv G v sh B c0 (pI S a k x) cs → Z (own, cc, nL, ret, ini) G d Post (pc + 3) L rest cs) : Z (own, cc, nL, ret, ini) G d Post pc L (.int (Int32.ofInt x) :: .ref (G.1 + v a) :: rest) cs := by
  refine z_put hc hf hdg hfin (hW.at hs) hn hfit ?_ (kk _ ?_)
  · rw [encF_len, List.length_map]
    exact (List.getElem?_eq_some_iff.mp hr).1
  · refine hW.set hs ha.1 haS ?_ rfl pI_ne (pI_ok hW.ok hv) (hW.trn hs ha)
    rw [encF_set (mp_none hr)]
    have e : encF G ((pI S a k x).1 a) 0 (rf.map (Option.map v)) = encF G (fun i => if i = 0 + k then x else S.1 a i) 0 (rf.map (Option.map v)) := by
      refine encF_eq fun i hi => ?_
      show (if a = a ∧ i = k then x else S.1 a i) = if i = 0 + k then x else S.1 a i
      rw [Nat.zero_add]
      by_cases q : i = k
      · rw [if_pos ⟨rfl, q⟩, if_pos q]
      · rw [if_neg (fun r => q r.2), if_neg q]
    show (Sum.inr (ci, encF G ((pI S a k x).1 a) 0 (rf.map (Option.map v))) : va_E) = _
    rw [e]
theorem v_putI3 {C : String} {TT : u_T} {N ci index k a : Nat} {ty : Nat → FieldType} {rf : List (Option Nat)} {x : Int} {rt : List (Option Nat)} (hW : Wv G v sh B c0 S cs) (hs : sh a = some (.inl (ci, rf))) (ha : a ≠ 0) (h3 : sh 3 = some (.inl (6, rt))) (h16 : rt[16]? = some none) (h17 : rt[17]? = some none) (h11 : sh 11 = some (.inr (0, 200))) (h12 : sh 12 = some (.inr (0, 200))) (hR : TRS (pI S a k x)) (haS : ¬ isS a) (hr : rf[k]? = some none) (hc : xCl ci C TT N ty) (hf : xFl own index TT N k) (hdg : decode cc pc = .ok (.putfield index, 3)) (hfin : (TT k).2.2.2 = false) (hn : narrow (ty k) (.int (Int32.ofInt x)) = .int (Int32.ofInt x)) (hfit : fits (ty k) (.int (Int32.ofInt x)) = true) (hv : iv (cT.1 a k).1 (cT.1 a k).2 x) (kk : ∀ cs : List va_E, Wv G v sh B c0 (pI S a k x) cs → Z (own, cc, nL, ret, ini) G d Post (pc + 3) L rest cs) : Z (own, cc, nL, ret, ini) G d Post pc L (.int (Int32.ofInt x) :: .ref (G.1 + v a) :: rest) cs := by
  refine z_put hc hf hdg hfin (hW.at hs) hn hfit ?_ (kk _ ?_)
  · rw [encF_len, List.length_map]
    exact (List.getElem?_eq_some_iff.mp hr).1
  · have e : encF G ((pI S a k x).1 a) 0 (rf.map (Option.map v)) = encF G (fun i => if i = 0 + k then x else S.1 a i) 0 (rf.map (Option.map v)) := by
      refine encF_eq fun i hi => ?_
      show (if a = a ∧ i = k then x else S.1 a i) = if i = 0 + k then x else S.1 a i
      rw [Nat.zero_add]
      by_cases q : i = k
      · rw [if_pos ⟨rfl, q⟩, if_pos q]
      · rw [if_neg (fun r => q r.2), if_neg q]
    have he : encC G (pI S a k x) a (vSh v (.inl (ci, rf))) = .inr (ci, (encF G (S.1 a) 0 (rf.map (Option.map v))).set k (.int (Int32.ofInt x))) := by
      rw [encF_set (mp_none hr)]
      show (Sum.inr (ci, encF G ((pI S a k x).1 a) 0 (rf.map (Option.map v))) : va_E) = _
      rw [e]
    exact hW.set hs ha haS he rfl pI_ne (pI_ok hW.ok hv) (hW.trs h3 h16 h17 h11 h12 hs he pI_ne (pI_ok hW.ok hv) hR)
theorem Wv.putE {a ty n : Nat} {i x : Int} (h0 : 0 ≤ i) (h1 : i < (n : Int)) (hn : n < 2147483648) : encC G (pA S a i x) a (vSh v (.inr (ty, n))) = .inl (G.2.2.1 ty, n, .inl (upd (fun i => Int32.ofInt (S.2 a (i : Int))) (Int32.ofInt i).toNatClampNeg (Int32.ofInt x))) := by
  have e : (fun k : Nat => Int32.ofInt ((pA S a i x).2 a (k : Int))) = upd (fun i => Int32.ofInt (S.2 a (i : Int))) (Int32.ofInt i).toNatClampNeg (Int32.ofInt x) := by
    funext k
    rw [oI_cl h0 h1 hn]
    show Int32.ofInt (if a = a ∧ (k : Int) = i then x else S.2 a k) = if k = i.toNat then Int32.ofInt x else Int32.ofInt (S.2 a k)
    by_cases q : k = i.toNat
    · rw [if_pos q, if_pos ⟨rfl, by omega⟩]
    · rw [if_neg q, if_neg (fun r => q (by omega))]
  show (Sum.inl (G.2.2.1 ty, n, Sum.inl (fun k : Nat => Int32.ofInt ((pA S a i x).2 a (k : Int)))) : va_E) = _
  rw [e]
theorem Wv.putA {a ty n : Nat} {i x : Int} (hW : Wv G v sh B c0 S cs) (hs : sh a = some (.inr (ty, n))) (ha : a ≠ 0 ∧ a ≠ 3 ∧ a ≠ 11 ∧ a ≠ 12) (haS : ¬ isS a) (h0 : 0 ≤ i) (h1 : i < (n : Int)) (hn : n < 2147483648) (hv : iv (cT.2 a).1 (cT.2 a).2 x) : Wv G v sh B c0 (pA S a i x) (cs.set (v a) (.inl (G.2.2.1 ty, n, .inl (upd (fun i => Int32.ofInt (S.2 a (i : Int))) (Int32.ofInt i).toNatClampNeg (Int32.ofInt x))))) := hW.set hs ha.1 haS (Wv.putE h0 h1 hn) rfl pA_ne (pA_ok hW.ok hv) (hW.trn hs ha)
theorem Wv.putA3 {a ty n : Nat} {i x : Int} {rt : List (Option Nat)} (hW : Wv G v sh B c0 S cs) (hs : sh a = some (.inr (ty, n))) (ha : a ≠ 0) (h3 : sh 3 = some (.inl (6, rt))) (h16 : rt[16]? = some none) (h17 : rt[17]? = some none) (h11 : sh 11 = some (.inr (0, 200))) (h12 : sh 12 = some (.inr (0, 200))) (hR : TRS (pA S a i x)) (haS : ¬ isS a) (h0 : 0 ≤ i) (h1 : i < (n : Int)) (hn : n < 2147483648) (hv : iv (cT.2 a).1 (cT.2 a).2 x) : Wv G v sh B c0 (pA S a i x) (cs.set (v a) (.inl (G.2.2.1 ty, n, .inl (upd (fun i => Int32.ofInt (S.2 a (i : Int))) (Int32.ofInt i).toNatClampNeg (Int32.ofInt x))))) := hW.set hs ha haS (Wv.putE h0 h1 hn) rfl pA_ne (pA_ok hW.ok hv) (hW.trs h3 h16 h17 h11 h12 hs (Wv.putE h0 h1 hn) pA_ne (pA_ok hW.ok hv) hR)
theorem v_alen {a k n t0 : Nat} {fty : FieldType} (hW : Wv G v sh B c0 S cs) (hs : sh a = some (.inr (k, n))) (ht : (xTy G)[t0]? = some (G.2.2.1 k, fty)) (hdg : decode cc pc = .ok (.arraylength, 1)) (kk : Z (own, cc, nL, ret, ini) G d Post (pc + 1) L (.int (Int32.ofInt (n : Int)) :: rest) cs) : Z (own, cc, nL, ret, ini) G d Post pc L (.ref (G.1 + v a) :: rest) cs := z_alen hdg (hW.at hs) ht rfl kk
theorem v_iald {a n : Nat} {i : Int} (hW : Wv G v sh B c0 S cs) (hs : sh a = some (.inr (0, n))) (h0 : 0 ≤ i) (h1 : i < (n : Int)) (hn : n < 2147483648) (hdg : decode cc pc = .ok (.iaload, 1)) (kk : Z (own, cc, nL, ret, ini) G d Post (pc + 1) L (.int (Int32.ofInt (S.2 a i)) :: rest) cs) : Z (own, cc, nL, ret, ini) G d Post pc L (.int (Int32.ofInt i) :: .ref (G.1 + v a) :: rest) cs := z_iald hdg (hW.at hs) (oI_in h0 h1 hn) (by rw [oI_cl h0 h1 hn, Int.toNat_of_nonneg h0]; exact kk)
theorem v_cald {a n : Nat} {i : Int} (hW : Wv G v sh B c0 S cs) (hs : sh a = some (.inr (1, n))) (h0 : 0 ≤ i) (h1 : i < (n : Int)) (hn : n < 2147483648) (hdg : decode cc pc = .ok (.caload, 1)) (kk : Z (own, cc, nL, ret, ini) G d Post (pc + 1) L (.int (Int32.ofInt (S.2 a i)) :: rest) cs) : Z (own, cc, nL, ret, ini) G d Post pc L (.int (Int32.ofInt i) :: .ref (G.1 + v a) :: rest) cs := z_cald hdg (hW.at hs) (oI_in h0 h1 hn) (by rw [oI_cl h0 h1 hn, Int.toNat_of_nonneg h0]; exact kk)
theorem v_zald {a n : Nat} {i : Int} (hW : Wv G v sh B c0 S cs) (hs : sh a = some (.inr (2, n))) (h0 : 0 ≤ i) (h1 : i < (n : Int)) (hn : n < 2147483648) (hdg : decode cc pc = .ok (.baload, 1)) (kk : Z (own, cc, nL, ret, ini) G d Post (pc + 1) L (.int (Int32.ofInt (S.2 a i)) :: rest) cs) : Z (own, cc, nL, ret, ini) G d Post pc L (.int (Int32.ofInt i) :: .ref (G.1 + v a) :: rest) cs := z_zald hdg (hW.at hs) (oI_in h0 h1 hn) (by rw [oI_cl h0 h1 hn, Int.toNat_of_nonneg h0]; exact kk)
theorem v_iast {a n : Nat} {i x : Int} (hW : Wv G v sh B c0 S cs) (hs : sh a = some (.inr (0, n))) (ha : a ≠ 0 ∧ a ≠ 3 ∧ a ≠ 11 ∧ a ≠ 12) (haS : ¬ isS a) (h0 : 0 ≤ i) (h1 : i < (n : Int)) (hn : n < 2147483648) (hv : iv (cT.2 a).1 (cT.2 a).2 x) (hdg : decode cc pc = .ok (.iastore, 1)) (kk : ∀ cs : List va_E, Wv G v sh B c0 (pA S a i x) cs → Z (own, cc, nL, ret, ini) G d Post (pc + 1) L rest cs) : Z (own, cc, nL, ret, ini) G d Post pc L (.int (Int32.ofInt x) :: .int (Int32.ofInt i) :: .ref (G.1 + v a) :: rest) cs := z_iast hdg (hW.at hs) (oI_in h0 h1 hn) (by exact kk _ (hW.putA hs ha haS h0 h1 hn hv))
theorem v_cast {a n : Nat} {i x : Int} (hW : Wv G v sh B c0 S cs) (hs : sh a = some (.inr (1, n))) (ha : a ≠ 0 ∧ a ≠ 3 ∧ a ≠ 11 ∧ a ≠ 12) (haS : ¬ isS a) (h0 : 0 ≤ i) (h1 : i < (n : Int)) (hn : n < 2147483648) (hc : iv 0 65535 x) (hv : iv (cT.2 a).1 (cT.2 a).2 x) (hdg : decode cc pc = .ok (.castore, 1)) (kk : ∀ cs : List va_E, Wv G v sh B c0 (pA S a i x) cs → Z (own, cc, nL, ret, ini) G d Post (pc + 1) L rest cs) : Z (own, cc, nL, ret, ini) G d Post pc L (.int (Int32.ofInt x) :: .int (Int32.ofInt i) :: .ref (G.1 + v a) :: rest) cs := z_cast hdg (hW.at hs) (oI_in h0 h1 hn) (by rw [vnarC hc]; exact kk _ (hW.putA hs ha haS h0 h1 hn hv))
theorem v_zast {a n : Nat} {i x : Int} (hW : Wv G v sh B c0 S cs) (hs : sh a = some (.inr (2, n))) (ha : a ≠ 0 ∧ a ≠ 3 ∧ a ≠ 11 ∧ a ≠ 12) (haS : ¬ isS a) (h0 : 0 ≤ i) (h1 : i < (n : Int)) (hn : n < 2147483648) (hb : x = 0 ∨ x = 1) (hv : iv (cT.2 a).1 (cT.2 a).2 x) (hdg : decode cc pc = .ok (.bastore, 1)) (kk : ∀ cs : List va_E, Wv G v sh B c0 (pA S a i x) cs → Z (own, cc, nL, ret, ini) G d Post (pc + 1) L rest cs) : Z (own, cc, nL, ret, ini) G d Post pc L (.int (Int32.ofInt x) :: .int (Int32.ofInt i) :: .ref (G.1 + v a) :: rest) cs := z_zast hdg (hW.at hs) (oI_in h0 h1 hn) (by rw [vnar01 hb]; exact kk _ (hW.putA hs ha haS h0 h1 hn hv))
theorem v_iast3 {a n : Nat} {i x : Int} {rt : List (Option Nat)} (hW : Wv G v sh B c0 S cs) (hs : sh a = some (.inr (0, n))) (ha : a ≠ 0) (h3 : sh 3 = some (.inl (6, rt))) (h16 : rt[16]? = some none) (h17 : rt[17]? = some none) (h11 : sh 11 = some (.inr (0, 200))) (h12 : sh 12 = some (.inr (0, 200))) (hR : TRS (pA S a i x)) (haS : ¬ isS a) (h0 : 0 ≤ i) (h1 : i < (n : Int)) (hn : n < 2147483648) (hv : iv (cT.2 a).1 (cT.2 a).2 x) (hdg : decode cc pc = .ok (.iastore, 1)) (kk : ∀ cs : List va_E, Wv G v sh B c0 (pA S a i x) cs → Z (own, cc, nL, ret, ini) G d Post (pc + 1) L rest cs) : Z (own, cc, nL, ret, ini) G d Post pc L (.int (Int32.ofInt x) :: .int (Int32.ofInt i) :: .ref (G.1 + v a) :: rest) cs := z_iast hdg (hW.at hs) (oI_in h0 h1 hn) (by exact kk _ (hW.putA3 hs ha h3 h16 h17 h11 h12 hR haS h0 h1 hn hv))
end ZV
/-! SIGNS AS ONE VALUE -/
def sPut (S : St) (a : Nat) (u : Int) : St := if S.1 a 1 < 3000 then pI (pA S a (S.1 a 1) u) a 1 (S.1 a 1 + 1) else pI S a 2 1
def sClr (S : St) (a : Nat) : St := pI (pI S a 1 0) a 2 0
def sPuts : St → Nat → List Int → St
  | S, _, [] => S
  | S, a, u :: l => sPuts (sPut S a u) a l
theorem isS_T {a : Nat} (h : isS a) (j : Nat) : cT.1 a j = (-2147483648, 2147483647) ∧ cT.2 a = (-2147483648, 2147483647) := by
  rcases h with rfl | rfl | rfl | rfl <;> exact ⟨rfl, rfl⟩
theorem sPut_ne {S : St} {a : Nat} {u : Int} : ∀ a', a' ≠ a → (sPut S a u).1 a' = S.1 a' ∧ (sPut S a u).2 a' = S.2 a' := fun a' h => by
  unfold sPut
  split
  · exact ⟨(pI_ne a' h).1.trans (pA_ne a' h).1, (pI_ne a' h).2.trans (pA_ne a' h).2⟩
  · exact pI_ne a' h
theorem sClr_ne {S : St} {a : Nat} : ∀ a', a' ≠ a → (sClr S a).1 a' = S.1 a' ∧ (sClr S a).2 a' = S.2 a' := fun a' h => ⟨(pI_ne a' h).1.trans (pI_ne a' h).1, (pI_ne a' h).2.trans (pI_ne a' h).2⟩
theorem sPuts_ne {a : Nat} : ∀ {l : List Int} {S : St}, ∀ a', a' ≠ a → (sPuts S a l).1 a' = S.1 a' ∧ (sPuts S a l).2 a' = S.2 a'
  | [], S, a', h => ⟨rfl, rfl⟩
  | u :: l, S, a', h => ⟨(sPuts_ne (l := l) a' h).1.trans (sPut_ne a' h).1, (sPuts_ne (l := l) a' h).2.trans (sPut_ne a' h).2⟩
theorem sPut_ok {S : St} {a : Nat} {u : Int} (h : okT cT S) (ha : isS a) (hu : iv 0 65535 u) (h1 : iv 0 3000 (S.1 a 1)) : okT cT (sPut S a u) := by
  unfold sPut
  split
  · refine pI_ok (pA_ok h ?_) ?_
    · rw [(isS_T ha 0).2]
      exact ⟨by omega, by omega⟩
    · rw [(isS_T ha 1).1]
      exact ⟨by omega, by omega⟩
  · refine pI_ok h ?_
    rw [(isS_T ha 2).1]
    exact ⟨by decide, by decide⟩
theorem tM_put {S : St} {a : Nat} {t : List Int32} {ov : Bool} {u : Int} (h : tM S a t ov) (hu : iv 0 65535 u) (hl : t.length ≤ 3000) : tM (sPut S a u) a (sgPut t (Int32.ofInt u)) (ov || sgFull t) ∧ (sgPut t (Int32.ofInt u)).length ≤ 3000 := by
  obtain ⟨h1, h2, h3⟩ := h
  unfold sPut sgPut sgFull
  by_cases q : t.length < 3000
  · rw [if_pos (by omega), if_pos q, chr_oI hu]
    refine ⟨⟨?_, ?_, fun i hi => ?_⟩, by simp; omega⟩
    · show (if a = a ∧ 1 = 1 then S.1 a 1 + 1 else _) = _
      rw [if_pos ⟨rfl, rfl⟩, h1]
      simp
    · show (if a = a ∧ 2 = 1 then S.1 a 1 + 1 else S.1 a 2) = _
      rw [if_neg (fun q => absurd q.2 (by decide)), h2]
      simp [q]
    · show _ = Int32.ofInt (if a = a ∧ (i : Int) = S.1 a 1 then u else S.2 a i) ∧ iv 0 65535 (if a = a ∧ (i : Int) = S.1 a 1 then u else S.2 a i)
      by_cases e : i < t.length
      · rw [if_neg (by omega), List.getD_eq_getElem?_getD, List.getElem?_append_left e, ← List.getD_eq_getElem?_getD]
        exact h3 i e
      · have e2 : i = t.length := by simp at hi; omega
        rw [if_pos ⟨rfl, by omega⟩, List.getD_eq_getElem?_getD, e2, List.getElem?_append_right (Nat.le_refl _)]
        simp
        exact hu
  · rw [if_neg (by omega), if_neg q]
    refine ⟨⟨?_, ?_, fun i hi => ?_⟩, hl⟩
    · show (if a = a ∧ 1 = 2 then (1 : Int) else S.1 a 1) = _
      rw [if_neg (fun q => absurd q.2 (by decide))]
      exact h1
    · show (if a = a ∧ 2 = 2 then (1 : Int) else S.1 a 2) = _
      rw [if_pos ⟨rfl, rfl⟩]
      simp [q]
    · exact h3 i hi
theorem tM_puts {a : Nat} (ha : isS a) : ∀ {l : List Int} {S : St} {t : List Int32} {ov : Bool}, tM S a t ov → okT cT S → (∀ u ∈ l, iv 0 65535 u) → t.length ≤ 3000 → tM (sPuts S a l) a (sgPuts t (l.map Int32.ofInt)) (sgOvs t ov (l.map Int32.ofInt)) ∧ okT cT (sPuts S a l)
  | [], S, t, ov, h, hk, hu, hl => ⟨h, hk⟩
  | u :: l, S, t, ov, h, hk, hu, hl => by
    have hu1 : iv 0 65535 u := hu u (List.mem_cons_self ..)
    have hi : iv 0 3000 (S.1 a 1) := by
      have := h.1
      omega
    obtain ⟨q1, q2⟩ := tM_put (u := u) h hu1 hl
    exact tM_puts (l := l) (S := sPut S a u) (t := sgPut t (Int32.ofInt u)) (ov := ov || sgFull t) ha q1 (sPut_ok hk ha hu1 hi) (fun x hx => hu x (List.mem_cons_of_mem _ hx)) q2
def txt (S : St) (a : Nat) : List Int := (List.range (S.1 a 1).toNat).map (fun (i : Nat) => S.2 a (i : Int))
def str (i : Nat) : List Int := (xByt.getD i []).map Int32.toInt
theorem txt_tM {S : St} {a : Nat} {t : List Int32} {ov : Bool} (h : tM S a t ov) : t = (txt S a).map Int32.ofInt ∧ ∀ u ∈ txt S a, iv 0 65535 u := by
  obtain ⟨h1, -, h3⟩ := h
  unfold txt
  rw [h1]
  refine ⟨List.ext_getElem (by simp) (fun i g1 g2 => ?_), fun u hu => ?_⟩
  · have := (h3 i g1).1
    rw [List.getD_eq_getElem?_getD, List.getElem?_eq_getElem g1] at this
    simpa using this
  · simp at hu
    obtain ⟨i, hi, rfl⟩ := hu
    exact (h3 i hi).2
theorem str_map (i : Nat) : (str i).map Int32.ofInt = xByt.getD i [] := by
  unfold str
  rw [List.map_map]
  conv => rhs; rw [← List.map_id (xByt.getD i [])]
  exact List.map_congr_left (fun x _ => Int32.ofInt_toInt x)
theorem str_iv : ∀ i, i < xN → ∀ u ∈ str i, iv 0 65535 u := by decide +kernel
def wX5_put (a : Nat) (u : Int) (S : St) (K : Int → St → Prop) : Prop := iv 0 65535 u ∧ ∀ r S', ((S.1 a 1 < 3000 ∧ r = 1) ∨ (3000 ≤ S.1 a 1 ∧ r = 0)) → S' = sPut S a u → K r S'
def wX5_spell (a i : Nat) (S : St) (K : Int → St → Prop) : Prop := ∀ S', S' = sPuts S a (str i) → K 0 S'
def wX5_at (a : Nat) (i : Int) (S : St) (K : Int → St → Prop) : Prop := ∀ r, (0 ≤ i ∧ i < S.1 a 1 ∧ r = S.2 a i ∧ iv 0 65535 r) ∨ ((i < 0 ∨ S.1 a 1 ≤ i) ∧ r = -1) → K r S
def wX5_has (a : Nat) (i : Int) (S : St) (K : Int → St → Prop) : Prop := ∀ r, (0 ≤ i ∧ i < S.1 a 1 ∧ r = 1) ∨ ((i < 0 ∨ S.1 a 1 ≤ i) ∧ r = 0) → K r S
def wX5_length (a : Nat) (S : St) (K : Int → St → Prop) : Prop := iv 0 3000 (S.1 a 1) → K (S.1 a 1) S
def wX5_hasOverflowed (a : Nat) (S : St) (K : Int → St → Prop) : Prop := iv 0 1 (S.1 a 2) → K (S.1 a 2) S
def wX5_clear (a : Nat) (S : St) (K : Int → St → Prop) : Prop := ∀ S', S' = sClr S a → K 0 S'
def wX5_become (a b : Nat) (S : St) (K : Int → St → Prop) : Prop := ∀ S', S' = sPuts (sClr S a) a (txt S b) → K 0 S'
section SG
variable {G : xG} {v : Nat → Nat} {sh : Nat → Option Sh} {B : Nat × Nat} {c0 : List va_E} {S : St} {cs : List va_E} {K : Int → St → Prop} {a : Nat}
theorem lX5_length (d : Nat) (hd : 0 ≤ d) (hW : Wv G v sh B c0 S cs) (ha : isS a) (hns : ∀ b x, sh b = some x → b ≠ a) (hw : wX5_length a S K) : X G yX5_length cX5_length 1 (some .int) d [.ref (G.1 + v a)] cs (vI G v sh B c0 K) := by
  obtain ⟨n, r, t, ov, hS, -, hM, hl, -⟩ := hW.sg ha hns
  refine (c_X5_length d hS).mono fun x c h => ?_
  obtain ⟨rfl, rfl⟩ := h
  have e := hM.1
  refine ⟨S.1 a 1, S, by rw [e]; rfl, hw ⟨by omega, by omega⟩, hW⟩
theorem lX5_hasOverflowed (d : Nat) (hd : 0 ≤ d) (hW : Wv G v sh B c0 S cs) (ha : isS a) (hns : ∀ b x, sh b = some x → b ≠ a) (hw : wX5_hasOverflowed a S K) : X G yX5_hasOverflowed cX5_hasOverflowed 1 (some .boolean) d [.ref (G.1 + v a)] cs (vI G v sh B c0 K) := by
  obtain ⟨n, r, t, ov, hS, -, hM, hl, -⟩ := hW.sg ha hns
  refine (c_X5_hasOverflowed d hS).mono fun x c h => ?_
  obtain ⟨rfl, rfl⟩ := h
  have e := hM.2.1
  refine ⟨S.1 a 2, S, by rw [e, bI_oI], hw (by rw [e]; cases ov <;> exact ⟨by decide, by decide⟩), hW⟩
theorem lX5_has {i : Int} (d : Nat) (hd : 0 ≤ d) (hW : Wv G v sh B c0 S cs) (ha : isS a) (hns : ∀ b x, sh b = some x → b ≠ a) (gi : rng i) (hw : wX5_has a i S K) : X G yX5_has cX5_has 2 (some .boolean) d [.ref (G.1 + v a), .int (Int32.ofInt i)] cs (vI G v sh B c0 K) := by
  obtain ⟨n, r, t, ov, hS, -, hM, hl, -⟩ := hW.sg ha hns
  refine (c_X5_has d hS _).mono fun x c h => ?_
  obtain ⟨rfl, rfl⟩ := h
  have e := hM.1
  have e0 : (0 : Int32) = Int32.ofInt 0 := rfl
  unfold sgHas
  rw [nI_oI, e0]
  by_cases q1 : i < 0
  · rw [if_pos ((oI_lt gi ⟨by decide, by decide⟩).mpr q1)]
    exact ⟨0, S, rfl, hw 0 (Or.inr ⟨Or.inl q1, rfl⟩), hW⟩
  · rw [if_neg (fun q => q1 ((oI_lt gi ⟨by decide, by decide⟩).mp q))]
    by_cases q2 : (t.length : Int) ≤ i
    · rw [if_pos ((oI_le ⟨by omega, by omega⟩ gi).mpr q2)]
      exact ⟨0, S, rfl, hw 0 (Or.inr ⟨Or.inr (by omega), rfl⟩), hW⟩
    · rw [if_neg (fun q => q2 ((oI_le ⟨by omega, by omega⟩ gi).mp q))]
      exact ⟨1, S, rfl, hw 1 (Or.inl ⟨by omega, by omega, rfl⟩), hW⟩
theorem lX5_at {i : Int} (d : Nat) (hd : 0 ≤ d) (hW : Wv G v sh B c0 S cs) (ha : isS a) (hns : ∀ b x, sh b = some x → b ≠ a) (gi : rng i) (hw : wX5_at a i S K) : X G yX5_at cX5_at 2 (some .int) d [.ref (G.1 + v a), .int (Int32.ofInt i)] cs (vI G v sh B c0 K) := by
  obtain ⟨n, r, t, ov, hS, -, hM, hl, -⟩ := hW.sg ha hns
  refine (c_X5_at d hS _).mono fun x c h => ?_
  obtain ⟨rfl, rfl⟩ := h
  have e := hM.1
  have e0 : (0 : Int32) = Int32.ofInt 0 := rfl
  have e1 : (-1 : Int32) = Int32.ofInt (-1) := rfl
  unfold sgAt
  rw [nI_oI, e1]
  by_cases q1 : i < 0
  · rw [if_pos (by rw [e0]; exact (oI_lt gi ⟨by decide, by decide⟩).mpr q1)]
    exact ⟨-1, S, rfl, hw (-1) (Or.inr ⟨Or.inl q1, rfl⟩), hW⟩
  · rw [if_neg (fun q => q1 (by rw [e0] at q; exact (oI_lt gi ⟨by decide, by decide⟩).mp q))]
    by_cases q2 : (t.length : Int) ≤ i
    · rw [if_pos ((oI_le ⟨by omega, by omega⟩ gi).mpr q2)]
      exact ⟨-1, S, rfl, hw (-1) (Or.inr ⟨Or.inr (by omega), rfl⟩), hW⟩
    · rw [if_neg (fun q => q2 ((oI_le ⟨by omega, by omega⟩ gi).mp q))]
      have q3 := hM.2.2 i.toNat (by omega)
      rw [oI_cl (n := t.length) (by omega) (by omega) (by omega), q3.1]
      rw [Int.toNat_of_nonneg (by omega)] at q3 ⊢
      exact ⟨S.2 a i, S, rfl, hw _ (Or.inl ⟨by omega, by omega, rfl, q3.2⟩), hW⟩
theorem lX5_clear (d : Nat) (hd : 0 ≤ d) (hW : Wv G v sh B c0 S cs) (ha : isS a) (hns : ∀ b x, sh b = some x → b ≠ a) (hw : wX5_clear a S K) : X G yX5_clear cX5_clear 1 none d [.ref (G.1 + v a)] cs (vV G v sh B c0 K) := by
  obtain ⟨n, r, t, ov, hS, -, hM, hl, hk⟩ := hW.sg ha hns
  refine (c_X5_clear d hS).mono fun x c h => ?_
  obtain ⟨rfl, rfl⟩ := h
  obtain ⟨hS1, hF⟩ := hS.cleared
  refine ⟨0, sClr S a, rfl, hw _ rfl, hk _ _ _ _ _ _ hS1 hF ⟨?_, ?_, fun i hi => absurd hi (Nat.not_lt_zero _)⟩ sClr_ne ?_⟩
  · show (if a = a ∧ 1 = 2 then (0 : Int) else if a = a ∧ 1 = 1 then 0 else S.1 a 1) = _
    rw [if_neg (fun q => absurd q.2 (by decide)), if_pos ⟨rfl, rfl⟩]
    rfl
  · show (if a = a ∧ 2 = 2 then (0 : Int) else _) = _
    rw [if_pos ⟨rfl, rfl⟩]
    rfl
  · refine pI_ok (pI_ok hW.ok ?_) ?_
    · rw [(isS_T ha 1).1]
      exact ⟨by decide, by decide⟩
    · rw [(isS_T ha 2).1]
      exact ⟨by decide, by decide⟩
theorem lX5_put {u : Int} (d : Nat) (hd : 1 ≤ d) (hW : Wv G v sh B c0 S cs) (ha : isS a) (hns : ∀ b x, sh b = some x → b ≠ a) (gu : rng u) (hw : wX5_put a u S K) : X G yX5_put cX5_put 3 (some .boolean) d [.ref (G.1 + v a), .int (Int32.ofInt u)] cs (vI G v sh B c0 K) := by
  obtain ⟨n, r, t, ov, hS, hR, hM, hl, hk⟩ := hW.sg ha hns
  obtain ⟨hu, hw⟩ := hw
  refine (c_X5_put d hd hS hR _).mono fun x c h => ?_
  obtain ⟨rfl, r1, n1, hS1, hF⟩ := h
  have e := hM.1
  have hW1 := hk _ _ _ _ _ (sPut S a u) hS1 hF (tM_put hM hu hl).1 sPut_ne (sPut_ok hW.ok ha hu ⟨by omega, by omega⟩)
  rw [bI_oI]
  by_cases q : t.length < 3000
  · exact ⟨1, sPut S a u, by simp [q], hw 1 _ (Or.inl ⟨by omega, rfl⟩) rfl, hW1⟩
  · exact ⟨0, sPut S a u, by simp [q], hw 0 _ (Or.inr ⟨by omega, rfl⟩) rfl, hW1⟩
theorem lX5_spell {i : Nat} (d : Nat) (hd : 4 ≤ d) (hW : Wv G v sh B c0 S cs) (ha : isS a) (hns : ∀ b x, sh b = some x → b ≠ a) (hi : i < xN) (hw : wX5_spell a i S K) : X G yX5_spell cX5_spell 3 none d [.ref (G.1 + v a), .ref (G.2.2.2.1 i)] cs (vV G v sh B c0 K) := by
  obtain ⟨n, r, t, ov, hS, hR, hM, hl, hk⟩ := hW.sg ha hns
  refine (c_X5_spell d hd hi hS hR).mono fun x c h => ?_
  obtain ⟨rfl, r1, n1, hS1, hF⟩ := h
  have q := tM_puts ha hM hW.ok (str_iv i hi) hl
  rw [str_map] at q
  exact ⟨0, _, rfl, hw _ rfl, hk _ _ _ _ _ _ hS1 hF q.1 sPuts_ne q.2⟩
theorem lX5_become {b : Nat} (d : Nat) (hd : 2 ≤ d) (hW : Wv G v sh B c0 S cs) (ha : isS a) (hb : isS b) (hab : b ≠ a) (hns : ∀ b x, sh b = some x → ¬ isS b) (hw : wX5_become a b S K) : X G yX5_become cX5_become 3 none d [.ref (G.1 + v a), .ref (G.1 + v b)] cs (vV G v sh B c0 K) := by
  have hW0 := hW
  obtain ⟨n, r, t, ov, hS, hR, hM, hl, hk⟩ := hW.sg ha (fun b x h e => hns b x h (e ▸ ha))
  obtain ⟨nb, rb, tb, ob, hSb, -, hMb, hlb, -⟩ := hW.sg hb (fun b x h e => hns b x h (e ▸ hb))
  obtain ⟨τ, hT, -, -, -, -, -, hF, hFi, -, -, hQ, -⟩ := hW0
  obtain ⟨pa, hpa⟩ := hQ (v a) (hF a ha).1
  obtain ⟨pb, hpb⟩ := hQ (v b) (hF b hb).1
  obtain ⟨ra, ta, oa, hSa2, hra⟩ := hT.2.2.1 (v a) pa hpa
  obtain ⟨rb', tb', ob', hSb2, hrb⟩ := hT.2.2.1 (v b) pb hpb
  have e1 := (hS.uq hSa2).1
  have e2 := (hSb.uq hSb2).1
  subst e1 e2
  have hv : v b ≠ v a := fun e => hab (hFi b a hb ha e)
  refine (c_X5_become d hd hS hR hSb hlb hv (fun e => ?_) (fun e => ?_) (fun e => ?_)).mono fun x c h => ?_
  · rw [e, hra] at hpb
    have := some_fst hpb
    omega
  · rw [e, hpa] at hrb
    have := some_fst hrb
    omega
  · rw [e, hra] at hrb
    have := some_fst hrb
    omega
  · obtain ⟨rfl, r1, n1, hS1, hF1⟩ := h
    obtain ⟨m1, m2⟩ := txt_tM hMb
    have hM0 : tM (sClr S a) a [] false := by
      refine ⟨?_, ?_, fun i hi => absurd hi (Nat.not_lt_zero _)⟩
      · show (if a = a ∧ 1 = 2 then (0 : Int) else if a = a ∧ 1 = 1 then 0 else S.1 a 1) = _
        rw [if_neg (fun q => absurd q.2 (by decide)), if_pos ⟨rfl, rfl⟩]
        rfl
      · show (if a = a ∧ 2 = 2 then (0 : Int) else _) = _
        rw [if_pos ⟨rfl, rfl⟩]
        rfl
    have hk0 : okT cT (sClr S a) := by
      refine pI_ok (pI_ok hW.ok ?_) ?_
      · rw [(isS_T ha 1).1]
        exact ⟨by decide, by decide⟩
      · rw [(isS_T ha 2).1]
        exact ⟨by decide, by decide⟩
    have q := tM_puts ha hM0 hk0 m2 (Nat.zero_le _)
    rw [← m1] at q
    refine ⟨0, _, rfl, hw _ rfl, hk _ _ _ _ _ _ hS1 hF1 q.1 (fun a' h => ⟨(sPuts_ne a' h).1.trans (sClr_ne a' h).1, (sPuts_ne a' h).2.trans (sClr_ne a' h).2⟩) q.2⟩
end SG

