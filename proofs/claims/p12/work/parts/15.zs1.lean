/-! A CALL THAT SEES ONLY A PART: what it doesn't see stays -/
/-- what reading sees: the tree, the text, the classes, the heaps that are read into -/
def hid (τ : Tau) (v : Nat → Nat) : Tau := fun a => match τ a with
  | some (.inr q) => if a = v 43 ∨ a = v 44 ∨ a = v 45 then none else some (.inr q)
  | some (.inl q) => if q.1 = 6 ∨ (q.1 = 5 ∧ (a = 1 ∨ a = 4)) ∨ q.1 = 101 ∨ q.1 = 104 ∨ a = v 24 ∨ a = v 46 ∨ a = v 50 then some (.inl q) else none
  | none => none
def VV (v : Nat → Nat) : Prop := v 0 = 0 ∧ v 1 = 1 ∧ v 3 = 3 ∧ v 4 = 4 ∧ 23 ≤ v 24 ∧ 23 ≤ v 33
def QZ (G : xG) (v : Nat → Nat) (cs : List va_E) : Prop := (∃ vs, cs[3]? = some (.inr (6, vs)) ∧ ∀ k b : Nat, k < 2 → vs[k]? = some (.ref (G.1 + b)) → b = 1 ∨ b = 4) ∧ ∀ h : Nat, (h = v 46 ∨ h = v 50) → ∃ vs, cs[h]? = some (.inr (1, vs)) ∧ ∀ k b : Nat, vs[k]? = some (.ref (G.1 + b)) → b ≠ v 43 ∧ b ≠ v 44 ∧ b ≠ v 45
theorem hid_s {τ : Tau} {v : Nat → Nat} {a : Nat} {t : Ty} (h : hid τ v a = some t) : τ a = some t := by
  unfold hid at h
  split at h
  · rename_i q e
    split at h
    · cases h
    · rw [e]; exact h
  · rename_i q e
    split at h
    · rw [e]; exact h
    · cases h
  · cases h
theorem hid_o {τ : Tau} {v : Nat → Nat} {a ci p : Nat} (h : τ a = some (.inl (ci, p))) (k : ci = 6 ∨ (ci = 5 ∧ (a = 1 ∨ a = 4)) ∨ ci = 101 ∨ ci = 104 ∨ a = v 24 ∨ a = v 46 ∨ a = v 50) : hid τ v a = some (.inl (ci, p)) := by
  unfold hid
  rw [h]
  exact if_pos k
theorem hid_on {τ : Tau} {v : Nat → Nat} {a ci p : Nat} (h : τ a = some (.inl (ci, p))) (k : ¬ (ci = 6 ∨ (ci = 5 ∧ (a = 1 ∨ a = 4)) ∨ ci = 101 ∨ ci = 104 ∨ a = v 24 ∨ a = v 46 ∨ a = v 50)) : hid τ v a = none := by
  unfold hid
  rw [h]
  exact if_neg k
theorem hid_a {τ : Tau} {v : Nat → Nat} {a : Nat} {q : Nat × Nat × Int × Int} (h : τ a = some (.inr q)) (k : ¬ (a = v 43 ∨ a = v 44 ∨ a = v 45)) : hid τ v a = some (.inr q) := by
  unfold hid
  rw [h]
  exact if_neg k
theorem hid_an {τ : Tau} {v : Nat → Nat} {a : Nat} {q : Nat × Nat × Int × Int} (h : τ a = some (.inr q)) (k : a = v 43 ∨ a = v 44 ∨ a = v 45) : hid τ v a = none := by
  unfold hid
  rw [h]
  exact if_pos k
theorem hid_n {τ : Tau} {v : Nat → Nat} {a : Nat} (h : τ a = none) : hid τ v a = none := by
  unfold hid
  rw [h]
theorem hid_c {τ : Tau} {v : Nat → Nat} {a : Nat} {t : Ty} (h : τ a = some t) : hid τ v a = none ∨ hid τ v a = some t := by
  cases e : hid τ v a with
  | none => exact Or.inl rfl
  | some u => exact Or.inr (by rw [← hid_s e]; exact h)
theorem pz_le (n : Nat) : pz n ≤ pz 0 := by
  unfold pz
  rw [if_pos (show 0 < 3000 by decide)]
  split <;> omega
/-- arrays of other classes are none of the heap's -/
theorem fT_hi {ci p k : Nat} {q : Nat × Nat × Int × Int} (h : (fT ci p)[k]? = some (.inr (.inr q))) (hc : ci = 6 ∨ ci = 4) : q.2.2.2 ≠ 2147483648 := by
  rcases hc with rfl | rfl
  · have hk : k < 18 := (List.getElem?_eq_some_iff.mp h).1
    rcases (show k = 0 ∨ k = 1 ∨ k = 2 ∨ k = 3 ∨ k = 4 ∨ k = 5 ∨ k = 6 ∨ k = 7 ∨ k = 8 ∨ k = 9 ∨ k = 10 ∨ k = 11 ∨ k = 12 ∨ k = 13 ∨ k = 14 ∨ k = 15 ∨ k = 16 ∨ k = 17 by omega) with rfl | rfl | rfl | rfl | rfl | rfl | rfl | rfl | rfl | rfl | rfl | rfl | rfl | rfl | rfl | rfl | rfl | rfl <;> cases h <;> decide
  · have hk : k < 9 := (List.getElem?_eq_some_iff.mp h).1
    rcases (show k = 0 ∨ k = 1 ∨ k = 2 ∨ k = 3 ∨ k = 4 ∨ k = 5 ∨ k = 6 ∨ k = 7 ∨ k = 8 by omega) with rfl | rfl | rfl | rfl | rfl | rfl | rfl | rfl | rfl <;> cases h <;> decide
theorem fT_ob {ci p k cj pj : Nat} (h : (fT ci p)[k]? = some (.inr (.inl (cj, pj)))) (hc : ci = 6 ∨ ci = 4 ∨ ci = 1) : ci = 6 ∧ k < 2 ∧ cj = 5 := by
  rcases hc with rfl | rfl | rfl
  · have hk : k < 18 := (List.getElem?_eq_some_iff.mp h).1
    rcases (show k = 0 ∨ k = 1 ∨ k = 2 ∨ k = 3 ∨ k = 4 ∨ k = 5 ∨ k = 6 ∨ k = 7 ∨ k = 8 ∨ k = 9 ∨ k = 10 ∨ k = 11 ∨ k = 12 ∨ k = 13 ∨ k = 14 ∨ k = 15 ∨ k = 16 ∨ k = 17 by omega) with rfl | rfl | rfl | rfl | rfl | rfl | rfl | rfl | rfl | rfl | rfl | rfl | rfl | rfl | rfl | rfl | rfl | rfl <;> cases h <;> exact ⟨rfl, by decide, rfl⟩
  · have hk : k < 9 := (List.getElem?_eq_some_iff.mp h).1
    rcases (show k = 0 ∨ k = 1 ∨ k = 2 ∨ k = 3 ∨ k = 4 ∨ k = 5 ∨ k = 6 ∨ k = 7 ∨ k = 8 by omega) with rfl | rfl | rfl | rfl | rfl | rfl | rfl | rfl | rfl <;> cases h
  · have hk : k < 4 := (List.getElem?_eq_some_iff.mp h).1
    rcases (show k = 0 ∨ k = 1 ∨ k = 2 ∨ k = 3 by omega) with rfl | rfl | rfl | rfl <;> cases h
/-- the room of what is seen -/
def hB (τ : Tau) (B : Nat × Nat) : Nat × Nat := (B.1 + (6000 - ((3000 - nO τ 20) + (3000 - nO τ 22))), B.2 + (2 * pz 0 - (pz (nO τ 20) + pz (nO τ 22))))
theorem nO_hid {τ : Tau} {v : Nat → Nat} {a : Nat} (h : hid τ v a = none) : nO (hid τ v) a = 0 := by
  unfold nO
  rw [h]
theorem nO_eq {τ τ1 : Tau} {a : Nat} (h : τ1 a = τ a) : nO τ1 a = nO τ a := by
  unfold nO
  rw [h]
set_option maxRecDepth 100000 in
theorem WT.hide {G : xG} {v : Nat → Nat} {B : Nat × Nat} {τ : Tau} {cs : List va_E} (hT : WT G B τ cs) (hQ : ∀ a : Nat, isS a → oT τ a 5) (hV : 23 ≤ v 24) (hZ : QZ G v cs) (t24 : ∃ p, τ (v 24) = some (.inl (4, p))) (t46 : ∃ p, τ (v 46) = some (.inl (1, p))) (t50 : ∃ p, τ (v 50) = some (.inl (1, p))) (hh : ∀ a, (a = v 43 ∨ a = v 44 ∨ a = v 45) → ∃ k n, τ a = some (.inr (k, n, -2147483648, 2147483648))) (hB6 : (hB τ B).1 ≤ 600000 ∧ (hB τ B).2 ≤ 7302250) : WT G (hB τ B) (hid τ v) cs := by
  obtain ⟨h1, hU, h3, h4, h5, h6, h7⟩ := hT
  obtain ⟨u1, ⟨p3, u2⟩, u3, u4, u5, u6, u7, u8, u9, u10, u11⟩ := hU
  obtain ⟨⟨w3, c3, q3⟩, qh⟩ := hZ
  have na : ∀ a q, τ a = some (.inr q) → q.2.2.2 ≠ 2147483648 → hid τ v a = some (.inr q) := fun a q e hq => hid_a e (fun k => by
    obtain ⟨k1, n1, e2⟩ := hh a k
    rw [e] at e2
    cases e2
    exact hq rfl)
  have s1 : ∀ a, a = 1 ∨ a = 4 → oT (hid τ v) a 5 := fun a ha => by
    obtain ⟨p, e⟩ := hQ a (by unfold isS; omega)
    exact ⟨p, hid_o e (Or.inr (Or.inl ⟨rfl, ha⟩))⟩
  have n20 : ∀ a, a = 20 ∨ a = 22 → hid τ v a = none := fun a ha => by
    obtain ⟨p, e⟩ := hQ a (by unfold isS; omega)
    refine hid_on e (fun k => ?_)
    rcases k with k | k | k | k | k | k | k
    · cases k
    · omega
    · cases k
    · cases k
    · obtain ⟨p', e'⟩ := t24
      rw [← k, e] at e'
      have := some_fst e'
      omega
    · obtain ⟨p', e'⟩ := t46
      rw [← k, e] at e'
      have := some_fst e'
      omega
    · obtain ⟨p', e'⟩ := t50
      rw [← k, e] at e'
      have := some_fst e'
      omega
  have obj : ∀ a ci p vs, hid τ v a = some (.inl (ci, p)) → ci ≠ 5 → ci < 100 → cs[a]? = some (.inr (ci, vs)) → wF G τ (fT ci p) vs → wF G (hid τ v) (fT ci p) vs := fun a ci p vs e g5 g1 hc hF => by
    have et := hid_s e
    have kind : (ci = 6 ∧ a = 3) ∨ (ci = 4) ∨ (ci = 1 ∧ (a = v 46 ∨ a = v 50)) := by
      by_cases k : ci = 6 ∨ (ci = 5 ∧ (a = 1 ∨ a = 4)) ∨ ci = 101 ∨ ci = 104 ∨ a = v 24 ∨ a = v 46 ∨ a = v 50
      · rcases k with k | k | k | k | k | k | k
        · subst k
          exact Or.inl ⟨rfl, u1 a p et⟩
        · exact absurd k.1 g5
        · omega
        · omega
        · obtain ⟨p', e'⟩ := t24
          rw [← k, et] at e'
          exact Or.inr (Or.inl (some_fst e'))
        · obtain ⟨p', e'⟩ := t46
          rw [← k, et] at e'
          exact Or.inr (Or.inr ⟨some_fst e', Or.inl k⟩)
        · obtain ⟨p', e'⟩ := t50
          rw [← k, et] at e'
          exact Or.inr (Or.inr ⟨some_fst e', Or.inr k⟩)
      · rw [hid_on et k] at e
        cases e
    refine ⟨hF.1, fun k t ht => ?_⟩
    obtain ⟨w, e1, e2⟩ := hF.2 k t ht
    refine ⟨w, e1, ?_⟩
    cases t with
    | inl q => exact e2
    | inr q =>
      obtain ⟨b, e3, e4⟩ := e2
      refine ⟨b, e3, ?_⟩
      cases q with
      | inl z =>
        obtain ⟨cj, pj⟩ := z
        obtain ⟨o1, o2, o3⟩ := fT_ob ht (by omega)
        subst o3
        rcases kind with ⟨k1, k2⟩ | k1 | ⟨k1, -⟩
        · rw [k2, c3] at hc
          cases hc
          rw [e3] at e1
          exact s1 b (q3 k b o2 e1)
        · omega
        · omega
      | inr z =>
        rcases kind with ⟨k1, -⟩ | k1 | ⟨k1, k2⟩
        · exact na b z e4 (fT_hi ht (Or.inl k1))
        · exact na b z e4 (fT_hi ht (Or.inr k1))
        · obtain ⟨ws, c5, q5⟩ := qh a k2
          rw [c5] at hc
          cases hc
          rw [e3] at e1
          have := q5 k b e1
          exact hid_a e4 (by omega)
  refine ⟨fun a t e => h1 a t (hid_s e), ⟨fun a p e => u1 a p (hid_s e), ⟨p3, hid_o u2 (Or.inl rfl)⟩, fun a e => u3 a (hid_s e), na 11 _ u4 (by decide), fun a e => u5 a (hid_s e), na 12 _ u6 (by decide), fun a p e => u7 a p (hid_s e), fun a p e => u8 a p (hid_s e), fun a n e => u9 a n (hid_s e), fun a ha => ?_, ?_⟩, fun a n e => ?_, fun a k n lo hi e => h4 a k n lo hi (hid_s e), fun a ci p e g5 g1 => ?_, h6, ?_⟩
  · unfold isS at ha
    by_cases k : a = 1 ∨ a = 4
    · exact Or.inl (s1 a k)
    · exact Or.inr (n20 a (by omega))
  · obtain ⟨p, e⟩ := t24
    exact ⟨v 24, _, hV, hid_o e (Or.inr (Or.inr (Or.inr (Or.inr (Or.inl rfl)))))⟩
  · obtain ⟨r, t, ov, hS, hr⟩ := h3 a n (hid_s e)
    refine ⟨r, t, ov, hS, hid_o hr ?_⟩
    have ha := u9 a n (hid_s e)
    unfold isS at ha
    by_cases k : a = 1 ∨ a = 4
    · omega
    · rw [n20 a (by omega)] at e
      cases e
  · obtain ⟨vs, e1, e2⟩ := h5 a ci p (hid_s e) g5 g1
    exact ⟨vs, e1, obj a ci p vs e g5 g1 e1 e2⟩
  · obtain ⟨p1, e1⟩ := hQ 1 (by unfold isS; decide)
    obtain ⟨p4, e4⟩ := hQ 4 (by unfold isS; decide)
    have k1 : nO (hid τ v) 1 = nO τ 1 := nO_eq ((hid_o e1 (Or.inr (Or.inl ⟨rfl, Or.inl rfl⟩))).trans e1.symm)
    have k4 : nO (hid τ v) 4 = nO τ 4 := nO_eq ((hid_o e4 (Or.inr (Or.inl ⟨rfl, Or.inr rfl⟩))).trans e4.symm)
    have p20 := pz_le (nO τ 20)
    have p22 := pz_le (nO τ 22)
    unfold rho1 rho2 at h7 ⊢
    rw [k1, k4, nO_hid (n20 20 (Or.inl rfl)), nO_hid (n20 22 (Or.inr rfl))]
    refine ⟨?_, ?_, hB6⟩
    · show _ ≤ B.1 + (6000 - ((3000 - nO τ 20) + (3000 - nO τ 22)))
      omega
    · show _ ≤ B.2 + (2 * pz 0 - (pz (nO τ 20) + pz (nO τ 22)))
      omega
/-- the types behind the call -/
def bak (τ : Tau) (v : Nat → Nat) (n : Nat) (τ1 : Tau) : Tau := fun a => match hid τ v a with
  | none => if a < n then τ a else τ1 a
  | some _ => τ1 a
theorem bak_h {τ τ1 : Tau} {v : Nat → Nat} {n a : Nat} (h : hid τ v a = none) (hn : a < n) : bak τ v n τ1 a = τ a := by
  unfold bak
  rw [h]
  exact if_pos hn
theorem bak_k {τ τ1 : Tau} {v : Nat → Nat} {n a : Nat} (h : hid τ v a = none → n ≤ a) : bak τ v n τ1 a = τ1 a := by
  unfold bak
  cases e : hid τ v a with
  | none => exact if_neg (by have := h e; omega)
  | some t => rfl
set_option maxRecDepth 100000 in
theorem WT.back {G : xG} {v : Nat → Nat} {B B1 : Nat × Nat} {τ τ1 : Tau} {cs c1 : List va_E} {W : List Nat} {x y : Nat} (hT : WT G B τ cs) (hQ : ∀ a : Nat, isS a → oT τ a 5) (t24 : ∃ p, τ (v 24) = some (.inl (4, p))) (t46 : ∃ p, τ (v 46) = some (.inl (1, p))) (t50 : ∃ p, τ (v 50) = some (.inl (1, p))) (hT1 : WT G B1 τ1 c1) (hX : Fx W (hid τ v) cs τ1 c1) (e1 : B1.1 = (hB τ B).1 + x) (e2 : B1.2 = (hB τ B).2 + y) (hb : B.1 + x ≤ 600000 ∧ B.2 + y ≤ 7302250) : WT G (B.1 + x, B.2 + y) (bak τ v cs.length τ1) c1 ∧ Sub τ (bak τ v cs.length τ1) := by
  obtain ⟨h1, hU, h3, h4, h5, h6, h7⟩ := hT
  obtain ⟨k1, kU, k3, k4, k5, k6, k7⟩ := hT1
  obtain ⟨x1, x2, x3, x4, x5⟩ := hX
  obtain ⟨u1, ⟨p3, u2⟩, u3, u4, u5, u6, u7, u8, u9, u10, u11⟩ := hU
  obtain ⟨w1, w2, w3, w4, w5, w6, w7, w8, w9, w10, w11⟩ := kU
  have cas : ∀ a t, bak τ v cs.length τ1 a = some t → (hid τ v a = none ∧ a < cs.length ∧ τ a = some t ∧ c1[a]? = cs[a]? ∧ τ1 a = none) ∨ τ1 a = some t := fun a t e => by
    by_cases k : hid τ v a = none ∧ a < cs.length
    · rw [bak_h k.1 k.2] at e
      exact Or.inl ⟨k.1, k.2, e, (x3 a k.2 k.1).1, (x3 a k.2 k.1).2⟩
    · rw [bak_k (fun z => by
        by_cases l : a < cs.length
        · exact absurd ⟨z, l⟩ k
        · omega)] at e
      exact Or.inr e
  have up : ∀ a t, τ1 a = some t → bak τ v cs.length τ1 a = some t := fun a t e => by
    rw [bak_k (fun z => Nat.le_of_not_lt fun l => by rw [(x3 a l z).2] at e; cases e)]
    exact e
  have upS : Sub τ1 (bak τ v cs.length τ1) := ⟨fun a q e => up a _ e, fun a ci p e => ⟨p, up a _ e, Or.inr rfl⟩⟩
  have hs : Sub τ (bak τ v cs.length τ1) := by
    refine ⟨fun a q e => ?_, fun a ci p e => ?_⟩
    · rcases hid_c (v := v) e with k | k
      · rw [bak_h k (h1 a _ e)]
        exact e
      · exact up a _ (x1.1 a q k)
    · rcases hid_c (v := v) e with k | k
      · exact ⟨p, by rw [bak_h k (h1 a _ e)]; exact e, Or.inr rfl⟩
      · obtain ⟨p1, e1, e2⟩ := x1.2 a ci p k
        exact ⟨p1, up a _ e1, e2⟩
  have row : ∀ a r p n, τ a = some (.inl (5, n)) → hid τ v a = none → τ r = some (.inl (100 + a, p)) → hid τ v r = none := fun a r p n e k hr => by
    refine hid_on hr (fun z => ?_)
    rcases z with z | z | z | z | z | z | z
    · omega
    · omega
    · rw [hid_o e (Or.inr (Or.inl ⟨rfl, by omega⟩))] at k
      cases k
    · rw [hid_o e (Or.inr (Or.inl ⟨rfl, by omega⟩))] at k
      cases k
    · obtain ⟨p', e'⟩ := t24
      rw [← z, hr] at e'
      have := some_fst e'
      omega
    · obtain ⟨p', e'⟩ := t46
      rw [← z, hr] at e'
      have := some_fst e'
      omega
    · obtain ⟨p', e'⟩ := t50
      rw [← z, hr] at e'
      have := some_fst e'
      omega
  refine ⟨⟨fun a t e => ?_, ⟨fun a p e => ?_, hs.s ⟨p3, u2⟩, fun a e => ?_, hs.a u4, fun a e => ?_, hs.a u6, fun a p e => ?_, fun a p e => ?_, fun a n e => ?_, fun a ha => Or.inl (hs.s (hQ a ha)), hs.ex u11⟩, fun a n e => ?_, fun a k n lo hi e => ?_, fun a ci p e g5 g1 => ?_, k6, ?_⟩, hs⟩
  · rcases cas a t e with ⟨-, k, -⟩ | k
    · omega
    · exact k1 a t k
  · rcases cas a _ e with ⟨-, -, k, -⟩ | k
    · exact u1 a p k
    · exact w1 a p k
  · rcases cas a _ e with ⟨-, -, k, -⟩ | k
    · exact u3 a k
    · exact w3 a k
  · rcases cas a _ e with ⟨-, -, k, -⟩ | k
    · exact u5 a k
    · exact w5 a k
  · rcases cas a _ e with ⟨-, -, k, -⟩ | k
    · exact u7 a p k
    · exact w7 a p k
  · rcases cas a _ e with ⟨-, -, k, -⟩ | k
    · exact u8 a p k
    · exact w8 a p k
  · rcases cas a _ e with ⟨-, -, k, -⟩ | k
    · exact u9 a n k
    · exact w9 a n k
  · rcases cas a _ e with ⟨k, l, m, c, -⟩ | k
    · obtain ⟨r, t, ov, ⟨f, s1, s2, s3⟩, hr⟩ := h3 a n m
      have kr := row a r 0 n m k hr
      have lr := h1 r _ hr
      exact ⟨r, t, ov, ⟨f, c.trans s1, ((x3 r lr kr).1).trans s2, s3⟩, by rw [bak_h kr lr]; exact hr⟩
    · obtain ⟨r, t, ov, hS, hr⟩ := k3 a n k
      exact ⟨r, t, ov, hS, up r _ hr⟩
  · rcases cas a _ e with ⟨-, -, m, c, -⟩ | q
    · obtain ⟨z0, f, z1, z2⟩ := h4 a k n lo hi m
      exact ⟨z0, f, c.trans z1, z2⟩
    · exact k4 a k n lo hi q
  · rcases cas a _ e with ⟨-, -, m, c, -⟩ | q
    · obtain ⟨vs, z1, z2⟩ := h5 a ci p m g5 g1
      exact ⟨vs, c.trans z1, z2.sub hs⟩
    · obtain ⟨vs, z1, z2⟩ := k5 a ci p q g5 g1
      exact ⟨vs, z1, z2.sub upS⟩
  · have n20 : ∀ a, a = 20 ∨ a = 22 → nO (bak τ v cs.length τ1) a = nO τ a ∧ nO τ1 a = 0 := fun a ha => by
      obtain ⟨p, e⟩ := hQ a (by unfold isS; omega)
      have k : hid τ v a = none := by
        refine hid_on e (fun k => ?_)
        rcases k with k | k | k | k | k | k | k
        · cases k
        · omega
        · cases k
        · cases k
        · obtain ⟨p', e'⟩ := t24
          rw [← k, e] at e'
          have := some_fst e'
          omega
        · obtain ⟨p', e'⟩ := t46
          rw [← k, e] at e'
          have := some_fst e'
          omega
        · obtain ⟨p', e'⟩ := t50
          rw [← k, e] at e'
          have := some_fst e'
          omega
      have l := h1 a _ e
      refine ⟨nO_eq (bak_h k l), ?_⟩
      unfold nO
      rw [(x3 a l k).2]
    have n1 : ∀ a, a = 1 ∨ a = 4 → nO (bak τ v cs.length τ1) a = nO τ1 a := fun a ha => by
      obtain ⟨p, e⟩ := hQ a (by unfold isS; omega)
      have k := hid_o (v := v) e (Or.inr (Or.inl ⟨rfl, ha⟩))
      exact nO_eq (bak_k (fun z => by rw [k] at z; cases z))
    have p20 := pz_le (nO τ 20)
    have p22 := pz_le (nO τ 22)
    unfold rho1 rho2 at k7 ⊢
    rw [n1 1 (Or.inl rfl), n1 4 (Or.inr rfl), (n20 20 (Or.inl rfl)).1, (n20 22 (Or.inr rfl)).1]
    rw [(n20 20 (Or.inl rfl)).2, (n20 22 (Or.inr rfl)).2, e1, e2] at k7
    unfold hB at k7
    dsimp only at k7
    refine ⟨?_, ?_, hb⟩
    · show _ ≤ B.1 + x
      omega
    · show _ ≤ B.2 + y
      omega

