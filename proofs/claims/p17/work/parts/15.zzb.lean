/-! MEANING AND WAY ARE MADE -/
abbrev rfMe : List (Option Nat) := [some 24, some 3, some 1, some 4, some 50, some 240, some 231, some 232, some 233, some 234, some 235, some 236]
abbrev rfWa : List (Option Nat) := [some 3, some 4]
def meC (G : xG) (m n b1 b2 b3 b4 b5 : Nat) : List va_E := [.inr (3, [.ref (G.1 + b1), .ref (G.1 + b2), .ref (G.1 + b3), .ref (G.1 + b4), .ref (G.1 + b5), .ref (G.1 + (n + 2)), .ref (G.1 + (n + 3)), .ref (G.1 + (n + 4)), .ref (G.1 + (n + 5)), .ref (G.1 + (n + 6)), .ref (G.1 + (n + 7)), .ref (G.1 + (n + 1))]), .inl (G.2.2.1 0, 30, .inl (fun _ => 0)), .inr (7, [.ref (G.1 + b2), .ref (G.1 + b4)]), .inl (G.2.2.1 0, m, .inl (fun _ => 0)), .inl (G.2.2.1 0, m, .inl (fun _ => 0)), .inl (G.2.2.1 0, m, .inl (fun _ => 0)), .inl (G.2.2.1 0, m, .inl (fun _ => 0)), .inl (G.2.2.1 0, m, .inl (fun _ => 0))]
def shMn (sh : Nat → Option Sh) (m : Nat) : Nat → Option Sh := uph (uph (uph (uph (uph (uph (uph (uph (sh) 236 (.inr (0, 30))) 240 (.inl (7, rfWa))) 231 (.inr (0, m))) 232 (.inr (0, m))) 233 (.inr (0, m))) 234 (.inr (0, m))) 235 (.inr (0, m))) 230 (.inl (3, rfMe))
def vMn (v : Nat → Nat) (n : Nat) : Nat → Nat := upv (upv (upv (upv (upv (upv (upv (upv (v) 236 (n + 1)) 240 (n + 2)) 231 (n + 3)) 232 (n + 4)) 233 (n + 5)) 234 (n + 6)) 235 (n + 7)) 230 (n + 0)
def sMn (S : St) : St := sZ (sZ (sZ (sZ (sZ (sZ (sZ (sZ (S) 236 (fun _ => 0)) 240 (fun _ => 0)) 231 (fun _ => 0)) 232 (fun _ => 0)) 233 (fun _ => 0)) 234 (fun _ => 0)) 235 (fun _ => 0)) 230 (fun _ => 0)
set_option maxRecDepth 100000 in
set_option maxHeartbeats 4000000 in
theorem Wv.mean {G : xG} {v : Nat → Nat} {sh : Nat → Option Sh} {B : Nat × Nat} {c0 : List va_E} {S : St} {cs : List va_E} {m : Nat} (hW : Wv G v sh B c0 S cs) (hs : sb shC sh) (h3 : sh 3 = some shT3) (hm : m ≤ 200) (hfr : ∀ a, 230 ≤ a → a ≤ 240 → sh a = none ∧ ∀ b y, sh b = some y → nr a y) (hB : B.1 + 8 ≤ 600000 ∧ B.2 + 1044 ≤ 7302250) : Wv G (vMn v cs.length) (shMn sh m) (B.1 + 8, B.2 + 1044) c0 (sMn S) (cs ++ meC G m cs.length (v 24) (v 3) (v 1) (v 4) (v 50)) := by
  obtain ⟨τ, h⟩ := hW.ex
  have hL : 107 ≤ cs.length := h.2.2.2.2.2.2.2.2.2.1
  obtain ⟨n, en⟩ : ∃ n, n = cs.length := ⟨_, rfl⟩
  rw [← en]
  obtain ⟨c1, ec⟩ : ∃ c1, c1 = cs ++ meC G m n (v 24) (v 3) (v 1) (v 4) (v 50) := ⟨_, rfl⟩
  rw [← ec]
  have hz : xZ (meC G m n (v 24) (v 3) (v 1) (v 4) (v 50)) = 44 + 5 * m := by
    show 12 + (30 + (2 + (m + (m + (m + (m + (m + 0))))))) = _
    omega
  obtain ⟨g, hn⟩ := h.grow (l := meC G m n (v 24) (v 3) (v 1) (v 4) (v 50)) (B1 := (B.1 + 8, B.2 + (44 + 5 * m))) rfl (by rw [hz]) hB.1 (by show B.2 + (44 + 5 * m) ≤ _; omega)
  rw [← ec] at g
  have c_0 : c1[n + 0]? = (meC G m n (v 24) (v 3) (v 1) (v 4) (v 50))[0]? := by rw [ec, en]; exact app_k
  have c_1 : c1[n + 1]? = (meC G m n (v 24) (v 3) (v 1) (v 4) (v 50))[1]? := by rw [ec, en]; exact app_k
  have c_2 : c1[n + 2]? = (meC G m n (v 24) (v 3) (v 1) (v 4) (v 50))[2]? := by rw [ec, en]; exact app_k
  have c_3 : c1[n + 3]? = (meC G m n (v 24) (v 3) (v 1) (v 4) (v 50))[3]? := by rw [ec, en]; exact app_k
  have c_4 : c1[n + 4]? = (meC G m n (v 24) (v 3) (v 1) (v 4) (v 50))[4]? := by rw [ec, en]; exact app_k
  have c_5 : c1[n + 5]? = (meC G m n (v 24) (v 3) (v 1) (v 4) (v 50))[5]? := by rw [ec, en]; exact app_k
  have c_6 : c1[n + 6]? = (meC G m n (v 24) (v 3) (v 1) (v 4) (v 50))[6]? := by rw [ec, en]; exact app_k
  have c_7 : c1[n + 7]? = (meC G m n (v 24) (v 3) (v 1) (v 4) (v 50))[7]? := by rw [ec, en]; exact app_k
  have hQ := h.2.2.2.2.2.2.2.2.2.2.1
  have hF := h.2.2.2.2.2.2.1
  obtain ⟨p1, s1⟩ := hQ (v 1) (hF 1 (by unfold isS; decide)).1
  obtain ⟨p4, s4⟩ := hQ (v 4) (hF 4 (by unfold isS; decide)).1
  obtain ⟨-, -, -, p3, t3, -⟩ := h.2.2.2.2.2.1 3 6 _ h3
  obtain ⟨-, -, -, p24, t24, -⟩ := h.2.2.2.2.2.1 24 4 _ (hs 24 _ rfl)
  obtain ⟨-, -, -, p50, t50, -⟩ := h.2.2.2.2.2.1 50 1 _ (hs 50 _ rfl)
  have lt : ∀ a t, τ a = some t → a < n := fun a t e => by rw [en]; exact h.1.1 a t e
  have g236 := g.addA (a := 236) (k := n + 1) (n := 30) (hfr 236 (by decide) (by decide)).1 (by unfold isS; decide) (by decide) (hfr 236 (by decide) (by decide)).2 (hn _ (by omega)) (by omega) c_1 (by omega) ⟨by decide, by decide, by decide, by decide⟩ (ok_1 fun _ => rfl) ⟨by decide, by decide⟩
  have u1 : ∀ a t, τ a = some t → upT (τ) (n + 1) (.inr (0, 30, (tB 236).1, (tB 236).2)) a = some t := fun a t e => by
    have := lt a t e
    rw [upT_ne (by omega)]
    exact e
  have g240 := g236.addO (a := 240) (k := n + 2) (ci := 7) (p := 0) (rf := rfWa) (f := fun _ => 0) (by rw [uph_ne (by decide)]; exact (hfr 240 (by decide) (by decide)).1) (by unfold isS; decide) (by decide) (nr_up (hfr 240 (by decide) (by decide)).2 nr_A) (by decide) (by rw [upT_ne (by omega)]; exact hn _ (by omega)) (by omega) c_2 rfl ⟨by decide, by decide, by decide, by decide, by decide⟩ (wF_cons ⟨v 3, rfl, p3, u1 _ _ t3⟩ (wF_cons ⟨v 4, rfl, p4, u1 _ _ s4⟩ wF_nil)) (fun j hj => by
    rcases (show j = 0 ∨ j = 1 ∨ 2 ≤ j by omega) with rfl | rfl | q
    all_goals first | (cases hj) | (rw [List.getElem?_eq_none_iff.mpr (by simpa using q)] at hj; cases hj)) (ok_1 fun _ => rfl) ⟨by decide, by decide⟩
  have g231 := g240.addA (a := 231) (k := n + 3) (n := m) (by rw [uph_ne (by decide), uph_ne (by decide)]; exact (hfr 231 (by decide) (by decide)).1) (by unfold isS; decide) (by decide) (nr_up (nr_up (hfr 231 (by decide) (by decide)).2 nr_A) (fun ci rf q => by cases q; decide)) (by rw [upT_ne (by omega), upT_ne (by omega)]; exact hn _ (by omega)) (by omega) c_3 (by omega) ⟨by decide, by decide, by decide, by decide⟩ (ok_1 fun _ => rfl) ⟨by decide, by decide⟩
  have g232 := g231.addA (a := 232) (k := n + 4) (n := m) (by rw [uph_ne (by decide), uph_ne (by decide), uph_ne (by decide)]; exact (hfr 232 (by decide) (by decide)).1) (by unfold isS; decide) (by decide) (nr_up (nr_up (nr_up (hfr 232 (by decide) (by decide)).2 nr_A) (fun ci rf q => by cases q; decide)) nr_A) (by rw [upT_ne (by omega), upT_ne (by omega), upT_ne (by omega)]; exact hn _ (by omega)) (by omega) c_4 (by omega) ⟨by decide, by decide, by decide, by decide⟩ (ok_1 fun _ => rfl) ⟨by decide, by decide⟩
  have g233 := g232.addA (a := 233) (k := n + 5) (n := m) (by rw [uph_ne (by decide), uph_ne (by decide), uph_ne (by decide), uph_ne (by decide)]; exact (hfr 233 (by decide) (by decide)).1) (by unfold isS; decide) (by decide) (nr_up (nr_up (nr_up (nr_up (hfr 233 (by decide) (by decide)).2 nr_A) (fun ci rf q => by cases q; decide)) nr_A) nr_A) (by rw [upT_ne (by omega), upT_ne (by omega), upT_ne (by omega), upT_ne (by omega)]; exact hn _ (by omega)) (by omega) c_5 (by omega) ⟨by decide, by decide, by decide, by decide⟩ (ok_1 fun _ => rfl) ⟨by decide, by decide⟩
  have g234 := g233.addA (a := 234) (k := n + 6) (n := m) (by rw [uph_ne (by decide), uph_ne (by decide), uph_ne (by decide), uph_ne (by decide), uph_ne (by decide)]; exact (hfr 234 (by decide) (by decide)).1) (by unfold isS; decide) (by decide) (nr_up (nr_up (nr_up (nr_up (nr_up (hfr 234 (by decide) (by decide)).2 nr_A) (fun ci rf q => by cases q; decide)) nr_A) nr_A) nr_A) (by rw [upT_ne (by omega), upT_ne (by omega), upT_ne (by omega), upT_ne (by omega), upT_ne (by omega)]; exact hn _ (by omega)) (by omega) c_6 (by omega) ⟨by decide, by decide, by decide, by decide⟩ (ok_1 fun _ => rfl) ⟨by decide, by decide⟩
  have g235 := g234.addA (a := 235) (k := n + 7) (n := m) (by rw [uph_ne (by decide), uph_ne (by decide), uph_ne (by decide), uph_ne (by decide), uph_ne (by decide), uph_ne (by decide)]; exact (hfr 235 (by decide) (by decide)).1) (by unfold isS; decide) (by decide) (nr_up (nr_up (nr_up (nr_up (nr_up (nr_up (hfr 235 (by decide) (by decide)).2 nr_A) (fun ci rf q => by cases q; decide)) nr_A) nr_A) nr_A) nr_A) (by rw [upT_ne (by omega), upT_ne (by omega), upT_ne (by omega), upT_ne (by omega), upT_ne (by omega), upT_ne (by omega)]; exact hn _ (by omega)) (by omega) c_7 (by omega) ⟨by decide, by decide, by decide, by decide⟩ (ok_1 fun _ => rfl) ⟨by decide, by decide⟩
  have u2 : ∀ a t, τ a = some t → upT (upT (upT (upT (upT (upT (upT (τ) (n + 1) (.inr (0, 30, (tB 236).1, (tB 236).2))) (n + 2) (.inl (7, 0))) (n + 3) (.inr (0, m, (tB 231).1, (tB 231).2))) (n + 4) (.inr (0, m, (tB 232).1, (tB 232).2))) (n + 5) (.inr (0, m, (tB 233).1, (tB 233).2))) (n + 6) (.inr (0, m, (tB 234).1, (tB 234).2))) (n + 7) (.inr (0, m, (tB 235).1, (tB 235).2)) a = some t := fun a t e => by
    have := lt a t e
    rw [upT_ne (by omega), upT_ne (by omega), upT_ne (by omega), upT_ne (by omega), upT_ne (by omega), upT_ne (by omega), upT_ne (by omega)]
    exact e
  have g230 := g235.addO (a := 230) (k := n + 0) (ci := 3) (p := m) (rf := rfMe) (f := fun _ => 0) (by rw [uph_ne (by decide), uph_ne (by decide), uph_ne (by decide), uph_ne (by decide), uph_ne (by decide), uph_ne (by decide), uph_ne (by decide)]; exact (hfr 230 (by decide) (by decide)).1) (by unfold isS; decide) (by decide) (nr_up (nr_up (nr_up (nr_up (nr_up (nr_up (nr_up (hfr 230 (by decide) (by decide)).2 nr_A) (fun ci rf q => by cases q; decide)) nr_A) nr_A) nr_A) nr_A) nr_A) (by decide) (by rw [upT_ne (by omega), upT_ne (by omega), upT_ne (by omega), upT_ne (by omega), upT_ne (by omega), upT_ne (by omega), upT_ne (by omega)]; exact hn _ (by omega)) (by omega) c_0 rfl ⟨by decide, by decide, by decide, by decide, fun _ => hm⟩ (wF_cons ⟨v 24, rfl, p24, u2 _ _ t24⟩ (wF_cons ⟨v 3, rfl, p3, u2 _ _ t3⟩ (wF_cons ⟨v 1, rfl, p1, u2 _ _ s1⟩ (wF_cons ⟨v 4, rfl, p4, u2 _ _ s4⟩ (wF_cons ⟨v 50, rfl, p50, u2 _ _ t50⟩ (wF_cons ⟨n + 2, rfl, 0, (by rw [upT_ne (by omega), upT_ne (by omega), upT_ne (by omega), upT_ne (by omega), upT_ne (by omega)]; exact upT_at)⟩ (wF_cons ⟨n + 3, rfl, rT_i (by rw [upT_ne (by omega), upT_ne (by omega), upT_ne (by omega), upT_ne (by omega)]; exact upT_at)⟩ (wF_cons ⟨n + 4, rfl, rT_i (by rw [upT_ne (by omega), upT_ne (by omega), upT_ne (by omega)]; exact upT_at)⟩ (wF_cons ⟨n + 5, rfl, rT_i (by rw [upT_ne (by omega), upT_ne (by omega)]; exact upT_at)⟩ (wF_cons ⟨n + 6, rfl, rT_i (by rw [upT_ne (by omega)]; exact upT_at)⟩ (wF_cons ⟨n + 7, rfl, (by exact upT_at)⟩ (wF_cons ⟨n + 1, rfl, rT_i (by rw [upT_ne (by omega), upT_ne (by omega), upT_ne (by omega), upT_ne (by omega), upT_ne (by omega), upT_ne (by omega)]; exact upT_at)⟩ wF_nil)))))))))))) (fun j hj => by
    rcases (show j = 0 ∨ j = 1 ∨ j = 2 ∨ j = 3 ∨ j = 4 ∨ j = 5 ∨ j = 6 ∨ j = 7 ∨ j = 8 ∨ j = 9 ∨ j = 10 ∨ j = 11 ∨ 12 ≤ j by omega) with rfl | rfl | rfl | rfl | rfl | rfl | rfl | rfl | rfl | rfl | rfl | rfl | q
    all_goals first | (cases hj) | (rw [List.getElem?_eq_none_iff.mpr (by simpa using q)] at hj; cases hj)) (ok_1 fun _ => rfl) ⟨by decide, by decide⟩
  have q := g230.wv
  exact q.up (Nat.le_refl _) (by show B.2 + (44 + 5 * m) ≤ B.2 + 1044; omega) hB.1 hB.2
theorem sb_Mn {sh : Nat → Option Sh} {m : Nat} (hfr : ∀ a, 230 ≤ a → a ≤ 240 → sh a = none) : sb sh (shMn sh m) := fun a x h => by
  unfold shMn
  have ne : ∀ k, 230 ≤ k → k ≤ 240 → a ≠ k := fun k k0 k1 q => by
    rw [q, hfr k k0 k1] at h
    cases h
  rw [uph_ne (ne 230 (by decide) (by decide)), uph_ne (ne 235 (by decide) (by decide)), uph_ne (ne 234 (by decide) (by decide)), uph_ne (ne 233 (by decide) (by decide)), uph_ne (ne 232 (by decide) (by decide)), uph_ne (ne 231 (by decide) (by decide)), uph_ne (ne 240 (by decide) (by decide)), uph_ne (ne 236 (by decide) (by decide))]
  exact h
theorem sb_Me {sh : Nat → Option Sh} {m : Nat} (h3 : sh 3 = some shT3) : sb (shMe m) (shMn sh m) := fun a x h => by
  unfold shMe at h
  split at h
  · unfold shMn
    rw [uph_ne (by decide), uph_ne (by decide), uph_ne (by decide), uph_ne (by decide), uph_ne (by decide), uph_ne (by decide), uph_ne (by decide), uph_ne (by decide), h3]
    exact h
  · exact h
  · exact h
  · exact h
  · exact h
  · exact h
  · exact h
  · exact h
  · exact h
  · cases h
theorem shMn_S {sh : Nat → Option Sh} {m : Nat} (hS : ∀ b x, sh b = some x → ¬ isS b) : ∀ b x, shMn sh m b = some x → ¬ isS b := fun b x h hs => by
  unfold shMn at h
  have ne : ∀ k, 230 ≤ k → b ≠ k := fun k k0 q => by
    unfold isS at hs
    omega
  rw [uph_ne (ne 230 (by decide)), uph_ne (ne 235 (by decide)), uph_ne (ne 234 (by decide)), uph_ne (ne 233 (by decide)), uph_ne (ne 232 (by decide)), uph_ne (ne 231 (by decide)), uph_ne (ne 240 (by decide)), uph_ne (ne 236 (by decide))] at h
  exact hS b x h hs

