/-! LIKENESS IS MADE, and the class's same -/
def liC (G : xG) (n b1 b2 b3 : Nat) : List va_E := [.inr (2, [.ref (G.1 + b1), .ref (G.1 + b2), .ref (G.1 + b3), .ref (G.1 + (n + 1)), .ref (G.1 + (n + 2)), .ref (G.1 + (n + 3)), .int 0]), .inl (G.2.2.1 0, 30, .inl (fun _ => 0)), .inl (G.2.2.1 0, 30, .inl (fun _ => 0)), .inl (G.2.2.1 0, 30, .inl (fun _ => 0))]
abbrev rfLi : List (Option Nat) := [some 24, some 42, some 46, some 251, some 252, some 253, none]
def shLc : Nat → Option Sh := uph (uph (uph (uph shC 251 (.inr (0, 30))) 252 (.inr (0, 30))) 253 (.inr (0, 30))) 250 (.inl (2, rfLi))
def vLi (v : Nat → Nat) (n : Nat) : Nat → Nat := upv (upv (upv (upv v 251 (n + 1)) 252 (n + 2)) 253 (n + 3)) 250 n
def sLi (S : St) : St := sZ (sZ (sZ (sZ S 251 (fun _ => 0)) 252 (fun _ => 0)) 253 (fun _ => 0)) 250 (fun _ => 0)
theorem nr_C {a b : Nat} {y : Sh} (h : 200 ≤ a) (hb : shC b = some y) : nr a y := fun ci rf q hr => by
  rw [q] at hb
  have := shC_rf hb a hr
  omega
theorem rT_i {τ : Tau} {a : Nat} {q : Nat × Nat × Int × Int} (h : τ a = some (.inr q)) : rT τ a (.inr q) := h
theorem nr_A {a k n : Nat} : nr a (.inr (k, n)) := fun ci rf q => by cases q
theorem nr_up {sh : Nat → Option Sh} {a c : Nat} {x : Sh} (h : ∀ b y, sh b = some y → nr a y) (hx : nr a x) : ∀ b y, uph sh c x b = some y → nr a y := fun b y hb => by
  rcases uph_c hb with ⟨-, rfl⟩ | ⟨-, hb⟩
  · exact hx
  · exact h b y hb
theorem shC_hi {a : Nat} (h : 54 ≤ a) : shC a = none := by
  cases q : shC a with
  | none => rfl
  | some x =>
    have := shC_lt q
    omega
theorem ok_1 {a : Nat} (h : ∀ j, cT.1 a j = (-2147483648, 2147483647)) : ∀ j, iv (cT.1 a j).1 (cT.1 a j).2 0 := fun j => by
  rw [h j]
  exact ⟨by decide, by decide⟩
theorem c250 (j : Nat) : iv (cT.1 250 j).1 (cT.1 250 j).2 0 := by
  by_cases q : j = 6
  · subst q
    exact ⟨by decide, by decide⟩
  · have e : cT.1 250 j = (-2147483648, 2147483647) := by
      show (match j with | 6 => ((0 : Int), (30 : Int)) | _ => (-2147483648, 2147483647)) = _
      split
      · exact absurd rfl q
      · rfl
    rw [e]
    exact ⟨by decide, by decide⟩
set_option maxRecDepth 100000 in
theorem Wv.like {G : xG} {v : Nat → Nat} {B : Nat × Nat} {c0 : List va_E} {S : St} {cs : List va_E} (hW : Wv G v shC B c0 S cs) (hB : B.1 + 4 ≤ 600000 ∧ B.2 + 97 ≤ 7302250) : Wv G (vLi v cs.length) shLc (B.1 + 4, B.2 + 97) c0 (sLi S) (cs ++ liC G cs.length (v 24) (v 42) (v 46)) := by
  obtain ⟨τ, h⟩ := hW.ex
  have hL : 107 ≤ cs.length := h.2.2.2.2.2.2.2.2.2.1
  obtain ⟨n, en⟩ : ∃ n, n = cs.length := ⟨_, rfl⟩
  rw [← en]
  obtain ⟨c1, ec⟩ : ∃ c1, c1 = cs ++ liC G n (v 24) (v 42) (v 46) := ⟨_, rfl⟩
  rw [← ec]
  obtain ⟨g, hn⟩ := h.grow (l := liC G n (v 24) (v 42) (v 46)) (B1 := (B.1 + 4, B.2 + 97)) rfl rfl hB.1 hB.2
  rw [← ec] at g
  have c_0 : c1[n + 0]? = (liC G n (v 24) (v 42) (v 46))[0]? := by rw [ec, en]; exact app_k
  have c_1 : c1[n + 1]? = (liC G n (v 24) (v 42) (v 46))[1]? := by rw [ec, en]; exact app_k
  have c_2 : c1[n + 2]? = (liC G n (v 24) (v 42) (v 46))[2]? := by rw [ec, en]; exact app_k
  have c_3 : c1[n + 3]? = (liC G n (v 24) (v 42) (v 46))[3]? := by rw [ec, en]; exact app_k
  have nC : ∀ a, 200 ≤ a → ∀ b y, shC b = some y → nr a y := fun a ha b y hb => nr_C ha hb
  have g1 := g.addA (a := 251) (k := n + 1) (n := 30) (shC_hi (by decide)) (by unfold isS; decide) (by decide) (nC 251 (by decide)) (hn _ (by omega)) (by omega) c_1 (by decide) ⟨by decide, by decide, by decide, by decide⟩ (ok_1 fun _ => rfl) ⟨by decide, by decide⟩
  have g2 := g1.addA (a := 252) (k := n + 2) (n := 30) (by rw [uph_ne (by decide)]; exact shC_hi (by decide)) (by unfold isS; decide) (by decide) (nr_up (nC 252 (by decide)) nr_A) (by rw [upT_ne (by omega)]; exact hn _ (by omega)) (by omega) c_2 (by decide) ⟨by decide, by decide, by decide, by decide⟩ (ok_1 fun _ => rfl) ⟨by decide, by decide⟩
  have g3 := g2.addA (a := 253) (k := n + 3) (n := 30) (by rw [uph_ne (by decide), uph_ne (by decide)]; exact shC_hi (by decide)) (by unfold isS; decide) (by decide) (nr_up (nr_up (nC 253 (by decide)) nr_A) nr_A) (by rw [upT_ne (by omega), upT_ne (by omega)]; exact hn _ (by omega)) (by omega) c_3 (by decide) ⟨by decide, by decide, by decide, by decide⟩ (ok_1 fun _ => rfl) ⟨by decide, by decide⟩
  obtain ⟨-, -, -, p24, t24, -⟩ := h.2.2.2.2.2.1 24 4 _ rfl
  obtain ⟨-, -, -, p42, t42, -⟩ := h.2.2.2.2.2.1 42 1 _ rfl
  obtain ⟨-, -, -, p46, t46, -⟩ := h.2.2.2.2.2.1 46 1 _ rfl
  have lt : ∀ a t, τ a = some t → a < n := fun a t e => by rw [en]; exact h.1.1 a t e
  have up : ∀ a t, τ a = some t → upT (upT (upT τ (n + 1) (.inr (0, 30, (tB 251).1, (tB 251).2))) (n + 2) (.inr (0, 30, (tB 252).1, (tB 252).2))) (n + 3) (.inr (0, 30, (tB 253).1, (tB 253).2)) a = some t := fun a t e => by
    have := lt a t e
    rw [upT_ne (by omega), upT_ne (by omega), upT_ne (by omega)]
    exact e
  have g4 := g3.addO (a := 250) (k := n) (ci := 2) (p := 0) (rf := rfLi) (f := fun _ => 0) (vs := [.ref (G.1 + v 24), .ref (G.1 + v 42), .ref (G.1 + v 46), .ref (G.1 + (n + 1)), .ref (G.1 + (n + 2)), .ref (G.1 + (n + 3)), .int 0]) (by rw [uph_ne (by decide), uph_ne (by decide), uph_ne (by decide)]; exact shC_hi (by decide)) (by unfold isS; decide) (by decide) (nr_up (nr_up (nr_up (nC 250 (by decide)) nr_A) nr_A) nr_A) (by decide) (by rw [upT_ne (by omega), upT_ne (by omega), upT_ne (by omega)]; exact hn _ (by omega)) (by omega) c_0 rfl ⟨by decide, by decide, by decide, by decide, by decide⟩ (wF_cons ⟨v 24, rfl, p24, up _ _ t24⟩ (wF_cons ⟨v 42, rfl, p42, up _ _ t42⟩ (wF_cons ⟨v 46, rfl, p46, up _ _ t46⟩ (wF_cons ⟨n + 1, rfl, rT_i (by rw [upT_ne (by omega), upT_ne (by omega)]; exact upT_at)⟩ (wF_cons ⟨n + 2, rfl, rT_i (by rw [upT_ne (by omega)]; exact upT_at)⟩ (wF_cons ⟨n + 3, rfl, upT_at⟩ (wF_cons ⟨_, rfl, ⟨by decide, by decide⟩⟩ wF_nil))))))) (fun j hj => by
    rcases (show j = 0 ∨ j = 1 ∨ j = 2 ∨ j = 3 ∨ j = 4 ∨ j = 5 ∨ j = 6 ∨ 7 ≤ j by omega) with rfl | rfl | rfl | rfl | rfl | rfl | rfl | q
    all_goals first | rfl | (cases hj) | (rw [List.getElem?_eq_none_iff.mpr (by simpa using q)] at hj; cases hj)) c250 ⟨by decide, by decide⟩
  exact g4.wv
theorem sb_Lc : sb shC shLc := fun a x h => by
  unfold shLc
  have := shC_lt h
  rw [uph_ne (by omega), uph_ne (by omega), uph_ne (by omega), uph_ne (by omega)]
  exact h
theorem sb_Li : sb shLi shLc := fun a x h => by
  unfold shLi at h
  split at h
  · exact h
  · exact h
  · exact h
  · exact h
  · cases h
theorem shLc_S : ∀ b x, shLc b = some x → ¬ isS b := fun b x h hs => by
  unfold shLc at h
  rcases hs with rfl | rfl | rfl | rfl <;> cases h

