/-! A WRITER IS MADE -/
def wrC (G : xG) (n b1 b2 b3 : Nat) (m4 m5 : Int32) : List va_E := [.inr (8, [.ref (G.1 + b1), .ref (G.1 + b2), .ref (G.1 + b3), .int m4, .int m5, .ref (G.1 + (n + 1)), .ref (G.1 + (n + 2)), .ref (G.1 + (n + 3)), .ref (G.1 + (n + 4)), .ref (G.1 + (n + 5)), .ref (G.1 + (n + 6)), .int 0, .int 0]), .inl (G.2.2.1 0, 30, .inl (fun _ => 0)), .inl (G.2.2.1 0, 30, .inl (fun _ => 0)), .inl (G.2.2.1 0, 30, .inl (fun _ => 0)), .inl (G.2.2.1 0, 30, .inl (fun _ => 0)), .inl (G.2.2.1 0, 62, .inl (fun _ => 0)), .inl (G.2.2.1 0, 62, .inl (fun _ => 0))]
theorem app_k {cs l : List va_E} {k : Nat} : (cs ++ l)[cs.length + k]? = l[k]? := by
  rw [List.getElem?_append_right (by omega)]
  congr 1
  omega
def vW (v : Nat → Nat) (n : Nat) : Nat → Nat := fun a => if 210 ≤ a ∧ a ≤ 216 then n + (a - 210) else v a
def shCW : Nat → Option Sh := fun a => if 210 ≤ a ∧ a ≤ 216 then shW a else shC a
def sWr (S : St) (md mo : Int) : St := (fun a j => if a = 210 then (if j = 3 then md else if j = 4 then mo else 0) else S.1 a j, fun a i => if 210 ≤ a ∧ a ≤ 216 then 0 else S.2 a i)
theorem shC_lt {a : Nat} {x : Sh} (h : shC a = some x) : a < 54 := by
  unfold shC at h
  split at h <;> first | omega | cases h
theorem shC_rf {a ci : Nat} {rf : List (Option Nat)} (h : shC a = some (.inl (ci, rf))) : ∀ r, some r ∈ rf → r < 200 := by
  unfold shC at h
  split at h <;> first | (cases h; intro r hr; simp at hr; omega) | cases h
theorem vW_lo {v : Nat → Nat} {n a : Nat} (h : a < 210) : vW v n a = v a := if_neg (by omega)
theorem vSh_W {v : Nat → Nat} {n a : Nat} {x : Sh} (h : shC a = some x) : vSh (vW v n) x = vSh v x := by
  cases x with
  | inr q => rfl
  | inl q =>
    obtain ⟨ci, rf⟩ := q
    have hr := shC_rf h
    unfold vSh
    dsimp only
    congr 2
    refine List.map_congr_left (fun u hu => ?_)
    cases u with
    | none => rfl
    | some r =>
      show some (vW v n r) = some (v r)
      rw [vW_lo (by have := hr r hu; omega)]
theorem encC_W {G : xG} {S : St} {md mo : Int} {a : Nat} {x : Sh} (h : a < 210) : encC G (sWr S md mo) a x = encC G S a x := encC_ne ⟨funext fun j => if_neg (by omega), funext fun i => if_neg (by omega)⟩
theorem sb_C : sb shC shCW := fun a x h => by
  unfold shCW
  rw [if_neg (by have := shC_lt h; omega)]
  exact h
theorem sb_W : sb shW shCW := fun a x h => by
  unfold shCW
  have : 210 ≤ a ∧ a ≤ 216 := by
    unfold shW at h
    split at h <;> first | omega | cases h
  rw [if_pos this]
  exact h
theorem shCW_S : ∀ b x, shCW b = some x → ¬ isS b := fun b x h hs => by
  unfold shCW at h
  rcases hs with rfl | rfl | rfl | rfl <;> cases h
set_option maxRecDepth 100000 in
set_option maxHeartbeats 4000000 in
theorem Wv.writer {G : xG} {v : Nat → Nat} {B : Nat × Nat} {c0 : List va_E} {S : St} {cs : List va_E} {md mo : Int} (hW : Wv G v shC B c0 S cs) (hmd : rng md) (hmo : iv 1 20 mo) (hB : B.1 + 7 ≤ 600000 ∧ B.2 + 260 ≤ 7302250) : Wv G (vW v cs.length) shCW (B.1 + 7, B.2 + 260) c0 (sWr S md mo) (cs ++ wrC G cs.length (v 24) (v 42) (v 22) (Int32.ofInt md) (Int32.ofInt mo)) := by
  obtain ⟨τ, hT, hA, hI, hO, hD, hE, hF, hFi, hH, hL, hQ, hZ⟩ := hW
  obtain ⟨n, hn⟩ : ∃ n, n = cs.length := ⟨_, rfl⟩
  rw [← hn]
  obtain ⟨c1, hc1⟩ : ∃ c1, c1 = cs ++ wrC G n (v 24) (v 42) (v 22) (Int32.ofInt md) (Int32.ofInt mo) := ⟨_, rfl⟩
  rw [← hc1]
  have hlen : c1.length = n + 7 := by rw [hc1, List.length_append, ← hn]; rfl
  have hxz : xZ c1 = xZ cs + 257 := by rw [hc1, xZ_app]; rfl
  have old : ∀ a, a < n → c1[a]? = cs[a]? := fun a ha => by rw [hc1, List.getElem?_append_left (by omega)]
  have typ : ∀ a t, τ a = some t → a < n := fun a t h => by rw [hn]; exact hT.1 a t h
  have non : ∀ a, n ≤ a → τ a = none := fun a ha => hT.non (by omega)
  have hn22 : 22 < n := by
    have := hT.l22
    omega
  have hW0 : WT G (B.1 + 7, B.2 + 260) τ c1 := hT.alter (by omega) (fun a t h => old a (typ a t h)) (by show _ ≤ _ + (B.1 + 7); omega) (by show _ ≤ _ + (B.2 + 260); omega) hB.1 hB.2
  have c_0 : c1[n + 0]? = some ((.inr (8, [.ref (G.1 + v 24), .ref (G.1 + v 42), .ref (G.1 + v 22), .int (Int32.ofInt md), .int (Int32.ofInt mo), .ref (G.1 + (n + 1)), .ref (G.1 + (n + 2)), .ref (G.1 + (n + 3)), .ref (G.1 + (n + 4)), .ref (G.1 + (n + 5)), .ref (G.1 + (n + 6)), .int 0, .int 0]) : va_E)) := by rw [hc1, hn, app_k]; rfl
  have c_1 : c1[n + 1]? = some ((.inl (G.2.2.1 0, 30, .inl (fun _ => 0)) : va_E)) := by rw [hc1, hn, app_k]; rfl
  have c_2 : c1[n + 2]? = some ((.inl (G.2.2.1 0, 30, .inl (fun _ => 0)) : va_E)) := by rw [hc1, hn, app_k]; rfl
  have c_3 : c1[n + 3]? = some ((.inl (G.2.2.1 0, 30, .inl (fun _ => 0)) : va_E)) := by rw [hc1, hn, app_k]; rfl
  have c_4 : c1[n + 4]? = some ((.inl (G.2.2.1 0, 30, .inl (fun _ => 0)) : va_E)) := by rw [hc1, hn, app_k]; rfl
  have c_5 : c1[n + 5]? = some ((.inl (G.2.2.1 0, 62, .inl (fun _ => 0)) : va_E)) := by rw [hc1, hn, app_k]; rfl
  have c_6 : c1[n + 6]? = some ((.inl (G.2.2.1 0, 62, .inl (fun _ => 0)) : va_E)) := by rw [hc1, hn, app_k]; rfl
  have hW1 := hW0.give (a := n + 1) (t := .inr (0, 30, (-2147483648), 2147483647)) (by exact non _ (by omega)) (by omega) (by omega) (fun _ _ q => by cases q) (fun _ _ _ _ q => by cases q; exact ⟨by decide, by decide⟩) (fun _ _ _ _ q => by cases q; exact ⟨by decide, fun _ => 0, c_1, fun _ => (show iv (-2147483648) 2147483647 (0 : Int32).toInt from ⟨by decide, by decide⟩)⟩) (fun _ _ q => by cases q)
  have hW2 := hW1.give (a := n + 2) (t := .inr (0, 30, (-2147483648), 2147483647)) (by rw [upT_ne (by omega)]; exact non _ (by omega)) (by omega) (by omega) (fun _ _ q => by cases q) (fun _ _ _ _ q => by cases q; exact ⟨by decide, by decide⟩) (fun _ _ _ _ q => by cases q; exact ⟨by decide, fun _ => 0, c_2, fun _ => (show iv (-2147483648) 2147483647 (0 : Int32).toInt from ⟨by decide, by decide⟩)⟩) (fun _ _ q => by cases q)
  have hW3 := hW2.give (a := n + 3) (t := .inr (0, 30, (-2147483648), 2147483647)) (by rw [upT_ne (by omega)]; rw [upT_ne (by omega)]; exact non _ (by omega)) (by omega) (by omega) (fun _ _ q => by cases q) (fun _ _ _ _ q => by cases q; exact ⟨by decide, by decide⟩) (fun _ _ _ _ q => by cases q; exact ⟨by decide, fun _ => 0, c_3, fun _ => (show iv (-2147483648) 2147483647 (0 : Int32).toInt from ⟨by decide, by decide⟩)⟩) (fun _ _ q => by cases q)
  have hW4 := hW3.give (a := n + 4) (t := .inr (0, 30, 0, 7)) (by rw [upT_ne (by omega)]; rw [upT_ne (by omega)]; rw [upT_ne (by omega)]; exact non _ (by omega)) (by omega) (by omega) (fun _ _ q => by cases q) (fun _ _ _ _ q => by cases q; exact ⟨by decide, by decide⟩) (fun _ _ _ _ q => by cases q; exact ⟨by decide, fun _ => 0, c_4, fun _ => (show iv 0 7 (0 : Int32).toInt from ⟨by decide, by decide⟩)⟩) (fun _ _ q => by cases q)
  have hW5 := hW4.give (a := n + 5) (t := .inr (0, 62, (-2147483648), 2147483647)) (by rw [upT_ne (by omega)]; rw [upT_ne (by omega)]; rw [upT_ne (by omega)]; rw [upT_ne (by omega)]; exact non _ (by omega)) (by omega) (by omega) (fun _ _ q => by cases q) (fun _ _ _ _ q => by cases q; exact ⟨by decide, by decide⟩) (fun _ _ _ _ q => by cases q; exact ⟨by decide, fun _ => 0, c_5, fun _ => (show iv (-2147483648) 2147483647 (0 : Int32).toInt from ⟨by decide, by decide⟩)⟩) (fun _ _ q => by cases q)
  have hW6 := hW5.give (a := n + 6) (t := .inr (0, 62, (-2147483648), 2147483647)) (by rw [upT_ne (by omega)]; rw [upT_ne (by omega)]; rw [upT_ne (by omega)]; rw [upT_ne (by omega)]; rw [upT_ne (by omega)]; exact non _ (by omega)) (by omega) (by omega) (fun _ _ q => by cases q) (fun _ _ _ _ q => by cases q; exact ⟨by decide, by decide⟩) (fun _ _ _ _ q => by cases q; exact ⟨by decide, fun _ => 0, c_6, fun _ => (show iv (-2147483648) 2147483647 (0 : Int32).toInt from ⟨by decide, by decide⟩)⟩) (fun _ _ q => by cases q)
  obtain ⟨-, -, -, p24, t24, -⟩ := hE 24 4 _ rfl
  obtain ⟨-, -, -, p42, t42, -⟩ := hE 42 1 _ rfl
  obtain ⟨p22, t22⟩ := hQ (v 22) (hF 22 (by unfold isS; decide)).1
  obtain ⟨τ6, h6⟩ : ∃ τ6, τ6 = upT (upT (upT (upT (upT (upT (τ) (n + 1) (.inr (0, 30, (-2147483648), 2147483647))) (n + 2) (.inr (0, 30, (-2147483648), 2147483647))) (n + 3) (.inr (0, 30, (-2147483648), 2147483647))) (n + 4) (.inr (0, 30, 0, 7))) (n + 5) (.inr (0, 62, (-2147483648), 2147483647))) (n + 6) (.inr (0, 62, (-2147483648), 2147483647)) := ⟨_, rfl⟩
  rw [← h6] at hW6
  have o6 : ∀ a, a < n → τ6 a = τ a := fun a ha => by rw [h6]; rw [upT_ne (by omega)]; rw [upT_ne (by omega)]; rw [upT_ne (by omega)]; rw [upT_ne (by omega)]; rw [upT_ne (by omega)]; rw [upT_ne (by omega)]
  have g_1 : τ6 (n + 1) = some (.inr (0, 30, (-2147483648), 2147483647)) := by rw [h6]; rw [upT_ne (by omega)]; rw [upT_ne (by omega)]; rw [upT_ne (by omega)]; rw [upT_ne (by omega)]; rw [upT_ne (by omega)]; exact upT_at
  have g_2 : τ6 (n + 2) = some (.inr (0, 30, (-2147483648), 2147483647)) := by rw [h6]; rw [upT_ne (by omega)]; rw [upT_ne (by omega)]; rw [upT_ne (by omega)]; rw [upT_ne (by omega)]; exact upT_at
  have g_3 : τ6 (n + 3) = some (.inr (0, 30, (-2147483648), 2147483647)) := by rw [h6]; rw [upT_ne (by omega)]; rw [upT_ne (by omega)]; rw [upT_ne (by omega)]; exact upT_at
  have g_4 : τ6 (n + 4) = some (.inr (0, 30, 0, 7)) := by rw [h6]; rw [upT_ne (by omega)]; rw [upT_ne (by omega)]; exact upT_at
  have g_5 : τ6 (n + 5) = some (.inr (0, 62, (-2147483648), 2147483647)) := by rw [h6]; rw [upT_ne (by omega)]; exact upT_at
  have g_6 : τ6 (n + 6) = some (.inr (0, 62, (-2147483648), 2147483647)) := by rw [h6]; exact upT_at
  have g_0 : τ6 (n + 0) = none := by rw [h6]; rw [upT_ne (by omega)]; rw [upT_ne (by omega)]; rw [upT_ne (by omega)]; rw [upT_ne (by omega)]; rw [upT_ne (by omega)]; rw [upT_ne (by omega)]; exact non _ (by omega)
  have hW7 := hW6.give (a := n + 0) (t := .inl (8, 0)) g_0 (by omega) (by omega) (fun ci p q => by cases q; exact ⟨by decide, by decide, by decide, by decide, fun r => absurd r (by decide)⟩) (fun _ _ _ _ q => by cases q) (fun _ _ _ _ q => by cases q) (fun ci p q => by cases q; exact ⟨_, c_0, (wF_cons ⟨v 24, rfl, ⟨p24, (o6 _ (typ _ _ t24)).trans t24⟩⟩ (wF_cons ⟨v 42, rfl, ⟨p42, (o6 _ (typ _ _ t42)).trans t42⟩⟩ (wF_cons ⟨v 22, rfl, ⟨p22, (o6 _ (typ _ _ t22)).trans t22⟩⟩ (wF_cons ⟨_, rfl, any_ok _⟩ (wF_cons ⟨_, rfl, iv_ok hmo (by decide) (by decide)⟩ (wF_cons ⟨n + 1, rfl, g_1⟩ (wF_cons ⟨n + 2, rfl, g_2⟩ (wF_cons ⟨n + 3, rfl, g_3⟩ (wF_cons ⟨n + 4, rfl, g_4⟩ (wF_cons ⟨n + 5, rfl, g_5⟩ (wF_cons ⟨n + 6, rfl, g_6⟩ (wF_cons ⟨_, rfl, ⟨by decide, by decide⟩⟩ (wF_cons ⟨_, rfl, ⟨by decide, by decide⟩⟩ wF_nil)))))))))))))⟩)
  have o7 : ∀ a, a < n → upT τ6 (n + 0) (.inl (8, 0)) a = τ a := fun a ha => by rw [upT_ne (by omega)]; exact o6 a ha
  have lo : ∀ a x, shC a = some x → a < 54 ∧ v a < n := fun a x h => ⟨shC_lt h, by rw [hn]; exact at_lt (hA a x h)⟩
  have sg : ∀ a, isS a → vW v n a = v a := fun a h => vW_lo (by unfold isS at h; omega)
  have cas : ∀ a x, shCW a = some x → (210 ≤ a ∧ a ≤ 216 ∧ shW a = some x) ∨ (a < 54 ∧ shC a = some x ∧ vW v n a = v a ∧ v a < n) := fun a x h => by
    unfold shCW at h
    by_cases q : 210 ≤ a ∧ a ≤ 216
    · rw [if_pos q] at h
      exact Or.inl ⟨q.1, q.2, h⟩
    · rw [if_neg q] at h
      have l := lo a x h
      exact Or.inr ⟨l.1, h, vW_lo (by omega), l.2⟩
  have hi : ∀ a, 210 ≤ a → a ≤ 216 → vW v n a = n + (a - 210) := fun a h1 h2 => if_pos ⟨h1, h2⟩
  refine ⟨_, hW7, fun a x h => ?_, fun a b x y ha hb q => ?_, ⟨fun a j => ?_, fun a i => ?_⟩, fun a k m h => ?_, fun a ci rf h => ?_, fun a h => ?_, fun a b ha hb q => ?_, fun k k1 k2 => ?_, by omega, fun a h => ?_, fun _ => ?_⟩
  · rcases cas a x h with ⟨h1, h2, h3⟩ | ⟨h1, h2, h3, h4⟩
    · rw [hi a h1 h2]
      rcases (show a = 210 ∨ a = 211 ∨ a = 212 ∨ a = 213 ∨ a = 214 ∨ a = 215 ∨ a = 216 by omega) with rfl | rfl | rfl | rfl | rfl | rfl | rfl
      · cases h3
        refine c_0.trans ?_
        simp only [encC, vSh, encF, sWr, vW, List.map, Option.map]
        rfl
      · cases h3
        exact c_1
      · cases h3
        exact c_2
      · cases h3
        exact c_3
      · cases h3
        exact c_4
      · cases h3
        exact c_5
      · cases h3
        exact c_6
    · rw [h3, old _ h4, hA a x h2, vSh_W h2, encC_W (by omega)]
  · rcases cas a x ha with ⟨h1, h2, h3⟩ | ⟨h1, h2, h3, h4⟩
    · rcases cas b y hb with ⟨k1, k2, k3⟩ | ⟨k1, k2, k3, k4⟩
      · rw [hi a h1 h2, hi b k1 k2] at q
        omega
      · rw [hi a h1 h2, k3] at q
        omega
    · rcases cas b y hb with ⟨k1, k2, k3⟩ | ⟨k1, k2, k3, k4⟩
      · rw [h3, hi b k1 k2] at q
        omega
      · rw [h3, k3] at q
        exact hI a b x y h2 k2 q
  · show iv _ _ (if a = 210 then (if j = 3 then md else if j = 4 then mo else 0) else S.1 a j)
    by_cases q : a = 210
    · subst q
      rw [if_pos rfl]
      by_cases q3 : j = 3
      · subst q3
        rw [if_pos rfl]
        exact ⟨by show -2147483648 ≤ md; omega, by show md ≤ 2147483647; omega⟩
      · rw [if_neg q3]
        by_cases q4 : j = 4
        · subst q4
          rw [if_pos rfl]
          exact hmo
        · rw [if_neg q4]
          by_cases q5 : j = 12
          · subst q5
            exact ⟨by decide, by decide⟩
          · have e : cT.1 210 j = (-2147483648, 2147483647) := by
              show (match j with | 4 => ((1 : Int), (20 : Int)) | 12 => (0, 1) | _ => (-2147483648, 2147483647)) = _
              split
              · exact absurd rfl q4
              · exact absurd rfl q5
              · rfl
            rw [e]
            exact ⟨by decide, by decide⟩
    · rw [if_neg q]
      exact hO.1 a j
  · show iv _ _ (if 210 ≤ a ∧ a ≤ 216 then 0 else S.2 a i)
    by_cases q : 210 ≤ a ∧ a ≤ 216
    · rw [if_pos q]
      rcases (show a = 210 ∨ a = 211 ∨ a = 212 ∨ a = 213 ∨ a = 214 ∨ a = 215 ∨ a = 216 by omega) with rfl | rfl | rfl | rfl | rfl | rfl | rfl <;> exact ⟨by decide, by decide⟩
    · rw [if_neg q]
      exact hO.2 a i
  · rcases cas a _ h with ⟨h1, h2, h3⟩ | ⟨h1, h2, h3, h4⟩
    · rw [hi a h1 h2]
      rcases (show a = 210 ∨ a = 211 ∨ a = 212 ∨ a = 213 ∨ a = 214 ∨ a = 215 ∨ a = 216 by omega) with rfl | rfl | rfl | rfl | rfl | rfl | rfl
      · cases h3
      · cases h3
        rw [upT_ne (by omega)]
        exact g_1
      · cases h3
        rw [upT_ne (by omega)]
        exact g_2
      · cases h3
        rw [upT_ne (by omega)]
        exact g_3
      · cases h3
        rw [upT_ne (by omega)]
        exact g_4
      · cases h3
        rw [upT_ne (by omega)]
        exact g_5
      · cases h3
        rw [upT_ne (by omega)]
        exact g_6
    · rw [h3, o7 _ h4]
      exact hD a k m h2
  · rcases cas a _ h with ⟨h1, h2, h3⟩ | ⟨h1, h2, h3, h4⟩
    · rw [hi a h1 h2]
      rcases (show a = 210 ∨ a = 211 ∨ a = 212 ∨ a = 213 ∨ a = 214 ∨ a = 215 ∨ a = 216 by omega) with rfl | rfl | rfl | rfl | rfl | rfl | rfl
      · cases h3
        refine ⟨by decide, by decide, by decide, 0, upT_at, fun _ k hk => ?_⟩
        rcases (show k = 0 ∨ k = 1 ∨ k = 2 ∨ k = 3 ∨ k = 4 ∨ k = 5 ∨ k = 6 ∨ k = 7 ∨ k = 8 ∨ k = 9 ∨ k = 10 ∨ k = 11 ∨ k = 12 ∨ 13 ≤ k by omega) with rfl | rfl | rfl | rfl | rfl | rfl | rfl | rfl | rfl | rfl | rfl | rfl | rfl | q
        all_goals first | rfl | (cases hk) | (rw [List.getElem?_eq_none_iff.mpr (by simpa using q)] at hk; cases hk)
      · cases h3
      · cases h3
      · cases h3
      · cases h3
      · cases h3
      · cases h3
    · obtain ⟨e1, e2, e3, p, e4, e5⟩ := hE a ci rf h2
      exact ⟨e1, e2, e3, p, by rw [h3, o7 _ h4]; exact e4, e5⟩
  · obtain ⟨s1, m, r, t, ov, hS, hM⟩ := hF a h
    rw [sg a h]
    refine ⟨s1, m, r, t, ov, ?_, ?_⟩
    · obtain ⟨f, q1, q2, q3⟩ := hS
      exact ⟨f, (old _ (by rw [hn]; exact at_lt q1)).trans q1, (old _ (by rw [hn]; exact at_lt q2)).trans q2, q3⟩
    · have ha : a < 210 := by unfold isS at h; omega
      exact tM_ne ⟨funext fun j => if_neg (by omega), funext fun i => if_neg (by omega)⟩ hM
  · rw [sg a ha, sg b hb] at q
    exact hFi a b ha hb q
  · obtain ⟨e1, e2⟩ := hH k k1 k2
    rw [o7 k (by omega), old k (by omega)]
    exact ⟨e1, e2⟩
  · obtain ⟨p, e1⟩ := hQ a h
    exact ⟨p, (o7 a (typ _ _ e1)).trans e1⟩
  · obtain ⟨p3, z3⟩ := hT.2.1.2.1
    refine ⟨(old 3 (typ _ _ z3)).trans (hZ rfl).1, fun a x h q => ?_⟩
    rcases cas a x h with ⟨h1, h2, h3⟩ | ⟨h1, h2, h3, h4⟩
    · rw [hi a h1 h2] at q
      have := typ _ _ z3
      omega
    · rw [h3] at q
      exact (hZ rfl).2 a x h2 q

