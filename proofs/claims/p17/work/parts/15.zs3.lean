/-! THE TREE: it is opened for a reading, and shut -/
abbrev shT3 : Sh := .inl (6, [some 4, some 1, some 6, some 7, some 8, some 9, some 10, some 11, some 12, some 13, some 14, some 15, some 16, some 17, some 18, some 19, none, none])
/-- another text in the tree, another size of it -/
theorem Wv.put3 {G : xG} {v : Nat → Nat} {sh : Nat → Option Sh} {B : Nat × Nat} {c0 : List va_E} {S : St} {cs : List va_E} {w : Value} {x y x' y' : Int32} {b : Nat} (hW : Wv G v sh B c0 S cs) (h3 : sh 3 = none) (hc : cs[3]? = some (.inr (6, [.ref (G.1 + v 4), w, .ref (G.1 + v 6), .ref (G.1 + v 7), .ref (G.1 + v 8), .ref (G.1 + v 9), .ref (G.1 + v 10), .ref (G.1 + v 11), .ref (G.1 + v 12), .ref (G.1 + v 13), .ref (G.1 + v 14), .ref (G.1 + v 15), .ref (G.1 + v 16), .ref (G.1 + v 17), .ref (G.1 + v 18), .ref (G.1 + v 19), .int x, .int y]))) (hb : isS b) (hx : (x' = x ∧ y' = y) ∨ (x' = 0 ∧ iv 0 600 y'.toInt)) : Wv G v sh B (cs.set 3 (.inr (6, [.ref (G.1 + v 4), .ref (G.1 + v b), .ref (G.1 + v 6), .ref (G.1 + v 7), .ref (G.1 + v 8), .ref (G.1 + v 9), .ref (G.1 + v 10), .ref (G.1 + v 11), .ref (G.1 + v 12), .ref (G.1 + v 13), .ref (G.1 + v 14), .ref (G.1 + v 15), .ref (G.1 + v 16), .ref (G.1 + v 17), .ref (G.1 + v 18), .ref (G.1 + v 19), .int x', .int y']))) S (cs.set 3 (.inr (6, [.ref (G.1 + v 4), .ref (G.1 + v b), .ref (G.1 + v 6), .ref (G.1 + v 7), .ref (G.1 + v 8), .ref (G.1 + v 9), .ref (G.1 + v 10), .ref (G.1 + v 11), .ref (G.1 + v 12), .ref (G.1 + v 13), .ref (G.1 + v 14), .ref (G.1 + v 15), .ref (G.1 + v 16), .ref (G.1 + v 17), .ref (G.1 + v 18), .ref (G.1 + v 19), .int x', .int y']))) := by
  obtain ⟨τ, hT, hA, hI, hO, hD, hE, hF, hFi, hH, hL, hQ, hZ⟩ := hW
  obtain ⟨p3, t3⟩ := hT.2.1.2.1
  have hv := (hZ h3).2
  have hsb := hQ (v b) (hF b hb).1
  refine ⟨τ, ?_, fun a z h => ?_, hI, hO, hD, hE, fun a h => ?_, hFi, fun k k1 k2 => ⟨(hH k k1 k2).1, rfl⟩, by rw [List.length_set]; exact hL, hQ, fun _ => ⟨rfl, hv⟩⟩
  · refine hT.set t3 (fun ci' p' q => by cases q; exact ⟨by decide, by decide⟩) hc rfl (fun _ _ _ _ q => by cases q) (fun ci' p' q => ?_) ?_
    · cases q
      refine ⟨_, rfl, ?_⟩
      obtain ⟨vs, q1, q2⟩ := hT.2.2.2.2.1 3 6 p3 t3 (by decide) (by decide)
      rw [hc] at q1
      cases q1
      refine ⟨rfl, fun j t g => ?_⟩
      rcases (show j = 1 ∨ j = 16 ∨ j = 17 ∨ (j ≠ 1 ∧ j ≠ 16 ∧ j ≠ 17) by omega) with rfl | rfl | rfl | ⟨n1, n2, n3⟩
      · cases g
        exact ⟨_, rfl, v b, rfl, hsb⟩
      · rcases hx with ⟨rfl, -⟩ | ⟨rfl, -⟩
        · exact q2.2 16 t g
        · cases g
          exact ⟨_, rfl, 0, rfl, by decide, by decide⟩
      · rcases hx with ⟨-, rfl⟩ | ⟨-, h⟩
        · exact q2.2 17 t g
        · cases g
          exact ⟨_, rfl, y', rfl, h⟩
      · obtain ⟨w', g1, g2⟩ := q2.2 j t g
        refine ⟨w', ?_, g2⟩
        rw [← g1]
        rcases (show j = 0 ∨ j = 2 ∨ j = 3 ∨ j = 4 ∨ j = 5 ∨ j = 6 ∨ j = 7 ∨ j = 8 ∨ j = 9 ∨ j = 10 ∨ j = 11 ∨ j = 12 ∨ j = 13 ∨ j = 14 ∨ j = 15 ∨ 18 ≤ j by omega) with rfl | rfl | rfl | rfl | rfl | rfl | rfl | rfl | rfl | rfl | rfl | rfl | rfl | rfl | rfl | q
        all_goals first | rfl | (rw [List.getElem?_eq_none_iff.mpr (by simpa using q), List.getElem?_eq_none_iff.mpr (by simpa using q)])
    · have f16 : fld (cs.set 3 (.inr (6, [.ref (G.1 + v 4), .ref (G.1 + v b), .ref (G.1 + v 6), .ref (G.1 + v 7), .ref (G.1 + v 8), .ref (G.1 + v 9), .ref (G.1 + v 10), .ref (G.1 + v 11), .ref (G.1 + v 12), .ref (G.1 + v 13), .ref (G.1 + v 14), .ref (G.1 + v 15), .ref (G.1 + v 16), .ref (G.1 + v 17), .ref (G.1 + v 18), .ref (G.1 + v 19), .int x', .int y']))) 3 16 = x'.toInt := by
        unfold fld
        rw [set_at hc]
        rfl
      have f17 : fld (cs.set 3 (.inr (6, [.ref (G.1 + v 4), .ref (G.1 + v b), .ref (G.1 + v 6), .ref (G.1 + v 7), .ref (G.1 + v 8), .ref (G.1 + v 9), .ref (G.1 + v 10), .ref (G.1 + v 11), .ref (G.1 + v 12), .ref (G.1 + v 13), .ref (G.1 + v 14), .ref (G.1 + v 15), .ref (G.1 + v 16), .ref (G.1 + v 17), .ref (G.1 + v 18), .ref (G.1 + v 19), .int x', .int y']))) 3 17 = y'.toInt := by
        unfold fld
        rw [set_at hc]
        rfl
      intro e e0 e1
      rw [f16] at e1
      rw [f17]
      rcases hx with ⟨rfl, rfl⟩ | ⟨rfl, -⟩
      · have k16 : fld cs 3 16 = x'.toInt := by
          unfold fld
          rw [hc]
          rfl
        have k17 : fld cs 3 17 = y'.toInt := by
          unfold fld
          rw [hc]
          rfl
        have := hT.2.2.2.2.2.1 e e0 (by rw [k16]; exact e1)
        rw [k17] at this
        unfold elt at this ⊢
        rw [List.getElem?_set_ne (by decide), List.getElem?_set_ne (by decide)]
        exact this
      · have e1 : e < 0 := e1
        omega
  · rw [List.getElem?_set_ne (Ne.symm (hv a z h))]
    exact hA a z h
  · obtain ⟨s1, m, r, t, ov, hS, hM⟩ := hF a h
    refine ⟨s1, m, r, t, ov, ?_, hM⟩
    obtain ⟨pp, hp⟩ := hQ (v a) s1
    obtain ⟨r', t', ov', hS2, hr'⟩ := hT.2.2.1 (v a) pp hp
    have e := (hS.uq hS2).1
    subst e
    obtain ⟨f, q1, q2, q3⟩ := hS
    refine ⟨f, (List.getElem?_set_ne fun q => ?_).trans q1, (List.getElem?_set_ne fun q => ?_).trans q2, q3⟩
    · rw [← q, t3] at hp
      have := some_fst hp
      omega
    · rw [← q, t3] at hr'
      have := some_fst hr'
      omega
theorem c30 (j : Nat) : iv (cT.1 3 j).1 (cT.1 3 j).2 0 := by
  by_cases q : j = 16
  · subst q
    exact ⟨by decide, by decide⟩
  · by_cases q2 : j = 17
    · subst q2
      exact ⟨by decide, by decide⟩
    · have e : cT.1 3 j = (-2147483648, 2147483647) := by
        show (match j with | 16 => ((0 : Int), (200 : Int)) | 17 => (0, 600) | _ => (-2147483648, 2147483647)) = _
        split
        · exact absurd rfl q
        · exact absurd rfl q2
        · rfl
      rw [e]
      exact ⟨by decide, by decide⟩
/-- an empty tree is taken into the world -/
theorem Wv.tree {G : xG} {v : Nat → Nat} {sh : Nat → Option Sh} {B : Nat × Nat} {c0 : List va_E} {S : St} {cs : List va_E} (hW : Wv G v sh B c0 S cs) (h3 : sh 3 = none) (v3 : v 3 = 3) (hc : cs[3]? = some (.inr (6, [.ref (G.1 + v 4), .ref (G.1 + v 1), .ref (G.1 + v 6), .ref (G.1 + v 7), .ref (G.1 + v 8), .ref (G.1 + v 9), .ref (G.1 + v 10), .ref (G.1 + v 11), .ref (G.1 + v 12), .ref (G.1 + v 13), .ref (G.1 + v 14), .ref (G.1 + v 15), .ref (G.1 + v 16), .ref (G.1 + v 17), .ref (G.1 + v 18), .ref (G.1 + v 19), .int 0, .int 0]))) : Wv G v (uph sh 3 shT3) B c0 (sZ S 3 (fun _ => 0)) cs := by
  obtain ⟨τ, hT, hA, hI, hO, hD, hE, hF, hFi, hH, hL, hQ, hZ⟩ := hW
  obtain ⟨p3, t3⟩ := hT.2.1.2.1
  have hv := (hZ h3).2
  refine ⟨τ, hT, fun b y hb => ?_, fun b c y z hb hc q => ?_, ⟨fun b j => ?_, fun b i => ?_⟩, fun b q n hb => ?_, fun b ci rf hb => ?_, fun b hb => ?_, hFi, hH, hL, hQ, fun h => ?_⟩
  · rcases uph_c hb with ⟨rfl, rfl⟩ | ⟨q, hb⟩
    · rw [v3, hc]
      rfl
    · rw [hA b y hb, encC_ne (sZ_ne q)]
  · rcases uph_c hb with ⟨rfl, -⟩ | ⟨q1, hb⟩
    · rcases uph_c hc with ⟨rfl, -⟩ | ⟨q2, hc⟩
      · rfl
      · rw [v3] at q
        exact absurd q.symm (hv c z hc)
    · rcases uph_c hc with ⟨rfl, -⟩ | ⟨q2, hc⟩
      · rw [v3] at q
        exact absurd q (hv b y hb)
      · exact hI b c y z hb hc q
  · show iv _ _ (if b = 3 then 0 else S.1 b j)
    by_cases q : b = 3
    · rw [if_pos q, q]
      exact c30 j
    · rw [if_neg q]
      exact hO.1 b j
  · show iv _ _ (if b = 3 then 0 else S.2 b i)
    by_cases q : b = 3
    · rw [if_pos q, q]
      exact (show iv (-2147483648) 2147483647 0 from ⟨by decide, by decide⟩)
    · rw [if_neg q]
      exact hO.2 b i
  · rcases uph_c hb with ⟨rfl, e⟩ | ⟨q1, hb⟩
    · cases e
    · exact hD b q n hb
  · rcases uph_c hb with ⟨rfl, e⟩ | ⟨q1, hb⟩
    · cases e
      refine ⟨by decide, by decide, fun _ => rfl, p3, by rw [v3]; exact t3, fun _ k hk => ?_⟩
      rcases (show k = 0 ∨ k = 1 ∨ k = 2 ∨ k = 3 ∨ k = 4 ∨ k = 5 ∨ k = 6 ∨ k = 7 ∨ k = 8 ∨ k = 9 ∨ k = 10 ∨ k = 11 ∨ k = 12 ∨ k = 13 ∨ k = 14 ∨ k = 15 ∨ k = 16 ∨ k = 17 ∨ 18 ≤ k by omega) with rfl | rfl | rfl | rfl | rfl | rfl | rfl | rfl | rfl | rfl | rfl | rfl | rfl | rfl | rfl | rfl | rfl | rfl | q
      all_goals first | rfl | (cases hk) | (rw [List.getElem?_eq_none_iff.mpr (by simpa using q)] at hk; cases hk)
    · exact hE b ci rf hb
  · have q : b ≠ 3 := fun q => by rw [q] at hb; unfold isS at hb; omega
    obtain ⟨s1, m, r, t, ov, hSg, hM⟩ := hF b hb
    exact ⟨s1, m, r, t, ov, hSg, tM_ne (sZ_ne q) hM⟩
  · rw [uph_at] at h
    cases h
/-- the tree is shut -/
theorem Wv.shut {G : xG} {v : Nat → Nat} {sh : Nat → Option Sh} {B : Nat × Nat} {c0 : List va_E} {S : St} {cs : List va_E} (hW : Wv G v sh B c0 S cs) (hs : sb shC sh) (v3 : v 3 = 3) (h3 : sh 3 = some shT3) : Wv G v shC B cs S cs ∧ QT G v cs := by
  obtain ⟨τ, hT, hA, hI, hO, hD, hE, hF, hFi, hH, hL, hQ, hZ⟩ := hW
  refine ⟨⟨τ, hT, fun a x q => hA a x (hs a x q), fun a b x y q1 q2 => hI a b x y (hs a x q1) (hs b y q2), hO, fun a k n q => hD a k n (hs _ _ q), fun a ci rf q => hE a ci rf (hs _ _ q), hF, hFi, fun k k1 k2 => ⟨(hH k k1 k2).1, rfl⟩, hL, hQ, fun _ => ⟨rfl, fun a x q e => ?_⟩⟩, .ref (G.1 + v 1), Int32.ofInt (S.1 3 16), Int32.ofInt (S.1 3 17), ?_⟩
  · have := hI a 3 x _ (hs a x q) h3 (by rw [v3]; exact e)
    rw [this] at q
    cases q
  · have := hA 3 _ h3
    rw [v3] at this
    exact this

