/-! WHAT ELEMENTS MEAN: the class places elements -/
def cTb (S : St) (M : Mm) (m : Nat) : Prop := (∀ x : Int, 0 ≤ x → x < m → S.2 231 x = M.2 0 x ∧ S.2 232 x = M.2 1 x ∧ S.2 233 x = M.2 2 x ∧ S.2 234 x = M.2 3 x ∧ S.2 235 x = M.2 4 x) ∧ ∀ o : Int, 0 ≤ o → o < 30 → iv 0 15 (S.2 236 o) ∧ ∀ f, 0 ≤ f → f < 4 → (bnd (bsr (S.2 236 o) f) 1 = 0 ↔ ¬ M.2 5 (o * 4 + f) = 1)
def SF (S : St) (e : Env) (fb : Int → Int) : Prop := ∀ c, okC e c → RC S e c ∧ S.2 32 c = fb c ∧ S.2 30 c = imp e c
def PMn (T : Int → Int) (n : Int) (X : Xs) (e : Env) (fb : Int → Int) (M : Mm) (S : St) : Prop := CM T n X S ∧ cE S e ∧ SF S e fb ∧ cH S e M.1 ∧ EH e M.1 ∧ cTb S M X.1.length
def OM (T : Int → Int) (n : Int) (X : Xs) (e : Env) (fb : Int → Int) (S : St) (res : Option Mm) (r : Int) (S' : St) : Prop := MF S S' ∧ ((r = 0 ∧ res = none) ∨ (r = 1 ∧ ∃ M', res = some M' ∧ PMn T n X e fb M' S'))
theorem SF.mf {S S' : St} {e : Env} {fb : Int → Int} (h : SF S e fb) (g : MF S S') : SF S' e fb := by
  unfold SF RC at h ⊢
  rw [g.2 31 (by decide) (by decide), g.2 32 (by decide) (by decide), g.2 30 (by decide) (by decide)]
  exact h
section QP
variable {S S' : St} {K : Int → St → Prop} {T : Int → Int} {n x o f v c r p a b : Int} {X : Xs} {e : Env} {fb : Int → Int} {M M' : Mm} {h h' : Hs}
theorem cTb.hf (g : cTb S M X.1.length) (q : HF S S') : cTb S' (h', M.2) X.1.length := by
  unfold cTb at g ⊢
  rw [q.2 231 (by decide), q.2 232 (by decide), q.2 233 (by decide), q.2 234 (by decide), q.2 235 (by decide), q.2 236 (by decide)]
  exact g
theorem PMn.heap (hP : PMn T n X e fb M S) (q : HF S S') (g : cH S' e h') (hH : EH e h') : PMn T n X e fb (h', M.2) S' := ⟨hP.1.mf q.mf, hP.2.1.mf q.mf, hP.2.2.1.mf q.mf, g, hH, hP.2.2.2.2.2.hf q⟩
theorem MF.p231 {i y : Int} : MF S (pA S 231 i y) := ⟨fun _ _ => rfl, fun b _ q => (pA_ne b (by omega)).2⟩
theorem MF.p232 {i y : Int} : MF S (pA S 232 i y) := ⟨fun _ _ => rfl, fun b _ q => (pA_ne b (by omega)).2⟩
theorem MF.p233 {i y : Int} : MF S (pA S 233 i y) := ⟨fun _ _ => rfl, fun b _ q => (pA_ne b (by omega)).2⟩
theorem MF.p234 {i y : Int} : MF S (pA S 234 i y) := ⟨fun _ _ => rfl, fun b _ q => (pA_ne b (by omega)).2⟩
theorem MF.p235 {i y : Int} : MF S (pA S 235 i y) := ⟨fun _ _ => rfl, fun b _ q => (pA_ne b (by omega)).2⟩
theorem MF.p236 {i y : Int} : MF S (pA S 236 i y) := ⟨fun _ _ => rfl, fun b _ q => (pA_ne b (by omega)).2⟩
theorem PM_0 (hP : PMn T n X e fb M S) : PMn T n X e fb (zS M 0 x v) (pA S 231 x v) := by
  obtain ⟨p1, p2, p3, p4, p5, g1, g2⟩ := hP
  refine ⟨p1.mf MF.p231, p2.mf MF.p231, p3.mf MF.p231, p4.tb rfl (fun b _ _ => (pA_ne b (by omega)).2), p5, fun y y0 y1 => ?_, fun w w0 w1 => ?_⟩
  · obtain ⟨k0, k1, k2, k3, k4⟩ := g1 y y0 y1
    refine ⟨?_, ?_, ?_, ?_, ?_⟩
    · rw [pA_if]
      show _ = if 0 = 0 ∧ y = x then v else M.2 0 y
      by_cases q : y = x
      · rw [if_pos q, if_pos ⟨rfl, q⟩]
      · rw [if_neg q, if_neg (fun z => q z.2)]
        exact k0
    · rw [(pA_ne 232 (by decide)).2]
      show _ = if 1 = 0 ∧ y = x then v else M.2 1 y
      rw [if_neg (fun z => absurd z.1 (by decide))]
      exact k1
    · rw [(pA_ne 233 (by decide)).2]
      show _ = if 2 = 0 ∧ y = x then v else M.2 2 y
      rw [if_neg (fun z => absurd z.1 (by decide))]
      exact k2
    · rw [(pA_ne 234 (by decide)).2]
      show _ = if 3 = 0 ∧ y = x then v else M.2 3 y
      rw [if_neg (fun z => absurd z.1 (by decide))]
      exact k3
    · rw [(pA_ne 235 (by decide)).2]
      show _ = if 4 = 0 ∧ y = x then v else M.2 4 y
      rw [if_neg (fun z => absurd z.1 (by decide))]
      exact k4
  · rw [(pA_ne 236 (by decide)).2]
    refine ⟨(g2 w w0 w1).1, fun f f0 f1 => ?_⟩
    have q := (g2 w w0 w1).2 f f0 f1
    show _ ↔ ¬ (if 5 = 0 ∧ w * 4 + f = x then v else M.2 5 (w * 4 + f)) = 1
    rw [if_neg (fun z => absurd z.1 (by decide))]
    exact q
theorem PM_1 (hP : PMn T n X e fb M S) : PMn T n X e fb (zS M 1 x v) (pA S 232 x v) := by
  obtain ⟨p1, p2, p3, p4, p5, g1, g2⟩ := hP
  refine ⟨p1.mf MF.p232, p2.mf MF.p232, p3.mf MF.p232, p4.tb rfl (fun b _ _ => (pA_ne b (by omega)).2), p5, fun y y0 y1 => ?_, fun w w0 w1 => ?_⟩
  · obtain ⟨k0, k1, k2, k3, k4⟩ := g1 y y0 y1
    refine ⟨?_, ?_, ?_, ?_, ?_⟩
    · rw [(pA_ne 231 (by decide)).2]
      show _ = if 0 = 1 ∧ y = x then v else M.2 0 y
      rw [if_neg (fun z => absurd z.1 (by decide))]
      exact k0
    · rw [pA_if]
      show _ = if 1 = 1 ∧ y = x then v else M.2 1 y
      by_cases q : y = x
      · rw [if_pos q, if_pos ⟨rfl, q⟩]
      · rw [if_neg q, if_neg (fun z => q z.2)]
        exact k1
    · rw [(pA_ne 233 (by decide)).2]
      show _ = if 2 = 1 ∧ y = x then v else M.2 2 y
      rw [if_neg (fun z => absurd z.1 (by decide))]
      exact k2
    · rw [(pA_ne 234 (by decide)).2]
      show _ = if 3 = 1 ∧ y = x then v else M.2 3 y
      rw [if_neg (fun z => absurd z.1 (by decide))]
      exact k3
    · rw [(pA_ne 235 (by decide)).2]
      show _ = if 4 = 1 ∧ y = x then v else M.2 4 y
      rw [if_neg (fun z => absurd z.1 (by decide))]
      exact k4
  · rw [(pA_ne 236 (by decide)).2]
    refine ⟨(g2 w w0 w1).1, fun f f0 f1 => ?_⟩
    have q := (g2 w w0 w1).2 f f0 f1
    show _ ↔ ¬ (if 5 = 1 ∧ w * 4 + f = x then v else M.2 5 (w * 4 + f)) = 1
    rw [if_neg (fun z => absurd z.1 (by decide))]
    exact q
theorem PM_2 (hP : PMn T n X e fb M S) : PMn T n X e fb (zS M 2 x v) (pA S 233 x v) := by
  obtain ⟨p1, p2, p3, p4, p5, g1, g2⟩ := hP
  refine ⟨p1.mf MF.p233, p2.mf MF.p233, p3.mf MF.p233, p4.tb rfl (fun b _ _ => (pA_ne b (by omega)).2), p5, fun y y0 y1 => ?_, fun w w0 w1 => ?_⟩
  · obtain ⟨k0, k1, k2, k3, k4⟩ := g1 y y0 y1
    refine ⟨?_, ?_, ?_, ?_, ?_⟩
    · rw [(pA_ne 231 (by decide)).2]
      show _ = if 0 = 2 ∧ y = x then v else M.2 0 y
      rw [if_neg (fun z => absurd z.1 (by decide))]
      exact k0
    · rw [(pA_ne 232 (by decide)).2]
      show _ = if 1 = 2 ∧ y = x then v else M.2 1 y
      rw [if_neg (fun z => absurd z.1 (by decide))]
      exact k1
    · rw [pA_if]
      show _ = if 2 = 2 ∧ y = x then v else M.2 2 y
      by_cases q : y = x
      · rw [if_pos q, if_pos ⟨rfl, q⟩]
      · rw [if_neg q, if_neg (fun z => q z.2)]
        exact k2
    · rw [(pA_ne 234 (by decide)).2]
      show _ = if 3 = 2 ∧ y = x then v else M.2 3 y
      rw [if_neg (fun z => absurd z.1 (by decide))]
      exact k3
    · rw [(pA_ne 235 (by decide)).2]
      show _ = if 4 = 2 ∧ y = x then v else M.2 4 y
      rw [if_neg (fun z => absurd z.1 (by decide))]
      exact k4
  · rw [(pA_ne 236 (by decide)).2]
    refine ⟨(g2 w w0 w1).1, fun f f0 f1 => ?_⟩
    have q := (g2 w w0 w1).2 f f0 f1
    show _ ↔ ¬ (if 5 = 2 ∧ w * 4 + f = x then v else M.2 5 (w * 4 + f)) = 1
    rw [if_neg (fun z => absurd z.1 (by decide))]
    exact q
theorem PM_3 (hP : PMn T n X e fb M S) : PMn T n X e fb (zS M 3 x v) (pA S 234 x v) := by
  obtain ⟨p1, p2, p3, p4, p5, g1, g2⟩ := hP
  refine ⟨p1.mf MF.p234, p2.mf MF.p234, p3.mf MF.p234, p4.tb rfl (fun b _ _ => (pA_ne b (by omega)).2), p5, fun y y0 y1 => ?_, fun w w0 w1 => ?_⟩
  · obtain ⟨k0, k1, k2, k3, k4⟩ := g1 y y0 y1
    refine ⟨?_, ?_, ?_, ?_, ?_⟩
    · rw [(pA_ne 231 (by decide)).2]
      show _ = if 0 = 3 ∧ y = x then v else M.2 0 y
      rw [if_neg (fun z => absurd z.1 (by decide))]
      exact k0
    · rw [(pA_ne 232 (by decide)).2]
      show _ = if 1 = 3 ∧ y = x then v else M.2 1 y
      rw [if_neg (fun z => absurd z.1 (by decide))]
      exact k1
    · rw [(pA_ne 233 (by decide)).2]
      show _ = if 2 = 3 ∧ y = x then v else M.2 2 y
      rw [if_neg (fun z => absurd z.1 (by decide))]
      exact k2
    · rw [pA_if]
      show _ = if 3 = 3 ∧ y = x then v else M.2 3 y
      by_cases q : y = x
      · rw [if_pos q, if_pos ⟨rfl, q⟩]
      · rw [if_neg q, if_neg (fun z => q z.2)]
        exact k3
    · rw [(pA_ne 235 (by decide)).2]
      show _ = if 4 = 3 ∧ y = x then v else M.2 4 y
      rw [if_neg (fun z => absurd z.1 (by decide))]
      exact k4
  · rw [(pA_ne 236 (by decide)).2]
    refine ⟨(g2 w w0 w1).1, fun f f0 f1 => ?_⟩
    have q := (g2 w w0 w1).2 f f0 f1
    show _ ↔ ¬ (if 5 = 3 ∧ w * 4 + f = x then v else M.2 5 (w * 4 + f)) = 1
    rw [if_neg (fun z => absurd z.1 (by decide))]
    exact q
theorem PM_4 (hP : PMn T n X e fb M S) : PMn T n X e fb (zS M 4 x v) (pA S 235 x v) := by
  obtain ⟨p1, p2, p3, p4, p5, g1, g2⟩ := hP
  refine ⟨p1.mf MF.p235, p2.mf MF.p235, p3.mf MF.p235, p4.tb rfl (fun b _ _ => (pA_ne b (by omega)).2), p5, fun y y0 y1 => ?_, fun w w0 w1 => ?_⟩
  · obtain ⟨k0, k1, k2, k3, k4⟩ := g1 y y0 y1
    refine ⟨?_, ?_, ?_, ?_, ?_⟩
    · rw [(pA_ne 231 (by decide)).2]
      show _ = if 0 = 4 ∧ y = x then v else M.2 0 y
      rw [if_neg (fun z => absurd z.1 (by decide))]
      exact k0
    · rw [(pA_ne 232 (by decide)).2]
      show _ = if 1 = 4 ∧ y = x then v else M.2 1 y
      rw [if_neg (fun z => absurd z.1 (by decide))]
      exact k1
    · rw [(pA_ne 233 (by decide)).2]
      show _ = if 2 = 4 ∧ y = x then v else M.2 2 y
      rw [if_neg (fun z => absurd z.1 (by decide))]
      exact k2
    · rw [(pA_ne 234 (by decide)).2]
      show _ = if 3 = 4 ∧ y = x then v else M.2 3 y
      rw [if_neg (fun z => absurd z.1 (by decide))]
      exact k3
    · rw [pA_if]
      show _ = if 4 = 4 ∧ y = x then v else M.2 4 y
      by_cases q : y = x
      · rw [if_pos q, if_pos ⟨rfl, q⟩]
      · rw [if_neg q, if_neg (fun z => q z.2)]
        exact k4
  · rw [(pA_ne 236 (by decide)).2]
    refine ⟨(g2 w w0 w1).1, fun f f0 f1 => ?_⟩
    have q := (g2 w w0 w1).2 f f0 f1
    show _ ↔ ¬ (if 5 = 4 ∧ w * 4 + f = x then v else M.2 5 (w * 4 + f)) = 1
    rw [if_neg (fun z => absurd z.1 (by decide))]
    exact q
theorem PM_5 (hP : PMn T n X e fb M S) (o0 : 0 ≤ o) (o1 : o < 30) (hf : 0 ≤ f ∧ f < 4) : PMn T n X e fb (zS M 5 (o * 4 + f) 1) (pA S 236 o (bor (S.2 236 o) (bsl 1 f))) := by
  obtain ⟨p1, p2, p3, p4, p5, g1, g2⟩ := hP
  refine ⟨p1.mf MF.p236, p2.mf MF.p236, p3.mf MF.p236, p4.tb rfl (fun b _ _ => (pA_ne b (by omega)).2), p5, fun y y0 y1 => ?_, fun w w0 w1 => ?_⟩
  · rw [(pA_ne 231 (by decide)).2, (pA_ne 232 (by decide)).2, (pA_ne 233 (by decide)).2, (pA_ne 234 (by decide)).2, (pA_ne 235 (by decide)).2]
    exact g1 y y0 y1
  · rw [pA_if]
    by_cases q : w = o
    · rw [if_pos q]
      have b0 := (g2 o o0 o1).1
      refine ⟨(bits b0 ⟨hf.1, by omega⟩ ⟨hf.1, by omega⟩).2.1, fun f' f0 f1 => ?_⟩
      have k1 := (bits b0 (f := f) (g := f') ⟨hf.1, by omega⟩ ⟨f0, by omega⟩).1
      have k2 := (g2 o o0 o1).2 f' f0 f1
      rw [k1, k2]
      show _ ↔ ¬ (if 5 = 5 ∧ w * 4 + f' = o * 4 + f then 1 else M.2 5 (w * 4 + f')) = 1
      by_cases w2 : f' = f
      · rw [if_pos ⟨rfl, by omega⟩]
        exact ⟨fun z => absurd w2 z.1, fun z => absurd rfl z⟩
      · rw [if_neg (fun z => w2 (by omega)), q]
        exact ⟨fun z => z.2, fun z => ⟨w2, z⟩⟩
    · rw [if_neg q]
      refine ⟨(g2 w w0 w1).1, fun f' f0 f1 => ?_⟩
      have k2 := (g2 w w0 w1).2 f' f0 f1
      show _ ↔ ¬ (if 5 = 5 ∧ w * 4 + f' = o * 4 + f then 1 else M.2 5 (w * 4 + f')) = 1
      rw [if_neg (fun z => q (by omega))]
      exact k2
theorem tkR_at : (tkR M x r o f p).2 0 x = r ∧ (tkR M x r o f p).2 1 x = o ∧ (tkR M x r o f p).2 2 x = f ∧ (tkR M x r o f p).2 3 x = p := by
  refine ⟨?_, ?_, ?_, ?_⟩
  · show (if 0 = 3 ∧ x = x then p else if 0 = 2 ∧ x = x then f else if 0 = 1 ∧ x = x then o else if 0 = 0 ∧ x = x then r else M.2 0 x) = r
    rw [if_neg (fun z => absurd z.1 (by decide)), if_neg (fun z => absurd z.1 (by decide)), if_neg (fun z => absurd z.1 (by decide)), if_pos ⟨rfl, rfl⟩]
  · show (if 1 = 3 ∧ x = x then p else if 1 = 2 ∧ x = x then f else if 1 = 1 ∧ x = x then o else if 1 = 0 ∧ x = x then r else M.2 1 x) = o
    rw [if_neg (fun z => absurd z.1 (by decide)), if_neg (fun z => absurd z.1 (by decide)), if_pos ⟨rfl, rfl⟩]
  · show (if 2 = 3 ∧ x = x then p else if 2 = 2 ∧ x = x then f else if 2 = 1 ∧ x = x then o else if 2 = 0 ∧ x = x then r else M.2 2 x) = f
    rw [if_neg (fun z => absurd z.1 (by decide)), if_pos ⟨rfl, rfl⟩]
  · show (if 3 = 3 ∧ x = x then p else if 3 = 2 ∧ x = x then f else if 3 = 1 ∧ x = x then o else if 3 = 0 ∧ x = x then r else M.2 3 x) = p
    rw [if_pos ⟨rfl, rfl⟩]
theorem tkR_ne {t : Nat} {y : Int} (q : 3 < t ∨ ¬ y = x) : (tkR M x r o f p).2 t y = M.2 t y := by
  show (if t = 3 ∧ y = x then p else if t = 2 ∧ y = x then f else if t = 1 ∧ y = x then o else if t = 0 ∧ y = x then r else M.2 t y) = M.2 t y
  rw [if_neg (fun z => by omega), if_neg (fun z => by omega), if_neg (fun z => by omega), if_neg (fun z => by omega)]
theorem tkR_f {g : Int} : zS (tkR M x r o f p) 2 x g = tkR M x r o g p := by
  refine Prod.ext rfl (funext fun t => funext fun i => ?_)
  show (if t = 2 ∧ i = x then g else if t = 3 ∧ i = x then p else if t = 2 ∧ i = x then f else if t = 1 ∧ i = x then o else if t = 0 ∧ i = x then r else M.2 t i) = (if t = 3 ∧ i = x then p else if t = 2 ∧ i = x then g else if t = 1 ∧ i = x then o else if t = 0 ∧ i = x then r else M.2 t i)
  by_cases h2 : t = 2 ∧ i = x
  · rw [if_pos h2, if_neg (fun z => by omega), if_pos h2]
  · rw [if_neg h2]
    by_cases h3 : t = 3 ∧ i = x
    · rw [if_pos h3, if_pos h3]
    · rw [if_neg h3, if_neg h3, if_neg h2, if_neg h2]
theorem tkR_p {g : Int} : zS (tkR M x r o f p) 3 x g = tkR M x r o f g := by
  refine Prod.ext rfl (funext fun t => funext fun i => ?_)
  show (if t = 3 ∧ i = x then g else if t = 3 ∧ i = x then p else if t = 2 ∧ i = x then f else if t = 1 ∧ i = x then o else if t = 0 ∧ i = x then r else M.2 t i) = (if t = 3 ∧ i = x then g else if t = 2 ∧ i = x then f else if t = 1 ∧ i = x then o else if t = 0 ∧ i = x then r else M.2 t i)
  by_cases h3 : t = 3 ∧ i = x
  · rw [if_pos h3, if_pos h3]
  · rw [if_neg h3, if_neg h3, if_neg h3]
theorem q_refs (hE : cE S e) (hV : EV e) (hc : okC e c) (hK : K (S.2 31 c) S) : wX4_references c S K := by
  have h24 := hE.2.2.2.2.1
  have h6 := hV.2.1
  have c0 := hc.1
  have c1 := hc.2
  unfold wX4_references wX4_isClass
  intro _ _
  rw [h24]
  exact ⟨fun z => absurd z (by omega), fun _ _ => ⟨fun z => absurd z (by omega), fun _ => ⟨⟨by decide, by decide⟩, fun z => absurd z (by decide), fun _ => ⟨by omega, by omega, fun _ => hK⟩⟩⟩⟩
theorem k_takes (hP : PMn T n X e fb M S) (x0 : 0 ≤ x) (x1 : x < X.1.length) (hr : rng r) (ho : iv 0 29 o) (hf : rng f) (hK : ∀ S', PMn T n X e fb (tkR M x r o f (-1)) S' → MF S S' → K 0 S') : wX3_takesRole X.1.length x r o f S K := by
  unfold wX3_takesRole
  refine fun _ _ _ _ => ⟨x0, x1, ⟨by omega, by omega⟩, fun S2 e2 => ⟨x0, x1, ho, fun S5 e5 => ⟨x0, x1, ⟨by omega, by omega⟩, fun S8 e8 => ⟨x0, x1, fun S11 e11 => ?_⟩⟩⟩⟩
  rw [e11, e8, e5, e2]
  exact hK _ (PM_3 (PM_2 (PM_1 (PM_0 hP)))) (MF.p231.tr (MF.p232.tr (MF.p233.tr MF.p234)))
theorem bgM_none (q : c = -1 ∨ ¬ M.1.1 < 30) : bgM e M x c f = none := if_pos q
theorem bgM_some (q : ¬ (c = -1 ∨ ¬ M.1.1 < 30)) : bgM e M x c f = some (tkR (zB e M.1 c, M.2) x 1 M.1.1 f (-1)) := if_neg q
theorem k_begins (hP : PMn T n X e fb M S) (hV : EV e) (x0 : 0 ≤ x) (x1 : x < X.1.length) (hc : c = -1 ∨ okC e c) (hK : ∀ r S', OM T n X e fb S (bgM e M x c (-1)) r S' → K r S') : wX3_begins X.1.length x c S K := by
  have h6 := hV.2.1
  have l := hP.1.len
  have hH := hP.2.2.2.2.1
  have hN := hH.1
  unfold wX3_begins
  refine fun _ _ => ⟨fun z => ?_, fun z => ?_⟩
  · have hc := hc.resolve_left z
    have hb := (hP.2.2.1 c hc).1
    have hb1 := hb.1
    refine q_refs hP.2.1 hV hc ⟨⟨by omega, by omega⟩, b_born hP.2.2.2.1 hH hc (by omega) hb (fun q => ?_) (fun q S4 hB h50 => ?_)⟩
    · unfold wX3_begins_25
      exact ⟨⟨by decide, by decide⟩, fun w => absurd rfl w, fun _ => hK 0 S ⟨MF.rf, Or.inl ⟨rfl, bgM_none (Or.inr q)⟩⟩⟩
    · unfold wX3_begins_25
      have hP4 := hP.heap hB.1 (cH_B hP.2.2.2.1 hV hN.1 hb hB h50) (EH_B hH q hc)
      refine ⟨⟨by omega, by omega⟩, fun _ => ⟨⟨by omega, by omega⟩, k_takes hP4 x0 x1 ⟨by decide, by decide⟩ ⟨by omega, by omega⟩ ⟨by decide, by decide⟩ (fun S5 h5 m5 => hK 1 S5 ⟨hB.1.mf.tr m5, Or.inr ⟨rfl, _, bgM_some (fun w => w.elim z (fun w => w q)), h5⟩⟩)⟩, fun w => absurd (show ¬ M.1.1 = -1 by omega) w⟩
  · have hc := Classical.not_not.mp z
    unfold wX3_begins_25
    exact ⟨⟨by decide, by decide⟩, fun w => absurd rfl w, fun _ => hK 0 S ⟨MF.rf, Or.inl ⟨rfl, bgM_none (Or.inl hc)⟩⟩⟩
theorem clN_ok (hV : EV e) {L : List Int} : clN e fb L = -1 ∨ (okC e (clN e fb L) ∧ eL e (clN e fb L) = L ∧ fb (clN e fb L) = 0) := by
  have h6 := hV.2.1
  unfold clN
  by_cases q : clF e L = -1 ∨ ¬ fb (clF e L) = 0
  · rw [if_pos q]
    exact Or.inl rfl
  · rw [if_neg q]
    right
    unfold clF at q ⊢
    rcases fnd_or (P := fun c => decide (eL e c = L)) (eC e).toNat 0 with ⟨w, -⟩ | ⟨w1, w2, w3, -⟩
    · exact absurd (Or.inl w) q
    · exact ⟨⟨w1, by omega⟩, by simpa using w3, Classical.not_not.mp (fun z => q (Or.inr z))⟩
theorem fdN_ok (hV : EV e) (hc : okC e c) {L : List Int} : fdN e a c L = -1 ∨ (okF e c (fdN e a c L) ∧ isA e c (fdN e a c L) = a ∧ eL e (6 + c * 4 + fdN e a c L) = L) := by
  have h4 := hV.2.2.2.1 c hc
  unfold fdN
  rcases fnd_or (P := fun f => decide (isA e c f = a ∧ eL e (6 + c * 4 + f) = L)) (eF e c).toNat 0 with ⟨w, -⟩ | ⟨w1, w2, w3, -⟩
  · exact Or.inl w
  · rw [decide_eq_true_eq] at w3
    exact Or.inr ⟨⟨hc, w1, by omega⟩, w3.1, w3.2⟩
theorem imp_ok (hV : EV e) (hc : okC e c) : imp e c = -1 ∨ (okF e c (imp e c) ∧ eD e c (imp e c) = 3 ∧ eM e c (imp e c) = 1) := by
  have h4 := hV.2.2.2.1 c hc
  unfold imp
  rcases fnd_or (P := fun f => decide (eD e c f = 3 ∧ eM e c f = 1)) (eF e c).toNat 0 with ⟨w, -⟩ | ⟨w1, w2, w3, -⟩
  · exact Or.inl w
  · rw [decide_eq_true_eq] at w3
    exact Or.inr ⟨⟨hc, w1, by omega⟩, w3.1, w3.2⟩
theorem q_nmC (hP : PMn T n X e fb M S) (hV : EV e) (x0 : 0 ≤ x) (x1 : x < X.1.length) (hK : K (clN e fb (nmE T X x)) S) : wX4_readableClass (S.2 7 x) (S.2 8 x) S K := by
  obtain ⟨⟨e7, e8, -, -, -⟩, g1, g2, g3, -⟩ := cm_e hP.1 x0 x1
  rw [e7, e8]
  exact q_readC hP.2.1 hV (fun d hd => (hP.2.2.1 d hd).2.1) hP.1.1.1 hP.1.1.2 (by omega) (by omega) g3 hK
theorem k_inL (hP : PMn T n X e fb M S) (hV : EV e) (x0 : 0 ≤ x) (x1 : x < X.1.length) (ho : 0 ≤ o ∧ o < M.1.1) (hf : okF e (M.1.2.1 o) f) (hk : eD e (M.1.2.1 o) f = 3) (hK : ∀ r S', OM T n X e fb S (inL e T X fb M x o f) r S' → K r S') : wX3_isPlacedInList X.1.length x o f S K := by
  have h6 := hV.2.1
  have l := hP.1.len
  have hH := hP.2.2.2.2.1
  have hN := hH.1
  have f4 := okF4 hV hf
  have h8 := ((hH.2.2 o f ho.1 ho.2 hf).2.2.2 hk).1
  obtain ⟨⟨e7, e8, -, -, -⟩, g1, g2, g3, -⟩ := cm_e hP.1 x0 x1
  have hcl := clN_ok (fb := fb) hV (L := nmE T X x)
  have bad : ∀ S', MF S S' → inL e T X fb M x o f = none → wX3_isPlacedInList_50 X.1.length x o f (clN e fb (nmE T X x)) (-1) S' K := fun S' m q => by
    unfold wX3_isPlacedInList_50
    exact ⟨⟨by decide, by decide⟩, fun w => absurd rfl w, fun _ => hK 0 S' ⟨m, Or.inl ⟨rfl, q⟩⟩⟩
  unfold wX3_isPlacedInList
  refine fun _ _ _ => q_nameFrom hP.1 x0 x1 (q_nameTo hP.1 x0 x1 ⟨⟨by omega, by omega⟩, ⟨by omega, by omega⟩, q_nmC hP hV x0 x1 ⟨?_, fun z => ?_, fun z => ?_⟩⟩)
  · rcases hcl with w | ⟨w, -, -⟩
    · rw [w]
      exact ⟨by decide, by decide⟩
    · exact ⟨by have := w.1; omega, by have := w.2; omega⟩
  · have hc := (hcl.resolve_left z).1
    refine b_append hP.2.2.2.1 hV hH ho hf hk ⟨by decide, by decide⟩ (fun q => bad S MF.rf (if_pos (Or.inr q))) (fun q => ?_)
    have hP1 := hP.heap (HF.p52.tr HF.p53) (cH_A (x := -2) hP.2.2.2.1 hV hH ho hf hk) (EH_A hH ho hk q (Or.inl rfl))
    have m1 : MF S (pA (pA S 52 (o * 4 + f) (M.1.2.2.1 o f + 1)) 53 ((o * 4 + f) * 20 + M.1.2.2.1 o f) (-2)) := (HF.p52.tr HF.p53).mf
    unfold inL at hK
    rw [if_neg (fun w => w.elim z (fun w => w q))] at hK
    unfold wX3_isPlacedInList_50
    refine ⟨⟨by omega, by omega⟩, fun _ => ⟨⟨by omega, by omega⟩, q_attN hP1.1 x0 x1 ⟨?_, fun w => ?_, fun w => ?_⟩⟩, fun w => absurd (by omega) w⟩
    · have := fnd_or (P := fun a => decide (kyA T X a = ywR)) (xAc X x).toNat (xAf X x)
      have g4 := (cm_e hP.1 x0 x1).2
      have e9 : atN T X x ywR = fnd (fun a => decide (kyA T X a = ywR)) (xAc X x).toNat (xAf X x) := rfl
      rw [e9]
      exact ⟨by omega, by omega⟩
    · rw [if_pos w] at hK
      refine ⟨⟨by have := hc.1; omega, by have := hc.2; omega⟩, k_begins hP1 hV x0 x1 (Or.inr hc) (fun r S8 h8' => ?_)⟩
      obtain ⟨m8, ⟨rfl, hn⟩ | ⟨rfl, M', hs, hP8⟩⟩ := h8'
      · rw [hn] at hK
        exact ⟨⟨by decide, by decide⟩, fun w => absurd rfl w, fun _ => hK 0 S8 ⟨m1.tr m8, Or.inl ⟨rfl, rfl⟩⟩⟩
      · rw [hs] at hK
        dsimp only at hK
        have hnn : ¬ (clN e fb (nmE T X x) = -1 ∨ ¬ (zA M.1 o f (-2), M.2).1.1 < 30) := fun w => by
          have := bgM_none (e := e) (M := (zA M.1 o f (-2), M.2)) (x := x) (f := -1) w
          rw [this] at hs
          cases hs
        have hM' := (bgM_some hnn).symm.trans hs
        injection hM' with hM'
        have e1 : M'.2 1 x = M.1.1 := by
          rw [← hM']
          exact tkR_at.2.1
        have e232 := (hP8.2.2.2.2.2.1 x x0 x1).2.1
        have hh : M'.1 = zB e (zA M.1 o f (-2)) (clN e fb (nmE T X x)) := by rw [← hM']; rfl
        have hlt : M.1.1 < 30 := Int.lt_of_not_ge (fun w => hnn (Or.inr (by show ¬ M.1.1 < 30; omega)))
        have ek : M'.1.2.1 o = M.1.2.1 o := by
          rw [hh]
          exact if_neg (fun w => by have := ho.2; have w : o = M.1.1 := w; omega)
        have ev : M'.1.2.2.1 o f = M.1.2.2.1 o f + 1 := by
          rw [hh]
          show (if o = M.1.1 then _ else if o = o ∧ f = f then M.1.2.2.1 o f + 1 else _) = _
          rw [if_neg (by omega), if_pos ⟨rfl, rfl⟩]
        have en : M'.1.1 = M.1.1 + 1 := by rw [hh]; rfl
        have hf' : okF e (M'.1.2.1 o) f := by rw [ek]; exact hf
        have hk' : eD e (M'.1.2.1 o) f = 3 := by rw [ek]; exact hk
        have e52 := hP8.2.2.2.1.2.2.1 o f ho.1 (by omega) hf'
        refine ⟨⟨by decide, by decide⟩, fun _ => ⟨x0, x1, fun _ => ?_⟩, fun w => absurd (by decide) w⟩
        rw [e232, e1]
        refine ⟨⟨by omega, by omega⟩, ⟨by omega, by omega⟩, ⟨by omega, by omega⟩, ?_⟩
        rw [show M.1.2.2.1 o f + 1 - 1 = M.1.2.2.1 o f by omega]
        refine b_putCell hP8.2.2.2.1.1 hP8.2.2.2.2.1 ⟨ho.1, by omega⟩ f4 (by omega) (by omega) (by rw [e52, ev]; omega) ⟨by omega, by omega⟩ (hK 1 _ ⟨m1.tr (m8.tr HF.p53.mf), Or.inr ⟨rfl, _, rfl, ?_⟩⟩)
        exact hP8.heap HF.p53 (cH_C hP8.2.2.2.1 hV hP8.2.2.2.2.1 hf' (by omega) (by omega)) (EH_C hP8.2.2.2.2.1 hk' (Or.inr ⟨by omega, by omega⟩))
    · rw [if_neg w] at hK
      refine ⟨⟨by omega, by omega⟩, ⟨by omega, by omega⟩, k_takes hP1 x0 x1 ⟨by decide, by decide⟩ ⟨by omega, by omega⟩ ⟨by omega, by omega⟩ (fun S5 h5 m5 => ⟨x0, x1, ⟨by omega, by omega⟩, fun S25 e25 => ?_⟩)⟩
      rw [e25, show M.1.2.2.1 o f + 1 - 1 = M.1.2.2.1 o f by omega]
      refine hK 1 _ ⟨m1.tr (m5.tr MF.p234), Or.inr ⟨rfl, _, rfl, ?_⟩⟩
      rw [← tkR_p (p := -1)]
      exact PM_3 h5
  · exact bad S MF.rf (if_pos (Or.inl (Classical.not_not.mp z)))
theorem k_inT (hP : PMn T n X e fb M S) (hV : EV e) (x0 : 0 ≤ x) (x1 : x < X.1.length) (ho : 0 ≤ o ∧ o < M.1.1) (hf : okF e (M.1.2.1 o) f) (hk : eD e (M.1.2.1 o) f = 2) (hK : ∀ r S', OM T n X e fb S (inT e T X fb M x o f) r S' → K r S') : wX3_isPlacedAsTarget X.1.length x o f S K := by
  have h6 := hV.2.1
  have l := hP.1.len
  have hH := hP.2.2.2.2.1
  have hN := hH.1
  have f4 := okF4 hV hf
  have g4 := (cm_e hP.1 x0 x1).2
  have ra : ∀ w, rng (atN T X x w) ∧ (atN T X x w = -1 ∨ (0 ≤ atN T X x w ∧ atN T X x w < X.2.1.length)) := fun w => by
    have := fnd_or (P := fun a => decide (kyA T X a = w)) (xAc X x).toNat (xAf X x)
    have e9 : atN T X x w = fnd (fun a => decide (kyA T X a = w)) (xAc X x).toNat (xAf X x) := rfl
    rw [e9]
    exact ⟨⟨by omega, by omega⟩, by omega⟩
  unfold wX3_isPlacedAsTarget
  unfold inT at hK
  refine fun _ _ _ => q_attN hP.1 x0 x1 ⟨(ra _).1, fun z => ?_, fun z => ?_⟩
  · rw [if_neg (fun w => w z)] at hK
    refine q_attN_b hP.1 x0 x1 ⟨(ra _).1, fun z2 => ?_, fun z2 => ?_⟩
    · rw [if_neg z2] at hK
      have ha := (ra ywC).2.resolve_left z2
      obtain ⟨⟨-, -, e18, e19⟩, -, -, -, k1, k2, k3⟩ := cm_a hP.1 ha.1 ha.2
      have hcl := clN_ok (fb := fb) hV (L := vlA X (atN T X x ywC))
      have v4 := hP.1.v4
      refine q_valueFrom hP.1 ha.1 ha.2 (q_valueTo hP.1 ha.1 ha.2 ?_)
      rw [e18, e19]
      refine ⟨⟨by omega, by omega⟩, ⟨by omega, by omega⟩, q_readC_b hP.2.1 hV (fun d hd => (hP.2.2.1 d hd).2.1) v4.1 v4.2 k1 k2 k3 ?_⟩
      have hvl : sbT (sgV X) (gAt X (atN T X x ywC)).2.2.1 (gAt X (atN T X x ywC)).2.2.2 = vlA X (atN T X x ywC) := rfl
      rw [hvl]
      refine ⟨?_, k_begins hP hV x0 x1 (hcl.imp_right (fun w => w.1)) (fun r S8 h8' => ?_)⟩
      · rcases hcl with w | ⟨w, -, -⟩
        · rw [w]
          exact ⟨by decide, by decide⟩
        · exact ⟨by have := w.1; omega, by have := w.2; omega⟩
      · obtain ⟨m8, ⟨rfl, hn⟩ | ⟨rfl, M', hs, hP8⟩⟩ := h8'
        · have hn2 : clN e fb (vlA X (atN T X x ywC)) = -1 ∨ ¬ M.1.1 < 30 := Classical.not_not.mp (fun w => by
            rw [bgM_some w] at hn
            cases hn)
          rw [bgM_none hn2] at hK
          exact ⟨⟨by decide, by decide⟩, fun w => absurd rfl w, fun _ => hK 0 S8 ⟨m8, Or.inl ⟨rfl, rfl⟩⟩⟩
        · have hnn : ¬ (clN e fb (vlA X (atN T X x ywC)) = -1 ∨ ¬ M.1.1 < 30) := fun w => by
            rw [bgM_none w] at hs
            cases hs
          rw [bgM_some hnn] at hs hK
          injection hs with hs
          dsimp only at hK
          have hlt : M.1.1 < 30 := Int.lt_of_not_ge (fun w => hnn (Or.inr (by omega)))
          refine ⟨⟨by decide, by decide⟩, fun _ => ⟨x0, x1, ⟨by omega, by omega⟩, fun S23 e23 => ?_⟩, fun w => absurd (by decide) w⟩
          have hP9 : PMn T n X e fb (tkR (zB e M.1 (clN e fb (vlA X (atN T X x ywC))), M.2) x 1 M.1.1 f (-1)) S23 := by
            rw [e23, ← tkR_f (f := -1), hs]
            exact PM_2 hP8
          have e232 := (hP9.2.2.2.2.2.1 x x0 x1).2.1
          refine ⟨x0, x1, fun _ => ?_⟩
          rw [e232, tkR_at.2.1]
          have ek : (zB e M.1 (clN e fb (vlA X (atN T X x ywC)))).2.1 o = M.1.2.1 o := if_neg (fun w => by have := ho.2; have w : o = M.1.1 := w; omega)
          have en : (zB e M.1 (clN e fb (vlA X (atN T X x ywC)))).1 = M.1.1 + 1 := rfl
          have hc9 : cH S23 e (zB e M.1 (clN e fb (vlA X (atN T X x ywC)))) := hP9.2.2.2.1
          have hH9 : EH e (zB e M.1 (clN e fb (vlA X (atN T X x ywC)))) := hP9.2.2.2.2.1
          have hf9 : okF e ((zB e M.1 (clN e fb (vlA X (atN T X x ywC)))).2.1 o) f := by
            rw [ek]
            exact hf
          have hk9 : eD e ((zB e M.1 (clN e fb (vlA X (atN T X x ywC)))).2.1 o) f = 2 := by
            rw [ek]
            exact hk
          have ho9 : 0 ≤ o ∧ o < (zB e M.1 (clN e fb (vlA X (atN T X x ywC)))).1 := ⟨ho.1, by rw [en]; omega⟩
          have hx9 : M.1.1 < (zB e M.1 (clN e fb (vlA X (atN T X x ywC)))).1 := by
            rw [en]
            omega
          refine b_putHead hc9 hH9 ho9 f4 ⟨by omega, by omega⟩ (hK 1 _ ⟨m8.tr (by rw [e23]; exact MF.p233.tr HF.p52.mf), Or.inr ⟨rfl, _, rfl, ?_⟩⟩)
          exact hP9.heap HF.p52 (cH_V hc9 hV hf9 (Or.inr hk9)) (EH_V hH9 ho9 (Or.inr ⟨hk9, by omega, hx9⟩))
    · rw [if_pos (Classical.not_not.mp z2)] at hK
      exact hK 0 S ⟨MF.rf, Or.inl ⟨rfl, rfl⟩⟩
  · rw [if_pos z] at hK
    exact k_takes hP x0 x1 ⟨by decide, by decide⟩ ⟨by omega, by omega⟩ ⟨by omega, by omega⟩ (fun S5 h5 m5 => hK 1 S5 ⟨m5, Or.inr ⟨rfl, _, rfl, h5⟩⟩)
theorem k_inO (hP : PMn T n X e fb M S) (hV : EV e) (x0 : 0 ≤ x) (x1 : x < X.1.length) (ho : 0 ≤ o ∧ o < M.1.1) (hK : ∀ r S', OM T n X e fb S (inO e T X fb M x o) r S' → K r S') : wX3_isPlacedInObject X.1.length x o S K := by
  have h6 := hV.2.1
  have l := hP.1.len
  have hH := hP.2.2.2.2.1
  have hN := hH.1
  have hc := hH.2.1 o ho.1 ho.2
  have hc0 := hc.1
  have hc1 := hc.2
  have h4 := hV.2.2.2.1 _ hc
  obtain ⟨⟨e7, e8, -, -, -⟩, g1, g2, g3, -⟩ := cm_e hP.1 x0 x1
  have hfd := fdN_ok (a := 0) hV hc (L := nmE T X x)
  have him := imp_ok hV hc
  have rfd : rng (fdN e 0 (M.1.2.1 o) (nmE T X x)) := by
    rcases hfd with w | ⟨w, -⟩
    · rw [w]
      exact ⟨by decide, by decide⟩
    · have := w.2
      exact ⟨by omega, by omega⟩
  have rim : rng (imp e (M.1.2.1 o)) := by
    rcases him with w | ⟨w, -⟩
    · rw [w]
      exact ⟨by decide, by decide⟩
    · have := w.2
      exact ⟨by omega, by omega⟩
  have e30 := (hP.2.2.1 _ hc).2.2
  have rest : (fdN e 0 (M.1.2.1 o) (nmE T X x) = -1 → imp e (M.1.2.1 o) = -1) → wX3_isPlacedInObject_71 X.1.length x o (M.1.2.1 o) (fdN e 0 (M.1.2.1 o) (nmE T X x)) (imp e (M.1.2.1 o)) S K := fun hz => by
    unfold inO at hK
    unfold wX3_isPlacedInObject_71
    refine ⟨rfd, fun z => ?_, fun z => ⟨rim, fun z2 => ?_, fun z2 => ⟨ho.1, by omega, fun _ => ⟨fun z3 => ⟨ho.1, by omega, fun _ => ⟨ho.1, by omega, ?_, fun S11 e11 => ?_⟩⟩, fun z3 => ?_⟩⟩⟩⟩
    · rw [if_pos z, if_pos (hz z)] at hK
      exact hK 0 S ⟨MF.rf, Or.inl ⟨rfl, rfl⟩⟩
    · rw [if_neg z, if_pos (Or.inl z2)] at hK
      exact hK 0 S ⟨MF.rf, Or.inl ⟨rfl, rfl⟩⟩
    · have f4 := okF4 hV (hfd.resolve_left z).1
      have := (bits (hP.2.2.2.2.2.2 o ho.1 (by omega)).1 (f := fdN e 0 (M.1.2.1 o) (nmE T X x)) (g := 0) ⟨f4.1, by omega⟩ ⟨by decide, by decide⟩).2.1
      exact ⟨by have := this.1; omega, by have := this.2; omega⟩
    · have hf := (hfd.resolve_left z).1
      have f4 := okF4 hV hf
      have hD := (hV.2.2.2.2.1 _ _ hf).1
      have hb := (hP.2.2.2.2.2.2 o ho.1 (by omega)).2 _ f4.1 f4.2
      rw [if_neg z, if_neg (fun w => w.elim z2 (hb.mp z3))] at hK
      have hP11 : PMn T n X e fb (zS M 5 (o * 4 + fdN e 0 (M.1.2.1 o) (nmE T X x)) 1) S11 := by
        rw [e11]
        exact PM_5 hP ho.1 (by omega) f4
      have m11 : MF S S11 := by
        rw [e11]
        exact MF.p236
      unfold inF at hK
      refine ⟨⟨by omega, by omega⟩, r_shape hP11.2.1 hV hf ⟨⟨by omega, by omega⟩, fun z4 => r_shape hP11.2.1 hV hf ⟨⟨by omega, by omega⟩, fun z5 => ?_, fun z5 => ?_⟩, fun z4 => ⟨⟨by omega, by omega⟩, ⟨by omega, by omega⟩, k_inT hP11 hV x0 x1 ho hf (show eD e (M.1.2.1 o) _ = 2 by omega) (fun r S' h' => ?_)⟩⟩⟩
      · have d2 : ¬ eD e (M.1.2.1 o) (fdN e 0 (M.1.2.1 o) (nmE T X x)) = 2 := by omega
        have d3 : ¬ eD e (M.1.2.1 o) (fdN e 0 (M.1.2.1 o) (nmE T X x)) = 3 := by omega
        have hK : ∀ r S', OM T n X e fb S (if eD e (M.1.2.1 o) (fdN e 0 (M.1.2.1 o) (nmE T X x)) = 2 then _ else some (tkR (zS M 5 (o * 4 + fdN e 0 (M.1.2.1 o) (nmE T X x)) 1) x (if eD e (M.1.2.1 o) (fdN e 0 (M.1.2.1 o) (nmE T X x)) = 3 then 2 else 3) o (fdN e 0 (M.1.2.1 o) (nmE T X x)) (-1))) r S' → K r S' := hK
        rw [if_neg d2, if_neg d3] at hK
        unfold wX3_isPlacedInObject_157
        exact ⟨⟨by omega, by omega⟩, ⟨by decide, by decide⟩, ⟨by omega, by omega⟩, ⟨by omega, by omega⟩, k_takes hP11 x0 x1 ⟨by decide, by decide⟩ ⟨by omega, by omega⟩ ⟨by omega, by omega⟩ (fun S5 h5 m5 => hK 1 S5 ⟨m11.tr m5, Or.inr ⟨rfl, _, rfl, h5⟩⟩)⟩
      · have d2 : ¬ eD e (M.1.2.1 o) (fdN e 0 (M.1.2.1 o) (nmE T X x)) = 2 := by omega
        have d3 : eD e (M.1.2.1 o) (fdN e 0 (M.1.2.1 o) (nmE T X x)) = 3 := by omega
        have hK : ∀ r S', OM T n X e fb S (if eD e (M.1.2.1 o) (fdN e 0 (M.1.2.1 o) (nmE T X x)) = 2 then _ else some (tkR (zS M 5 (o * 4 + fdN e 0 (M.1.2.1 o) (nmE T X x)) 1) x (if eD e (M.1.2.1 o) (fdN e 0 (M.1.2.1 o) (nmE T X x)) = 3 then 2 else 3) o (fdN e 0 (M.1.2.1 o) (nmE T X x)) (-1))) r S' → K r S' := hK
        rw [if_neg d2, if_pos d3] at hK
        unfold wX3_isPlacedInObject_157
        exact ⟨⟨by omega, by omega⟩, ⟨by decide, by decide⟩, ⟨by omega, by omega⟩, ⟨by omega, by omega⟩, k_takes hP11 x0 x1 ⟨by decide, by decide⟩ ⟨by omega, by omega⟩ ⟨by omega, by omega⟩ (fun S5 h5 m5 => hK 1 S5 ⟨m11.tr m5, Or.inr ⟨rfl, _, rfl, h5⟩⟩)⟩
      · have d2 : eD e (M.1.2.1 o) (fdN e 0 (M.1.2.1 o) (nmE T X x)) = 2 := by omega
        have hK : ∀ r S', OM T n X e fb S (if eD e (M.1.2.1 o) (fdN e 0 (M.1.2.1 o) (nmE T X x)) = 2 then inT e T X fb (zS M 5 (o * 4 + fdN e 0 (M.1.2.1 o) (nmE T X x)) 1) x o (fdN e 0 (M.1.2.1 o) (nmE T X x)) else _) r S' → K r S' := hK
        rw [if_pos d2] at hK
        obtain ⟨m', h'⟩ := h'
        have r1 : iv 0 1 r := by
          rcases h' with ⟨w, -⟩ | ⟨w, -⟩
          · rw [w]
            exact ⟨by decide, by decide⟩
          · rw [w]
            exact ⟨by decide, by decide⟩
        exact ⟨r1, hK r S' ⟨m11.tr m', h'⟩⟩
    · have f4 := okF4 hV (hfd.resolve_left z).1
      have hb := (hP.2.2.2.2.2.2 o ho.1 (by omega)).2 _ f4.1 f4.2
      rw [if_neg z, if_pos (Or.inr (Classical.not_not.mp (fun w => z3 (hb.mpr w))))] at hK
      exact hK 0 S ⟨MF.rf, Or.inl ⟨rfl, rfl⟩⟩
  unfold wX3_isPlacedInObject
  refine fun _ _ => b_cls hP.2.2.2.1 hH ho (q_nameFrom hP.1 x0 x1 (q_nameTo hP.1 x0 x1 ?_))
  rw [e7, e8]
  refine ⟨⟨by omega, by omega⟩, ⟨by omega, by omega⟩, ⟨by omega, by omega⟩, q_fieldN hP.2.1 hV hc ⟨by decide, by decide⟩ hP.1.1.1 hP.1.1.2 (by omega) (by omega) g3 (r_impl hP.2.1 hV hc (fun _ => ?_))⟩
  rw [e30]
  refine ⟨rfd, fun z => rest (fun w => absurd w z), fun z => ⟨rim, fun z2 => rest (fun _ => z2), fun z2 => ?_⟩⟩
  have z' : fdN e 0 (M.1.2.1 o) (nmE T X x) = -1 := Classical.not_not.mp z
  obtain ⟨i1, i2, -⟩ := him.resolve_left z2
  refine k_inL hP hV x0 x1 ho i1 i2 (fun r S' h' => ?_)
  unfold inO at hK
  rw [if_pos z', if_neg z2] at hK
  have r1 : iv 0 1 r := by
    rcases h'.2 with ⟨w, -⟩ | ⟨w, -⟩
    · rw [w]
      exact ⟨by decide, by decide⟩
    · rw [w]
      exact ⟨by decide, by decide⟩
  exact ⟨r1, hK r S' h'⟩
/-- what holds of the elements before x -/
def RW (e : Env) (M : Mm) (y : Int) : Prop := (M.2 0 y = 1 → 0 ≤ M.2 1 y ∧ M.2 1 y < M.1.1) ∧ (M.2 0 y = 2 → 0 ≤ M.2 1 y ∧ M.2 1 y < M.1.1 ∧ okF e (M.1.2.1 (M.2 1 y)) (M.2 2 y) ∧ eD e (M.1.2.1 (M.2 1 y)) (M.2 2 y) = 3) ∧ (M.2 0 y = 4 → 0 ≤ M.2 1 y ∧ M.2 1 y < M.1.1 ∧ okF e (M.1.2.1 (M.2 1 y)) (M.2 2 y) ∧ ((M.2 3 y = -1 ∧ eD e (M.1.2.1 (M.2 1 y)) (M.2 2 y) = 2) ∨ (eD e (M.1.2.1 (M.2 1 y)) (M.2 2 y) = 3 ∧ 0 ≤ M.2 3 y ∧ M.2 3 y < M.1.2.2.1 (M.2 1 y) (M.2 2 y)))) ∧ (M.2 0 y = 3 → 0 ≤ M.2 1 y ∧ M.2 1 y < M.1.1 ∧ okF e (M.1.2.1 (M.2 1 y)) (M.2 2 y) ∧ eD e (M.1.2.1 (M.2 1 y)) (M.2 2 y) ≤ 1)
def TI (e : Env) (M : Mm) (x : Int) : Prop := ∀ y, 0 ≤ y → y < x → RW e M y
theorem k_placed (hP : PMn T n X e fb M S) (hV : EV e) (hI : TI e M x) (x0 : 0 ≤ x) (x1 : x < X.1.length) (hK : ∀ r S', OM T n X e fb S (plM e T X fb M x) r S' → K r S') : wX3_isPlaced X.1.length x S K := by
  have h6 := hV.2.1
  have l := hP.1.len
  have hH := hP.2.2.2.2.1
  have hN := hH.1
  obtain ⟨⟨e7, e8, e9, -, -⟩, g1, g2, g3, g4, g5, -⟩ := cm_e hP.1 x0 x1
  have r1 : ∀ (res : Option Mm) r S', OM T n X e fb S res r S' → iv 0 1 r := fun res r S' h' => by
    rcases h'.2 with ⟨w, -⟩ | ⟨w, -⟩
    · rw [w]
      exact ⟨by decide, by decide⟩
    · rw [w]
      exact ⟨by decide, by decide⟩
  unfold plM at hK
  unfold wX3_isPlaced
  refine fun _ => q_parent hP.1 x0 x1 ?_
  rw [e9]
  refine ⟨⟨by omega, by omega⟩, fun z => ?_, fun z => ⟨fun z2 => ?_, fun z2 => absurd g5 z2⟩⟩
  · rw [if_pos z] at hK
    unfold wX3_isPlaced_18
    refine ⟨⟨by omega, by omega⟩, q_nameFrom hP.1 x0 x1 (q_nameTo hP.1 x0 x1 ⟨⟨by omega, by omega⟩, ⟨by omega, by omega⟩, q_nmC hP hV x0 x1 ⟨?_, k_begins hP hV x0 x1 ((clN_ok hV).imp_right (fun w => w.1)) (fun r S' h' => ⟨r1 _ r S' h', hK r S' h'⟩)⟩⟩)⟩
    rcases clN_ok (fb := fb) hV (L := nmE T X x) with w | ⟨w, -, -⟩
    · rw [w]
      exact ⟨by decide, by decide⟩
    · exact ⟨by have := w.1; omega, by have := w.2; omega⟩
  · rw [if_neg z] at hK
    have p0 : 0 ≤ xPr X x := by omega
    have p1 : xPr X x < X.1.length := by omega
    obtain ⟨t0, t1, t2, -, -⟩ := hP.2.2.2.2.2.1 _ p0 p1
    obtain ⟨i1, i2, -⟩ := hI _ p0 g5
    rw [t0, t1, t2]
    refine ⟨p0, p1, fun _ => ⟨fun z3 => ⟨p0, p1, fun _ => ⟨fun z4 => ⟨x0, x1, fun S13 e13 => ?_⟩, fun z4 => ⟨p0, p1, fun _ => ⟨p0, p1, fun _ => ?_⟩⟩⟩⟩, fun z3 => ⟨p0, p1, fun _ => ?_⟩⟩⟩
    · rw [if_neg z3, if_neg z4] at hK
      rw [e13]
      exact hK 1 _ ⟨MF.p231, Or.inr ⟨rfl, _, rfl, PM_0 hP⟩⟩
    · rw [if_neg z3, if_pos (Classical.not_not.mp z4)] at hK
      obtain ⟨j1, j2, j3, j4⟩ := i2 (Classical.not_not.mp z4)
      exact k_inL hP hV x0 x1 ⟨j1, j2⟩ j3 j4 (fun r S' h' => ⟨r1 _ r S' h', hK r S' h'⟩)
    · rw [if_pos (Classical.not_not.mp z3)] at hK
      exact k_inO hP hV x0 x1 (i1 (Classical.not_not.mp z3)) (fun r S' h' => ⟨r1 _ r S' h', hK r S' h'⟩)
end QP

