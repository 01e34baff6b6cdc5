/-! THE ROOT -/
def sW0 : Ws := ([], fun _ => 0, fun _ => [], 0, 0)
theorem root_same {e : Env} (hV : EV e) (hD : DN e) (hmo : iv 0 3 (eO e)) {o : Int} (ho : okO e o) (n : Nat) : (El e n o [] (eK e o) 1 sW0).1 = (ElT e n o (-2) (eK e o) sT0).1 ∧ (El e n o [] (eK e o) 1 sW0).2.2.2.2 = (ElT e n o (-2) (eK e o) sT0).2.2.2.2.2 := by
  have h0 : RT e (fun x => x) sW0 sT0 := by
    refine ⟨rfl, rfl, rfl, Int.le_refl _, fun _ _ => Iff.rfl, fun _ _ _ => rfl, fun x hx => absurd hx (Nat.not_lt_zero _), fun _ => ⟨fun y _ hb => absurd hb (by show ¬ (0 : Int) < 0; omega), fun x y x1 x2 => absurd x2 (by show ¬ x < ((0 : Nat) : Int); omega), fun x x1 x2 => absurd x2 (by show ¬ x < ((0 : Nat) : Int); omega)⟩⟩
  obtain ⟨κ', R, h1, -⟩ := sim_El hV hD hmo n (fun x => x) sW0 sT0 o (-2) (eK e o) 1 [] h0 ho (Or.inl (hV.2.2.1 o ho)) ⟨by decide, by decide, by show (-2 : Int) < ((0 : Nat) : Int); omega⟩ (fun _ => Or.inr ⟨rfl, rfl⟩)
  exact ⟨h1.1, h1.2.1⟩
/-- the elements of objects within n more -/
def wE : Nat → EE
  | 0 => wX8_element (fun _ _ _ _ _ _ _ => False)
  | n + 1 => wX8_element (wE n)
theorem wE_ok {e : Env} (hV : EV e) (hmo : iv 0 3 (eO e)) {m : Int} (hm : iv 1 20 m) : ∀ n : Nat, (n : Int) ≤ m → RecOk e n m (m - n) (wE n)
  | 0, _ => by
    rw [show m - ((0 : Nat) : Int) = m by omega]
    exact el_0 hV hmo (by omega)
  | n + 1, h => by
    refine el_s hV hmo (by omega) (by omega) (by omega) ?_
    rw [show m - ((n + 1 : Nat) : Int) + 1 = m - (n : Int) by omega]
    exact wE_ok hV hmo hm n (by omega)
theorem lE {G : xG} {v : Nat → Nat} {sh : Nat → Option Sh} {B : Nat × Nat} {c0 : List va_E} (hT : sb shC sh) (hS : ∀ b x, sh b = some x → ¬ isS b) (hU : sb shW sh) : ∀ (n : Nat) (a1 a2 a3 a4 a5 : Int) (S : St) (cs : List va_E) (K : Int → St → Prop), rng a1 → rng a2 → rng a3 → rng a4 → rng a5 → Wv G v sh B c0 S cs → wE n a1 a2 a3 a4 a5 S K → X G yX8_element cX8_element 8 none (15 + 3 * n) [.ref (G.1 + v 210), .int (Int32.ofInt a1), .int (Int32.ofInt a2), .int (Int32.ofInt a3), .int (Int32.ofInt a4), .int (Int32.ofInt a5)] cs (vV G v sh B c0 K)
  | 0, a1, a2, a3, a4, a5, S, cs, K, g1, g2, g3, g4, g5, hW, hw => lX8_element (dE := 12) (fun _ _ _ _ _ _ _ _ _ _ _ _ _ _ h => h.elim) (Nat.le_refl _) _ (Nat.le_refl _) hT hS hU hW g1 g2 g3 g4 g5 hw
  | n + 1, a1, a2, a3, a4, a5, S, cs, K, g1, g2, g3, g4, g5, hW, hw => lX8_element (E := wE n) (dE := 15 + 3 * n) (fun b1 b2 b3 b4 b5 S cs K q1 q2 q3 q4 q5 hW hw => lE hT hS hU n b1 b2 b3 b4 b5 S cs K q1 q2 q3 q4 q5 hW hw) (by omega) _ (by omega) hT hS hU hW g1 g2 g3 g4 g5 hw
/-- the root's element: what the class's writer says is what the model's table says -/
theorem w_root {e : Env} (hV : EV e) (hD : DN e) (hmo : iv 0 3 (eO e)) {m : Int} (hm : iv 1 20 m) {o : Int} (ho : okO e o) {S : St} {K : Int → St → Prop} (hE : cE S e) (hR : WrR S e sW0) (h4 : S.1 210 4 = m) (hK : ∀ S' s, Oe S S' → WrR S' e s → s.1 = (ElT e m.toNat o (-2) (eK e o) sT0).1 → s.2.2.2.2 = (ElT e m.toNat o (-2) (eK e o) sT0).2.2.2.2.2 → K 0 S') : wE m.toNat o (-2) 0 0 0 S K := by
  have q := (wE_ok hV hmo hm m.toNat (by omega)).2 S sW0 o (-2) 0 0 [] K hE hR h4 ho (Or.inl ⟨rfl, rfl⟩) (fun h => absurd h (by decide)) (fun _ => ⟨rfl, by show ((0 : Nat) : Int) = _; omega⟩) ⟨by decide, by decide⟩ (Or.inr (Or.inl (Int.le_refl _))) (fun S' f' R' => ?_)
  · rw [show m - (m.toNat : Int) = 0 by omega] at q
    exact q
  · have e1 : nmo e (-2) 0 o = eK e o := by
      unfold nmo
      rw [if_neg (fun r => absurd r.1 (by decide))]
    have e2 : rko e (-2) 0 0 = 1 := by
      unfold rko
      rw [if_neg (fun r => absurd r.1 (by decide))]
    rw [e1, e2] at R'
    have r := root_same hV hD hmo ho m.toNat
    exact hK S' _ f' R' r.1 r.2

