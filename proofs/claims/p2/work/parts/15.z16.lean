/-! THE CLASS'S write -/
/-- what the class's write says and writes -/
def CwO (S S' : St) (e : Env) (a md : Int) (F : Wt) (x : Int) : Prop := (∀ b, b ≠ 20 → b ≠ 22 → b < 200 → S'.1 b = S.1 b ∧ S'.2 b = S.2 b) ∧ ((¬ (okO e a ∧ iv 0 3 md) ∧ x = -1 ∧ S'.1 20 = S.1 20 ∧ S'.2 20 = S.2 20) ∨ (okO e a ∧ iv 0 3 md ∧ ((F.2.2.2.2.2 = 1 ∧ x = -3 ∧ S'.1 20 = S.1 20 ∧ S'.2 20 = S.2 20) ∨ (¬ F.2.2.2.2.2 = 1 ∧ 3000 < F.1.length ∧ x = -4 ∧ S'.1 20 = S.1 20 ∧ S'.2 20 = S.2 20) ∨ (¬ F.2.2.2.2.2 = 1 ∧ F.1.length ≤ 3000 ∧ x = F.1.length ∧ oC S' 20 F.1))))
def qW (G : xG) (B : Nat × Nat) (c0 : List va_E) (Q : Int → St → Prop) : xP := fun r c1 => ∃ (x : Int) (v' : Nat → Nat) (S' : St), r = some (.int (Int32.ofInt x)) ∧ Wv G v' shC B c0 S' c1 ∧ Q x S' ∧ v' 0 = v' 0
theorem Wv.up {G : xG} {v : Nat → Nat} {sh : Nat → Option Sh} {B B1 : Nat × Nat} {c0 : List va_E} {S : St} {cs : List va_E} (h : Wv G v sh B c0 S cs) (h1 : B.1 ≤ B1.1) (h2 : B.2 ≤ B1.2) (h3 : B1.1 ≤ 600000) (h4 : B1.2 ≤ 7302250) : Wv G v sh B1 c0 S cs := by
  obtain ⟨τ, hT, h⟩ := h
  exact ⟨τ, hT.up h1 h2 h3 h4, h⟩
set_option maxRecDepth 100000 in
set_option maxHeartbeats 4000000 in
theorem c_write {G : xG} {v : Nat → Nat} {B : Nat × Nat} {c0 : List va_E} {S : St} {cs : List va_E} {e : Env} {a md m : Int} {F : Wt} (d : Nat) (hd : 80 ≤ d) (hW : Wv G v shC B c0 S cs) (hE : cE S e) (hV : EV e) (hD : DN e) (hm : S.1 0 9 = m) (ga : rng a) (gm : rng md) (heO : eO e = md) (hF : F = ElT e m.toNat a (-2) (eK e a) sT0) (hB : B.1 + 200 ≤ 600000 ∧ B.2 + 100000 ≤ 7302250) : X G yX10_write cX10_write 5 (some .int) d [.ref (G.1 + v 0), .int (Int32.ofInt a), .int (Int32.ofInt md)] cs (fun r c1 => ∃ (x : Int) (v' : Nat → Nat) (S' : St), r = some (.int (Int32.ofInt x)) ∧ v' 0 = v 0 ∧ Wv G v' shC (B.1 + 7, B.2 + 260) c0 S' c1 ∧ CwO S S' e a md F x) := by
  have hmi : iv 1 20 m := by
    have := hW.iI 0 9
    rw [hm] at this
    exact this
  have hTC : sb shC shC := fun _ _ h => h
  have hroom := hW.room
  refine X.of false (by decide +kernel) (by decide) (Nat.le_of_ble_eq_true rfl) ?_
  show Z (RX10, cX10_write, 5, some .int, false) G d _ 0 [(0, .ref (G.1 + v 0)), (1, .int (Int32.ofInt a)), (2, .int (Int32.ofInt md))] [] cs
  have bad : ¬ (okO e a ∧ iv 0 3 md) → Z (RX10, cX10_write, 5, some .int, false) G d (fun r c1 => ∃ (x : Int) (v' : Nat → Nat) (S' : St), r = some (.int (Int32.ofInt x)) ∧ v' 0 = v 0 ∧ Wv G v' shC (B.1 + 7, B.2 + 260) c0 S' c1 ∧ CwO S S' e a md F x) 20 [(0, .ref (G.1 + v 0)), (1, .int (Int32.ofInt a)), (2, .int (Int32.ofInt md))] [] cs := fun q => by
    refine z_iconst (v := Int32.ofInt (-1)) dX10_write_20 rfl ?_
    exact z_ireturn dX10_write_21 rfl rfl ⟨-1, v, S, rfl, rfl, hW.up (by show B.1 ≤ B.1 + 7; omega) (by show B.2 ≤ B.2 + 260; omega) (by show B.1 + 7 ≤ _; omega) (by show B.2 + 260 ≤ _; omega), fun _ _ _ _ => ⟨rfl, rfl⟩, Or.inl ⟨q, rfl, rfl, rfl⟩⟩
  refine z_aload_n dX10_write_0 rfl rfl ?_
  refine v_getR hW (hTC 0 _ rfl) rfl kX10 fX10_42 dX10_write_1 ?_
  refine z_iload_n dX10_write_4 rfl rfl ?_
  have hX := lX1_has (K := fun r S' => S' = S ∧ ((r = 1 ∧ okO e a) ∨ (r = 0 ∧ ¬ okO e a))) 0 (Nat.le_refl _) hTC shC_nS hW ga (by
    by_cases q : okO e a
    · exact r_has1 hE q ⟨rfl, Or.inl ⟨rfl, q⟩⟩
    · by_cases q2 : a < 0
      · exact r_has0 q2 ⟨rfl, Or.inr ⟨rfl, q⟩⟩
      · exact r_hasN hE (by unfold okO at q; omega) ⟨rfl, Or.inr ⟨rfl, q⟩⟩)
  refine z_callV (As := [_]) eX1_has sX1_has lX10_94 rfl dX10_write_5 (hW.at (hTC 42 _ rfl)) hX (Nat.le_trans (by decide) hd) rfl (Nat.le_of_ble_eq_true rfl) (fun r cs hp => ?_)
  obtain ⟨r1, S1, rfl, ⟨rfl, hr⟩, hW⟩ := hp
  refine z_st (st' := [.int (Int32.ofInt r1)]) rfl ?_
  sorry
