/-! MAKING OBJECTS: a new cell has no type yet -/
def upT (τ : Tau) (a : Nat) (t : Ty) : Tau := fun k => if k = a then some t else τ k
theorem upT_at {τ : Tau} {a : Nat} {t : Ty} : upT τ a t a = some t := if_pos rfl
theorem upT_ne {τ : Tau} {a b : Nat} {t : Ty} (h : b ≠ a) : upT τ a t b = τ b := if_neg h
theorem upT_sub {τ : Tau} {a : Nat} {t : Ty} (h : τ a = none) : Sub τ (upT τ a t) := by
  refine ⟨fun b q e => ?_, fun b ci p e => ⟨p, ?_, Or.inr rfl⟩⟩
  · rw [upT_ne fun k => by subst k; rw [h] at e; cases e]; exact e
  · rw [upT_ne fun k => by subst k; rw [h] at e; cases e]; exact e
theorem upT_inv {τ : Tau} {a b : Nat} {t u : Ty} (h : upT τ a t b = some u) : (b = a ∧ u = t) ∨ (b ≠ a ∧ τ b = some u) := by
  by_cases e : b = a
  · subst e
    rw [upT_at] at h
    exact Or.inl ⟨rfl, (Option.some.inj h).symm⟩
  · rw [upT_ne e] at h
    exact Or.inr ⟨e, h⟩
section MK
variable {G : xG} {B B1 : Nat × Nat} {τ τ0 : Tau} {cs c0 : List va_E} {W : List Nat}
theorem WT.up (hW : WT G B τ cs) (h1 : B.1 ≤ B1.1) (h2 : B.2 ≤ B1.2) (h3 : B1.1 ≤ 600000) (h4 : B1.2 ≤ 7302250) : WT G B1 τ cs := by
  obtain ⟨q1, q2, q3, q4, q5, q6, q7, q8, -⟩ := hW
  exact ⟨q1, q2, q3, q4, q5, q6, by omega, by omega, h3, h4⟩
theorem WT.non (hW : WT G B τ cs) {a : Nat} (h : cs.length ≤ a) : τ a = none := by
  cases e : τ a with
  | none => rfl
  | some t => have := hW.1 a t e; omega
/-- cells without a type may change, and new ones may come -/
theorem WT.alter {c1 : List va_E} (hW : WT G B τ cs) (hl : cs.length ≤ c1.length) (hs : ∀ a t, τ a = some t → c1[a]? = cs[a]?) (h1 : c1.length + B.1 ≤ cs.length + B1.1) (h2 : xZ c1 + B.2 ≤ xZ cs + B1.2) (h3 : B1.1 ≤ 600000) (h4 : B1.2 ≤ 7302250) : WT G B1 τ c1 := by
  obtain ⟨q1, q2, q3, q4, q5, q6, q7, q8, -⟩ := hW
  have q2' := q2
  obtain ⟨u1, ⟨p3, u2⟩, u3, u4, u5, u6, -⟩ := q2'
  refine ⟨fun a t e => Nat.lt_of_lt_of_le (q1 a t e) hl, q2, fun a n e => ?_, fun a k n lo hi e => ?_, fun a ci p e g5 g1 => ?_, q6.ne (hs 3 _ u2) (hs 11 _ u4) (hs 12 _ u6), ?_, ?_, h3, h4⟩
  · obtain ⟨r, t, ov, ⟨f, e1, e2, e3⟩, hr⟩ := q3 a n e
    exact ⟨r, t, ov, ⟨f, (hs a _ e).trans e1, (hs r _ hr).trans e2, e3⟩, hr⟩
  · obtain ⟨e0, f, e1, e2⟩ := q4 a k n lo hi e
    exact ⟨e0, f, (hs a _ e).trans e1, e2⟩
  · obtain ⟨vs, e1, e2⟩ := q5 a ci p e g5 g1
    exact ⟨vs, (hs a _ e).trans e1, e2⟩
  · unfold rho1 at *; omega
  · unfold rho2 at *; omega
theorem WT.raw {e : va_E} (hW : WT G B τ cs) (e1 : B1.1 = B.1 + 1) (e2 : B1.2 = B.2 + xSzE e) (h1 : B1.1 ≤ 600000) (h2 : B1.2 ≤ 7302250) : WT G B1 τ (cs ++ [e]) :=
  hW.alter (by simp) (fun a t h => List.getElem?_append_left (hW.1 a t h)) (by simp; omega) (by simp [xZ]; omega) h1 h2
theorem WT.rawset {a : Nat} {e e0 : va_E} (hW : WT G B τ cs) (ha : τ a = none) (h0 : cs[a]? = some e0) (hz : xSzE e = xSzE e0) : WT G B τ (cs.set a e) :=
  hW.alter (by simp) (fun b t h => List.getElem?_set_ne fun q => by subst q; rw [ha] at h; cases h) (by simp) (by rw [xZ_set h0 hz]; omega) hW.2.2.2.2.2.2.2.2.1 hW.2.2.2.2.2.2.2.2.2
/-- a cell gets its type -/
theorem WT.l22 (hW : WT G B τ cs) : 22 < cs.length := by
  obtain ⟨c, t, hc, ht⟩ := hW.2.1.2.2.2.2.2.2.2.2.2.2
  have := hW.1 c t ht
  omega
theorem WT.give {a : Nat} {t : Ty} (hW : WT G B τ cs) (ha : τ a = none) (h22 : 22 < a) (hl : a < cs.length) (hn : ∀ ci p, t = .inl (ci, p) → ci ≠ 5 ∧ ci ≠ 6 ∧ ci ≠ 10 ∧ ci < 100 ∧ (ci = 3 → p ≤ 200)) (hq : ∀ k n lo hi, t = .inr (k, n, lo, hi) → hi ≠ 600 ∧ hi ≠ 601)
    (hA : ∀ k n lo hi, t = .inr (k, n, lo, hi) → n < 2147483648 ∧ ∃ f : Nat → Int32, cs[a]? = some (.inl (G.2.2.1 k, n, .inl f)) ∧ ∀ i, iv lo hi (f i).toInt) (hO : ∀ ci p, t = .inl (ci, p) → ∃ vs, cs[a]? = some (.inr (ci, vs)) ∧ wF G τ (fT ci p) vs) : WT G B (upT τ a t) cs := by
  have hs : Sub τ (upT τ a t) := upT_sub ha
  obtain ⟨q1, q2, q3, q4, q5, q6, q7⟩ := hW
  obtain ⟨u1, u2, u3, u4, u5, u6, u7, u8, u9, u10, u11⟩ := q2
  refine ⟨fun b u e => ?_, ⟨fun b p e => ?_, hs.s u2, fun b e => ?_, hs.a u4, fun b e => ?_, hs.a u6, fun b p e => ?_, fun b p e => ?_, fun b n e => ?_, fun b e => (u10 b e).elim (fun q => Or.inl (hs.s q)) (fun q => Or.inr (by rw [upT_ne (by unfold isS at e; omega)]; exact q)), hs.ex u11⟩, fun b n e => ?_, fun b k n lo hi e => ?_, fun b ci p e g5 g1 => ?_, q6, ?_⟩
  · rcases upT_inv e with ⟨e1, -⟩ | ⟨-, e2⟩
    · omega
    · exact q1 b u e2
  · rcases upT_inv e with ⟨e1, e2⟩ | ⟨-, e2⟩
    · exact absurd rfl (hn _ _ e2.symm).2.1
    · exact u1 b p e2
  · rcases upT_inv e with ⟨e1, e2⟩ | ⟨-, e2⟩
    · exact absurd rfl (hq _ _ _ _ e2.symm).1
    · exact u3 b e2
  · rcases upT_inv e with ⟨e1, e2⟩ | ⟨-, e2⟩
    · exact absurd rfl (hq _ _ _ _ e2.symm).2
    · exact u5 b e2
  · rcases upT_inv e with ⟨e1, e2⟩ | ⟨-, e2⟩
    · exact (hn _ _ e2.symm).2.2.2.2 rfl
    · exact u7 b p e2
  · rcases upT_inv e with ⟨e1, e2⟩ | ⟨-, e2⟩
    · exact absurd rfl (hn _ _ e2.symm).2.2.1
    · exact u8 b p e2
  · rcases upT_inv e with ⟨e1, e2⟩ | ⟨-, e2⟩
    · exact absurd rfl (hn _ _ e2.symm).1
    · exact u9 b n e2
  · rcases upT_inv e with ⟨e1, e2⟩ | ⟨-, e2⟩
    · exact absurd rfl (hn _ _ e2.symm).1
    · obtain ⟨r, tt, ov, e3, hr⟩ := q3 b n e2
      refine ⟨r, tt, ov, e3, ?_⟩
      rw [upT_ne fun k => by subst k; rw [ha] at hr; cases hr]
      exact hr
  · rcases upT_inv e with ⟨e1, e2⟩ | ⟨-, e2⟩
    · subst e1
      exact hA _ _ _ _ e2.symm
    · exact q4 b k n lo hi e2
  · rcases upT_inv e with ⟨e1, e2⟩ | ⟨-, e2⟩
    · subst e1
      obtain ⟨vs, e3, e4⟩ := hO _ _ e2.symm
      exact ⟨vs, e3, e4.sub hs⟩
    · obtain ⟨vs, e3, e4⟩ := q5 b ci p e2 g5 g1
      exact ⟨vs, e3, e4.sub hs⟩
  · have key : ∀ b, isS b → nO (upT τ a t) b = nO τ b := fun b hb => by
      unfold nO
      rw [upT_ne (by unfold isS at hb; omega)]
    unfold rho1 rho2 at *
    rw [key 1 (Or.inl rfl), key 4 (Or.inr (Or.inl rfl)), key 20 (Or.inr (Or.inr (Or.inl rfl))), key 22 (Or.inr (Or.inr (Or.inr rfl)))]
    exact q7
theorem Fx.raw {e : va_E} (h : Fx W τ0 c0 τ cs) (hty : ∀ a t, τ0 a = some t → a < c0.length) : Fx W τ0 c0 τ (cs ++ [e]) := by
  obtain ⟨q1, q2, q3, q4, q5⟩ := h
  have old : ∀ a, a < c0.length → (cs ++ [e])[a]? = cs[a]? := fun a ha => List.getElem?_append_left (by omega)
  refine ⟨q1, by simp; omega, fun a ha e1 => ⟨?_, (q3 a ha e1).2⟩, fun a ci p e1 hn => (old a (hty a _ e1)).trans (q4 a ci p e1 hn), fun a q e1 h9 hn => (old a (hty a _ e1)).trans (q5 a q e1 h9 hn)⟩
  · rw [List.getElem?_append_left (by omega)]; exact (q3 a ha e1).1
theorem Fx.rawset {a : Nat} {e : va_E} (h : Fx W τ0 c0 τ cs) (ha : c0.length ≤ a) (hn0 : τ a = none) : Fx W τ0 c0 τ (cs.set a e) := by
  obtain ⟨q1, q2, q3, q4, q5⟩ := h
  refine ⟨q1, by simp; omega, fun b hb e1 => ⟨?_, (q3 b hb e1).2⟩, fun b ci p e1 hn => ?_, fun b q e1 h9 hn => ?_⟩
  · rw [List.getElem?_set_ne (by omega)]; exact (q3 b hb e1).1
  · rw [List.getElem?_set_ne fun k => by subst k; obtain ⟨p1, e2, -⟩ := q1.2 _ ci p e1; rw [hn0] at e2; cases e2]
    exact q4 b ci p e1 hn
  · rw [List.getElem?_set_ne fun k => by subst k; have := q1.1 _ q e1; rw [hn0] at this; cases this]
    exact q5 b q e1 h9 hn
theorem Fx.give {a : Nat} {t : Ty} (h : Fx W τ0 c0 τ cs) (ha : c0.length ≤ a) (hn0 : τ a = none) : Fx W τ0 c0 (upT τ a t) cs := by
  obtain ⟨q1, q2, q3, q4, q5⟩ := h
  exact ⟨q1.tr (upT_sub hn0), q2, fun b hb e1 => ⟨(q3 b hb e1).1, by rw [upT_ne (by omega)]; exact (q3 b hb e1).2⟩, q4, q5⟩
theorem wF_nil : wF G τ [] [] := ⟨rfl, fun k t e => by simp at e⟩
theorem wF_cons {t : FT} {ts : List FT} {v : Value} {vs : List Value} (h : wVl G τ t v) (k : wF G τ ts vs) : wF G τ (t :: ts) (v :: vs) := by
  refine ⟨by simp [k.1], fun j u e => ?_⟩
  cases j with
  | zero =>
    rw [List.getElem?_cons_zero] at e
    cases e
    exact ⟨v, rfl, h⟩
  | succ j =>
    rw [List.getElem?_cons_succ] at e
    rw [List.getElem?_cons_succ]
    exact k.2 j u e
variable {own : String} {cc : ByteArray} {nL : Nat} {ret : Option FieldType} {ini : Bool} {d : Nat} {Post : xP} {pc : Nat} {L : List (Nat × Value)} {rest : List Value}
theorem q_put {C : String} {TT : u_T} {N ci index k a : Nat} {ty : Nat → FieldType} {fs : List Value} {v : Value} (hW : WT G B τ cs) (hX : Fx W τ0 c0 τ cs) (hr : cs[a]? = some (.inr (ci, fs))) (hn0 : τ a = none) (ha : c0.length ≤ a) (hc : xCl ci C TT N ty) (hf : xFl own index TT N k) (hdg : decode cc pc = .ok (.putfield index, 3)) (hini : ini = true) (hdecl : (TT k).1 = own) (hn : narrow (ty k) v = v) (hfit : fits (ty k) v = true) (hl : k < fs.length) (kk : ∀ cs1, WT G B τ cs1 → Fx W τ0 c0 τ cs1 → cs1[a]? = some (.inr (ci, fs.set k v)) → Z (own, cc, nL, ret, ini) G d Post (pc + 3) L (rest) cs1) : Z (own, cc, nL, ret, ini) G d Post (pc) L (v :: .ref (G.1 + a) :: rest) cs := by
  have h1 := hW.rawset (e := .inr (ci, fs.set k v)) hn0 hr rfl
  have h2 := hX.rawset (e := .inr (ci, fs.set k v)) ha hn0
  have h3 := set_at (e := .inr (ci, fs.set k v)) hr
  by_cases hfin : (TT k).2.2.2 = true
  · exact z_putF hc hf hdg hfin hini hdecl hr hn hfit hl (kk _ h1 h2 h3)
  · exact z_put hc hf hdg (by simpa using hfin) hr hn hfit hl (kk _ h1 h2 h3)
theorem q_newa {n : Int} {lo hi : Int} (hW : WT G B τ cs) (hX : Fx W τ0 c0 τ cs) (hw : Cond.arrayClass .int ∈ xTs) (hdg : decode cc pc = .ok (.newarray .int, 2)) (h0 : 0 ≤ n) (h1 : n ≤ 1000) (hb0 : lo ≤ 0) (hb1 : 0 ≤ hi) (hq : hi ≠ 600 ∧ hi ≠ 601) (hB : B.1 + 1 ≤ 600000 ∧ B.2 + n.toNat ≤ 7302250) (hc : c0.length ≤ cs.length) (hty : ∀ a t, τ0 a = some t → a < c0.length) (kk : ∀ (B1 : Nat × Nat) (τ1 : Tau) (cs1 : List va_E) (b : Nat), B1.1 = B.1 + 1 → B1.2 = B.2 + n.toNat → WT G B1 τ1 cs1 → Fx W τ0 c0 τ1 cs1 → Sub τ τ1 → τ1 b = some (.inr (0, n.toNat, lo, hi)) → (∀ a e, cs[a]? = some e → τ a = none → cs1[a]? = some e ∧ τ1 a = none) → Z (own, cc, nL, ret, ini) G d Post (pc + 2) L (.ref (G.1 + b) :: rest) cs1) : Z (own, cc, nL, ret, ini) G d Post (pc) L (.int (Int32.ofInt n) :: rest) cs := by
  have hcap := hW.2.2.2.2.2.2
  have hno := hW.non (a := cs.length) (Nat.le_refl _)
  have hW1 : WT G (B.1 + 1, B.2 + n.toNat) τ (cs ++ [.inl (G.2.2.1 0, n.toNat, .inl (fun _ => 0))]) := hW.raw rfl rfl hB.1 hB.2
  have hX1 : Fx W τ0 c0 τ (cs ++ [.inl (G.2.2.1 0, n.toNat, .inl (fun _ => 0))]) := hX.raw hty
  have hW2 := hW1.give (a := cs.length) (t := .inr (0, n.toNat, lo, hi)) hno hW.l22 (by simp) (fun _ _ q => by cases q) (fun _ _ _ _ q => by cases q; exact hq) (fun _ _ _ _ q => by
    cases q
    exact ⟨by omega, fun _ => 0, app_last, fun i => ⟨hb0, hb1⟩⟩) (fun _ _ q => by cases q)
  have hl : cs.length + 1 ≤ 600000 ∧ xZ cs + n.toNat ≤ 7302250 := by
    unfold rho1 rho2 at hcap
    omega
  refine z_newa_int hw hdg (fun q => ?_) (oI_cl (n := 1001) h0 (by omega) (by decide)) (by omega) hl (kk _ _ _ cs.length rfl rfl hW2 (hX1.give hc hno) (upT_sub hno) upT_at (fun a e h1 h2 => ⟨app_at h1, by rw [upT_ne (by have := at_lt h1; omega)]; exact h2⟩))
  have := (oI_lt (x := n) (y := 0) ⟨by omega, by omega⟩ ⟨by decide, by decide⟩).mp q
  omega
end MK

set_option maxRecDepth 100000 in
set_option maxHeartbeats 4000000 in
theorem kX2_init {G : xG} {B : Nat × Nat} {τ : Tau} {cs : List va_E} {a1 pa1 : Nat} {a2 pa2 : Nat} {a3 pa3 : Nat} (d : Nat) (hd : 1 ≤ d) (hW : WT G B τ cs) (ga1 : τ a1 = some (.inl (4, pa1))) (ga2 : τ a2 = some (.inl (1, pa2))) (ga3 : τ a3 = some (.inl (1, pa3)))  (hB : B.1 + 4 ≤ 600000 ∧ B.2 + 97 ≤ 7302250) : X G yX2_init cX2_init 4 none d [.ref (G.1 + cs.length), .ref (G.1 + a1), .ref (G.1 + a2), .ref (G.1 + a3)] (cs ++ [.inr (2, [.null, .null, .null, .null, .null, .null, .int 0])]) (fun v c1 => v = none ∧ ∃ (τ1 : Tau) (p : Nat), WT G (B.1 + 4, B.2 + 97) τ1 c1 ∧ Fx [] τ cs τ1 c1 ∧ τ1 cs.length = some (.inl (2, p))) := by
  refine X.of true (by decide +kernel) (fun _ => rfl) (Nat.le_of_ble_eq_true rfl) ?_
  show Z (RX2, cX2_init, 4, none, true) G d _ 0 [(0, .ref (G.1 + cs.length)), (1, .ref (G.1 + a1)), (2, .ref (G.1 + a2)), (3, .ref (G.1 + a3))] [] _
  have hno := hW.non (a := cs.length) (Nat.le_refl _)
  have hty := hW.1
  have h22 := hW.l22
  have hr : (cs ++ [.inr (2, [.null, .null, .null, .null, .null, .null, .int 0])])[cs.length]? = some (.inr (2, [.null, .null, .null, .null, .null, .null, .int 0])) := app_last
  have hX : Fx [] τ cs τ (cs ++ [.inr (2, [.null, .null, .null, .null, .null, .null, .int 0])]) := Fx.rf.raw hty
  have hlen := hX.2.1
  obtain ⟨B0, hB1, hB2⟩ : ∃ B0 : Nat × Nat, B0.1 = B.1 + 1 ∧ B0.2 = B.2 + 7 := ⟨(_, _), rfl, rfl⟩
  have hW : WT G B0 τ (cs ++ [.inr (2, [.null, .null, .null, .null, .null, .null, .int 0])]) := hW.raw hB1 hB2 (by omega) (by omega)
  obtain ⟨a0, ha0⟩ : ∃ a0 : Nat, a0 = cs.length := ⟨_, rfl⟩
  rw [← ha0] at hno hr h22 ⊢
  have hle : cs.length ≤ a0 := by omega
  refine z_aload_n dX2_init_0 rfl rfl ?_
  refine z_objInit lX2_3 obj_i obj_c dX2_init_1 (Nat.le_trans (by decide) hd) (Nat.le_of_ble_eq_true rfl) ?_
  refine z_aload_n dX2_init_4 rfl rfl ?_
  refine z_bipush (v := Int32.ofInt 30) dX2_init_5 (by decide) ?_
  refine q_newa (n := 30) (lo := (-2147483648)) (hi := 2147483647) hW hX arr_int dX2_init_7 (by omega) (by omega) (by decide) (by decide) (by decide) (by omega) (by omega) hty (fun B1 τ cs1 b1 eb1 eb2 hW hX hs gb1 hk => ?_)
  have ⟨hr, hno⟩ := hk _ _ hr hno
  have ga1 := hs.e ga1 (by decide)
  have ga2 := hs.e ga2 (by decide)
  have ga3 := hs.e ga3 (by decide)
  clear hk hs
  have hlen : cs.length ≤ cs1.length := hX.2.1
  refine q_put hW hX hr hno hle kX2 fX2_9 dX2_init_9 rfl rfl (by rfl) (by rfl) (Nat.le_of_ble_eq_true rfl) (fun cs1 hW hX hr => ?_)
  have hr : cs1[a0]? = some (.inr (2, [.null, .null, .null, .ref (G.1 + b1), .null, .null, .int 0])) := hr
  have hlen : cs.length ≤ cs1.length := hX.2.1
  refine z_aload_n dX2_init_12 rfl rfl ?_
  refine z_bipush (v := Int32.ofInt 30) dX2_init_13 (by decide) ?_
  refine q_newa (n := 30) (lo := (-2147483648)) (hi := 2147483647) hW hX arr_int dX2_init_15 (by omega) (by omega) (by decide) (by decide) (by decide) (by omega) (by omega) hty (fun B1 τ cs1 b2 eb1 eb2 hW hX hs gb2 hk => ?_)
  have ⟨hr, hno⟩ := hk _ _ hr hno
  have ga1 := hs.e ga1 (by decide)
  have ga2 := hs.e ga2 (by decide)
  have ga3 := hs.e ga3 (by decide)
  have gb1 := hs.a gb1
  clear hk hs
  have hlen : cs.length ≤ cs1.length := hX.2.1
  refine q_put hW hX hr hno hle kX2 fX2_15 dX2_init_17 rfl rfl (by rfl) (by rfl) (Nat.le_of_ble_eq_true rfl) (fun cs1 hW hX hr => ?_)
  have hr : cs1[a0]? = some (.inr (2, [.null, .null, .null, .ref (G.1 + b1), .ref (G.1 + b2), .null, .int 0])) := hr
  have hlen : cs.length ≤ cs1.length := hX.2.1
  refine z_aload_n dX2_init_20 rfl rfl ?_
  refine z_bipush (v := Int32.ofInt 30) dX2_init_21 (by decide) ?_
  refine q_newa (n := 30) (lo := 0) (hi := 29) hW hX arr_int dX2_init_23 (by omega) (by omega) (by decide) (by decide) (by decide) (by omega) (by omega) hty (fun B1 τ cs1 b3 eb1 eb2 hW hX hs gb3 hk => ?_)
  have ⟨hr, hno⟩ := hk _ _ hr hno
  have ga1 := hs.e ga1 (by decide)
  have ga2 := hs.e ga2 (by decide)
  have ga3 := hs.e ga3 (by decide)
  have gb1 := hs.a gb1
  have gb2 := hs.a gb2
  clear hk hs
  have hlen : cs.length ≤ cs1.length := hX.2.1
  refine q_put hW hX hr hno hle kX2 fX2_18 dX2_init_25 rfl rfl (by rfl) (by rfl) (Nat.le_of_ble_eq_true rfl) (fun cs1 hW hX hr => ?_)
  have hr : cs1[a0]? = some (.inr (2, [.null, .null, .null, .ref (G.1 + b1), .ref (G.1 + b2), .ref (G.1 + b3), .int 0])) := hr
  have hlen : cs.length ≤ cs1.length := hX.2.1
  refine z_aload_n dX2_init_28 rfl rfl ?_
  refine z_iconst (v := Int32.ofInt 0) dX2_init_29 rfl ?_
  refine q_put hW hX hr hno hle kX2 fX2_21 dX2_init_30 rfl rfl (by rfl) (by rfl) (Nat.le_of_ble_eq_true rfl) (fun cs1 hW hX hr => ?_)
  have hr : cs1[a0]? = some (.inr (2, [.null, .null, .null, .ref (G.1 + b1), .ref (G.1 + b2), .ref (G.1 + b3), .int (Int32.ofInt 0)])) := hr
  have hlen : cs.length ≤ cs1.length := hX.2.1
  refine z_aload_n dX2_init_33 rfl rfl ?_
  refine z_aload_n dX2_init_34 rfl rfl ?_
  refine q_put hW hX hr hno hle kX2 fX2_25 dX2_init_35 rfl rfl (by rfl) (by rfl) (Nat.le_of_ble_eq_true rfl) (fun cs1 hW hX hr => ?_)
  have hr : cs1[a0]? = some (.inr (2, [.ref (G.1 + a1), .null, .null, .ref (G.1 + b1), .ref (G.1 + b2), .ref (G.1 + b3), .int (Int32.ofInt 0)])) := hr
  have hlen : cs.length ≤ cs1.length := hX.2.1
  refine z_aload_n dX2_init_38 rfl rfl ?_
  refine z_aload_n dX2_init_39 rfl rfl ?_
  refine q_put hW hX hr hno hle kX2 fX2_29 dX2_init_40 rfl rfl (by rfl) (by rfl) (Nat.le_of_ble_eq_true rfl) (fun cs1 hW hX hr => ?_)
  have hr : cs1[a0]? = some (.inr (2, [.ref (G.1 + a1), .ref (G.1 + a2), .null, .ref (G.1 + b1), .ref (G.1 + b2), .ref (G.1 + b3), .int (Int32.ofInt 0)])) := hr
  have hlen : cs.length ≤ cs1.length := hX.2.1
  refine z_aload_n dX2_init_43 rfl rfl ?_
  refine z_aload_n dX2_init_44 rfl rfl ?_
  refine q_put hW hX hr hno hle kX2 fX2_33 dX2_init_45 rfl rfl (by rfl) (by rfl) (Nat.le_of_ble_eq_true rfl) (fun cs1 hW hX hr => ?_)
  have hr : cs1[a0]? = some (.inr (2, [.ref (G.1 + a1), .ref (G.1 + a2), .ref (G.1 + a3), .ref (G.1 + b1), .ref (G.1 + b2), .ref (G.1 + b3), .int (Int32.ofInt 0)])) := hr
  have hlen : cs.length ≤ cs1.length := hX.2.1
  refine z_return dX2_init_48 rfl ⟨rfl, upT τ a0 (.inl (2, 0)), 0, WT.up (hW.give hno h22 (at_lt hr) (fun ci p q => by cases q; exact ⟨by decide, by decide, by decide, by decide, by omega⟩) (fun _ _ _ _ q => by cases q) (fun _ _ _ _ q => by cases q) (fun ci p q => by cases q; exact ⟨_, hr, (wF_cons ⟨a1, rfl, ⟨_, ga1⟩⟩ (wF_cons ⟨a2, rfl, ⟨_, ga2⟩⟩ (wF_cons ⟨a3, rfl, ⟨_, ga3⟩⟩ (wF_cons ⟨b1, rfl, gb1⟩ (wF_cons ⟨b2, rfl, gb2⟩ (wF_cons ⟨b3, rfl, gb3⟩ (wF_cons ⟨_, rfl, ⟨by decide, by decide⟩⟩ wF_nil)))))))⟩)) (by show _ ≤ B.1 + _; omega) (by show _ ≤ B.2 + _; omega) hB.1 hB.2, hX.give hle hno, by rw [ha0]; exact upT_at⟩

set_option maxRecDepth 100000 in
set_option maxHeartbeats 4000000 in
theorem kX7_init {G : xG} {B : Nat × Nat} {τ : Tau} {cs : List va_E} {a1 pa1 : Nat} (d : Nat) (hd : 1 ≤ d) (hW : WT G B τ cs) (ga1 : τ a1 = some (.inl (6, pa1)))  (hB : B.1 + 3 ≤ 600000 ∧ B.2 + 3 ≤ 7302250) : X G yX7_init cX7_init 2 none d [.ref (G.1 + cs.length), .ref (G.1 + a1)] (cs ++ [.inr (7, [.null, .null])]) (fun v c1 => v = none ∧ ∃ (τ1 : Tau) (p : Nat), WT G (B.1 + 3, B.2 + 3) τ1 c1 ∧ Fx [] τ cs τ1 c1 ∧ τ1 cs.length = some (.inl (7, p))) := by
  refine X.of true (by decide +kernel) (fun _ => rfl) (Nat.le_of_ble_eq_true rfl) ?_
  show Z (RX7, cX7_init, 2, none, true) G d _ 0 [(0, .ref (G.1 + cs.length)), (1, .ref (G.1 + a1))] [] _
  have hno := hW.non (a := cs.length) (Nat.le_refl _)
  have hty := hW.1
  have h22 := hW.l22
  have hr : (cs ++ [.inr (7, [.null, .null])])[cs.length]? = some (.inr (7, [.null, .null])) := app_last
  have hX : Fx [] τ cs τ (cs ++ [.inr (7, [.null, .null])]) := Fx.rf.raw hty
  have hlen := hX.2.1
  obtain ⟨B0, hB1, hB2⟩ : ∃ B0 : Nat × Nat, B0.1 = B.1 + 1 ∧ B0.2 = B.2 + 2 := ⟨(_, _), rfl, rfl⟩
  have hW : WT G B0 τ (cs ++ [.inr (7, [.null, .null])]) := hW.raw hB1 hB2 (by omega) (by omega)
  obtain ⟨a0, ha0⟩ : ∃ a0 : Nat, a0 = cs.length := ⟨_, rfl⟩
  rw [← ha0] at hno hr h22 ⊢
  have hle : cs.length ≤ a0 := by omega
  refine z_aload_n dX7_init_0 rfl rfl ?_
  refine z_objInit lX7_3 obj_i obj_c dX7_init_1 (Nat.le_trans (by decide) hd) (Nat.le_of_ble_eq_true rfl) ?_
  refine z_aload_n dX7_init_4 rfl rfl ?_
  refine z_aload_n dX7_init_5 rfl rfl ?_
  refine q_put hW hX hr hno hle kX7 fX7_9 dX7_init_6 rfl rfl (by rfl) (by rfl) (Nat.le_of_ble_eq_true rfl) (fun cs1 hW hX hr => ?_)
  have hr : cs1[a0]? = some (.inr (7, [.ref (G.1 + a1), .null])) := hr
  have hlen : cs.length ≤ cs1.length := hX.2.1
  refine z_aload_n dX7_init_9 rfl rfl ?_
  refine z_aload_n dX7_init_10 rfl rfl ?_
  have hX0 := kX6_values 0 (Nat.le_refl _) hW ga1
  refine z_callV (As := []) eX6_values sX6_values lX7_15 rfl dX7_init_11 (hW.ob ga1 (by decide)).choose_spec hX0 (Nat.le_trans (by decide) hd) rfl (Nat.le_of_ble_eq_true rfl) (fun r cs2 hp => ?_)
  obtain ⟨hcs, r1, rfl, gr1⟩ := hp
  obtain rfl := hcs.symm
  refine z_st (st' := [.ref (G.1 + r1), .ref (G.1 + a0)]) rfl ?_
  refine q_put hW hX hr hno hle kX7 fX7_21 dX7_init_14 rfl rfl (by rfl) (by rfl) (Nat.le_of_ble_eq_true rfl) (fun cs1 hW hX hr => ?_)
  have hr : cs1[a0]? = some (.inr (7, [.ref (G.1 + a1), .ref (G.1 + r1)])) := hr
  have hlen : cs.length ≤ cs1.length := hX.2.1
  refine z_return dX7_init_17 rfl ⟨rfl, upT τ a0 (.inl (7, 0)), 0, WT.up (hW.give hno h22 (at_lt hr) (fun ci p q => by cases q; exact ⟨by decide, by decide, by decide, by decide, by omega⟩) (fun _ _ _ _ q => by cases q) (fun _ _ _ _ q => by cases q) (fun ci p q => by cases q; exact ⟨_, hr, (wF_cons ⟨a1, rfl, ⟨_, ga1⟩⟩ (wF_cons ⟨r1, rfl, gr1⟩ wF_nil))⟩)) (by show _ ≤ B.1 + _; omega) (by show _ ≤ B.2 + _; omega) hB.1 hB.2, hX.give hle hno, by rw [ha0]; exact upT_at⟩

set_option maxRecDepth 100000 in
set_option maxHeartbeats 4000000 in
theorem kX3_init {G : xG} {B : Nat × Nat} {τ : Tau} {cs : List va_E} {a1 pa1 : Nat} {a2 pa2 : Nat} {a3 pa3 : Nat} (d : Nat) (hd : 2 ≤ d) (hW : WT G B τ cs) (ga1 : τ a1 = some (.inl (4, pa1))) (ga2 : τ a2 = some (.inl (6, pa2))) (ga3 : τ a3 = some (.inl (1, pa3)))  (hB : B.1 + 10 ≤ 600000 ∧ B.2 + 1100 ≤ 7302250) : X G yX3_init cX3_init 4 none d [.ref (G.1 + cs.length), .ref (G.1 + a1), .ref (G.1 + a2), .ref (G.1 + a3)] (cs ++ [.inr (3, [.null, .null, .null, .null, .null, .null, .null, .null, .null, .null, .null, .null])]) (fun v c1 => v = none ∧ ∃ (τ1 : Tau) (p : Nat), WT G (B.1 + 10, B.2 + 1100) τ1 c1 ∧ Fx [] τ cs τ1 c1 ∧ τ1 cs.length = some (.inl (3, p))) := by
  refine X.of true (by decide +kernel) (fun _ => rfl) (Nat.le_of_ble_eq_true rfl) ?_
  show Z (RX3, cX3_init, 4, none, true) G d _ 0 [(0, .ref (G.1 + cs.length)), (1, .ref (G.1 + a1)), (2, .ref (G.1 + a2)), (3, .ref (G.1 + a3))] [] _
  have hno := hW.non (a := cs.length) (Nat.le_refl _)
  have hty := hW.1
  have h22 := hW.l22
  have hr : (cs ++ [.inr (3, [.null, .null, .null, .null, .null, .null, .null, .null, .null, .null, .null, .null])])[cs.length]? = some (.inr (3, [.null, .null, .null, .null, .null, .null, .null, .null, .null, .null, .null, .null])) := app_last
  have hX : Fx [] τ cs τ (cs ++ [.inr (3, [.null, .null, .null, .null, .null, .null, .null, .null, .null, .null, .null, .null])]) := Fx.rf.raw hty
  have hlen := hX.2.1
  obtain ⟨B0, hB1, hB2⟩ : ∃ B0 : Nat × Nat, B0.1 = B.1 + 1 ∧ B0.2 = B.2 + 12 := ⟨(_, _), rfl, rfl⟩
  have hW : WT G B0 τ (cs ++ [.inr (3, [.null, .null, .null, .null, .null, .null, .null, .null, .null, .null, .null, .null])]) := hW.raw hB1 hB2 (by omega) (by omega)
  obtain ⟨a0, ha0⟩ : ∃ a0 : Nat, a0 = cs.length := ⟨_, rfl⟩
  rw [← ha0] at hno hr h22 ⊢
  have hle : cs.length ≤ a0 := by omega
  have gtree := ga2
  refine z_aload_n dX3_init_0 rfl rfl ?_
  refine z_objInit lX3_3 obj_i obj_c dX3_init_1 (Nat.le_trans (by decide) hd) (Nat.le_of_ble_eq_true rfl) ?_
  refine z_aload_n dX3_init_4 rfl rfl ?_
  refine z_bipush (v := Int32.ofInt 30) dX3_init_5 (by decide) ?_
  refine q_newa (n := 30) (lo := (-2147483648)) (hi := 2147483647) hW hX arr_int dX3_init_7 (by omega) (by omega) (by decide) (by decide) (by decide) (by omega) (by omega) hty (fun B1 τ cs1 b1 eb1 eb2 hW hX hs gb1 hk => ?_)
  have ⟨hr, hno⟩ := hk _ _ hr hno
  have ga1 := hs.e ga1 (by decide)
  have ga2 := hs.e ga2 (by decide)
  have ga3 := hs.e ga3 (by decide)
  clear hk hs
  have hlen : cs.length ≤ cs1.length := hX.2.1
  refine q_put hW hX hr hno hle kX3 fX3_9 dX3_init_9 rfl rfl (by rfl) (by rfl) (Nat.le_of_ble_eq_true rfl) (fun cs1 hW hX hr => ?_)
  have hr : cs1[a0]? = some (.inr (3, [.null, .null, .null, .null, .null, .null, .null, .null, .null, .null, .null, .ref (G.1 + b1)])) := hr
  have hlen : cs.length ≤ cs1.length := hX.2.1
  refine z_aload_n dX3_init_12 rfl rfl ?_
  refine z_aload_n dX3_init_13 rfl rfl ?_
  refine q_put hW hX hr hno hle kX3 fX3_15 dX3_init_14 rfl rfl (by rfl) (by rfl) (Nat.le_of_ble_eq_true rfl) (fun cs1 hW hX hr => ?_)
  have hr : cs1[a0]? = some (.inr (3, [.ref (G.1 + a1), .null, .null, .null, .null, .null, .null, .null, .null, .null, .null, .ref (G.1 + b1)])) := hr
  have hlen : cs.length ≤ cs1.length := hX.2.1
  refine z_aload_n dX3_init_17 rfl rfl ?_
  refine z_aload_n dX3_init_18 rfl rfl ?_
  refine q_put hW hX hr hno hle kX3 fX3_19 dX3_init_19 rfl rfl (by rfl) (by rfl) (Nat.le_of_ble_eq_true rfl) (fun cs1 hW hX hr => ?_)
  have hr : cs1[a0]? = some (.inr (3, [.ref (G.1 + a1), .ref (G.1 + a2), .null, .null, .null, .null, .null, .null, .null, .null, .null, .ref (G.1 + b1)])) := hr
  have hlen : cs.length ≤ cs1.length := hX.2.1
  refine z_aload_n dX3_init_22 rfl rfl ?_
  refine z_aload_n dX3_init_23 rfl rfl ?_
  have hX0 := kX6_names 0 (Nat.le_refl _) hW ga2
  refine z_callV (As := []) eX6_names sX6_names lX3_23 rfl dX3_init_24 (hW.ob ga2 (by decide)).choose_spec hX0 (Nat.le_trans (by decide) hd) rfl (Nat.le_of_ble_eq_true rfl) (fun r cs2 hp => ?_)
  obtain ⟨hcs, r2, rfl, gr2⟩ := hp
  obtain rfl := hcs.symm
  refine z_st (st' := [.ref (G.1 + r2), .ref (G.1 + a0)]) rfl ?_
  refine q_put hW hX hr hno hle kX3 fX3_29 dX3_init_27 rfl rfl (by rfl) (by rfl) (Nat.le_of_ble_eq_true rfl) (fun cs1 hW hX hr => ?_)
  have hr : cs1[a0]? = some (.inr (3, [.ref (G.1 + a1), .ref (G.1 + a2), .ref (G.1 + r2), .null, .null, .null, .null, .null, .null, .null, .null, .ref (G.1 + b1)])) := hr
  have hlen : cs.length ≤ cs1.length := hX.2.1
  refine z_aload_n dX3_init_30 rfl rfl ?_
  refine z_aload_n dX3_init_31 rfl rfl ?_
  have hX0 := kX6_values 0 (Nat.le_refl _) hW ga2
  refine z_callV (As := []) eX6_values sX6_values lX3_32 rfl dX3_init_32 (hW.ob ga2 (by decide)).choose_spec hX0 (Nat.le_trans (by decide) hd) rfl (Nat.le_of_ble_eq_true rfl) (fun r cs2 hp => ?_)
  obtain ⟨hcs, r3, rfl, gr3⟩ := hp
  obtain rfl := hcs.symm
  refine z_st (st' := [.ref (G.1 + r3), .ref (G.1 + a0)]) rfl ?_
  refine q_put hW hX hr hno hle kX3 fX3_35 dX3_init_35 rfl rfl (by rfl) (by rfl) (Nat.le_of_ble_eq_true rfl) (fun cs1 hW hX hr => ?_)
  have hr : cs1[a0]? = some (.inr (3, [.ref (G.1 + a1), .ref (G.1 + a2), .ref (G.1 + r2), .ref (G.1 + r3), .null, .null, .null, .null, .null, .null, .null, .ref (G.1 + b1)])) := hr
  have hlen : cs.length ≤ cs1.length := hX.2.1
  refine z_aload_n dX3_init_38 rfl rfl ?_
  refine z_aload_n dX3_init_39 rfl rfl ?_
  refine q_put hW hX hr hno hle kX3 fX3_37 dX3_init_40 rfl rfl (by rfl) (by rfl) (Nat.le_of_ble_eq_true rfl) (fun cs1 hW hX hr => ?_)
  have hr : cs1[a0]? = some (.inr (3, [.ref (G.1 + a1), .ref (G.1 + a2), .ref (G.1 + r2), .ref (G.1 + r3), .ref (G.1 + a3), .null, .null, .null, .null, .null, .null, .ref (G.1 + b1)])) := hr
  have hlen : cs.length ≤ cs1.length := hX.2.1
  refine z_aload_n dX3_init_43 rfl rfl ?_
  obtain ⟨bw, hbw⟩ : ∃ b : Nat, b = cs1.length := ⟨_, rfl⟩
  refine z_new (fs := [.null, .null]) kX7 nX3_41 aX7 bX7 dX3_init_44 (by decide +kernel) (by have := hW.2.2.2.2.2.2; unfold rho1 rho2 at this; omega) ?_
  rw [← hbw]
  refine z_dup dX3_init_47 rfl ?_
  refine z_aload_n dX3_init_48 rfl rfl ?_
  have hX0 := kX7_init 1 (Nat.le_refl _) hW ga2 (by omega)
  rw [← hbw] at hX0
  refine z_callI (As := [_]) eX7_init sX7_init lX3_43 dX3_init_49 hX0 (Nat.le_trans (by decide) hd) rfl (Nat.le_of_ble_eq_true rfl) (fun r cs1 hp => ?_)
  obtain ⟨rfl, τ, p7, hW, k7, gbw⟩ := hp
  have ⟨hr1, hno⟩ := k7.2.2.1 a0 (at_lt hr) hno
  have hr := hr1.trans hr
  have hX := hX.tr k7 (by decide)
  clear hX0 hr1
  obtain ⟨B1, hW, eb1, eb2⟩ : ∃ B2 : Nat × Nat, WT G B2 τ cs1 ∧ B2.1 = B1.1 + 3 ∧ B2.2 = B1.2 + 3 := ⟨_, hW, rfl, rfl⟩
  have ga1 := k7.1.e ga1 (by decide)
  have ga2 := k7.1.e ga2 (by decide)
  have ga3 := k7.1.e ga3 (by decide)
  have gb1 := k7.1.a gb1
  have gr2 := k7.1.s gr2
  have gr3 := k7.1.s gr3
  have hlen : cs.length ≤ cs1.length := hX.2.1
  refine z_st (st' := [.ref (G.1 + bw), .ref (G.1 + a0)]) rfl ?_
  refine q_put hW hX hr hno hle kX3 fX3_46 dX3_init_52 rfl rfl (by rfl) (by rfl) (Nat.le_of_ble_eq_true rfl) (fun cs1 hW hX hr => ?_)
  have hr : cs1[a0]? = some (.inr (3, [.ref (G.1 + a1), .ref (G.1 + a2), .ref (G.1 + r2), .ref (G.1 + r3), .ref (G.1 + a3), .ref (G.1 + bw), .null, .null, .null, .null, .null, .ref (G.1 + b1)])) := hr
  have hlen : cs.length ≤ cs1.length := hX.2.1
  refine z_aload_n dX3_init_55 rfl rfl ?_
  refine z_aload_n dX3_init_56 rfl rfl ?_
  have hX0 := kX6_size 0 (Nat.le_refl _) hW ga2
  refine z_callV (As := []) eX6_size sX6_size lX3_50 rfl dX3_init_57 (hW.ob ga2 (by decide)).choose_spec hX0 (Nat.le_trans (by decide) hd) rfl (Nat.le_of_ble_eq_true rfl) (fun r cs2 hp => ?_)
  obtain ⟨hcs, r4, rfl, gr4, nr4⟩ := hp
  obtain rfl := hcs.symm
  have qr4 := hX.fe (k := 16) gtree (by decide) (by decide) (by decide)
  refine z_st (st' := [.int (Int32.ofInt r4), .ref (G.1 + a0)]) rfl ?_
  refine q_newa (n := r4) (lo := (-2147483648)) (hi := 2147483647) hW hX arr_int dX3_init_60 (by omega) (by omega) (by decide) (by decide) (by decide) (by omega) (by omega) hty (fun B1 τ cs1 b5 eb1 eb2 hW hX hs gb5 hk => ?_)
  have ⟨hr, hno⟩ := hk _ _ hr hno
  have ga1 := hs.e ga1 (by decide)
  have ga2 := hs.e ga2 (by decide)
  have ga3 := hs.e ga3 (by decide)
  have gb1 := hs.a gb1
  have gr2 := hs.s gr2
  have gr3 := hs.s gr3
  have gbw := hs.e gbw (by decide)
  clear hk hs
  have hlen : cs.length ≤ cs1.length := hX.2.1
  refine q_put hW hX hr hno hle kX3 fX3_54 dX3_init_62 rfl rfl (by rfl) (by rfl) (Nat.le_of_ble_eq_true rfl) (fun cs1 hW hX hr => ?_)
  have hr : cs1[a0]? = some (.inr (3, [.ref (G.1 + a1), .ref (G.1 + a2), .ref (G.1 + r2), .ref (G.1 + r3), .ref (G.1 + a3), .ref (G.1 + bw), .ref (G.1 + b5), .null, .null, .null, .null, .ref (G.1 + b1)])) := hr
  have hlen : cs.length ≤ cs1.length := hX.2.1
  refine z_aload_n dX3_init_65 rfl rfl ?_
  refine z_aload_n dX3_init_66 rfl rfl ?_
  have hX0 := kX6_size 0 (Nat.le_refl _) hW ga2
  refine z_callV (As := []) eX6_size sX6_size lX3_50 rfl dX3_init_67 (hW.ob ga2 (by decide)).choose_spec hX0 (Nat.le_trans (by decide) hd) rfl (Nat.le_of_ble_eq_true rfl) (fun r cs2 hp => ?_)
  obtain ⟨hcs, r6, rfl, gr6, nr6⟩ := hp
  obtain rfl := hcs.symm
  have qr6 := hX.fe (k := 16) gtree (by decide) (by decide) (by decide)
  obtain rfl : r4 = r6 := by omega
  refine z_st (st' := [.int (Int32.ofInt r4), .ref (G.1 + a0)]) rfl ?_
  refine q_newa (n := r4) (lo := 0) (hi := 29) hW hX arr_int dX3_init_70 (by omega) (by omega) (by decide) (by decide) (by decide) (by omega) (by omega) hty (fun B1 τ cs1 b7 eb1 eb2 hW hX hs gb7 hk => ?_)
  have ⟨hr, hno⟩ := hk _ _ hr hno
  have ga1 := hs.e ga1 (by decide)
  have ga2 := hs.e ga2 (by decide)
  have ga3 := hs.e ga3 (by decide)
  have gb1 := hs.a gb1
  have gr2 := hs.s gr2
  have gr3 := hs.s gr3
  have gbw := hs.e gbw (by decide)
  have gb5 := hs.a gb5
  clear hk hs
  have hlen : cs.length ≤ cs1.length := hX.2.1
  refine q_put hW hX hr hno hle kX3 fX3_57 dX3_init_72 rfl rfl (by rfl) (by rfl) (Nat.le_of_ble_eq_true rfl) (fun cs1 hW hX hr => ?_)
  have hr : cs1[a0]? = some (.inr (3, [.ref (G.1 + a1), .ref (G.1 + a2), .ref (G.1 + r2), .ref (G.1 + r3), .ref (G.1 + a3), .ref (G.1 + bw), .ref (G.1 + b5), .ref (G.1 + b7), .null, .null, .null, .ref (G.1 + b1)])) := hr
  have hlen : cs.length ≤ cs1.length := hX.2.1
  refine z_aload_n dX3_init_75 rfl rfl ?_
  refine z_aload_n dX3_init_76 rfl rfl ?_
  have hX0 := kX6_size 0 (Nat.le_refl _) hW ga2
  refine z_callV (As := []) eX6_size sX6_size lX3_50 rfl dX3_init_77 (hW.ob ga2 (by decide)).choose_spec hX0 (Nat.le_trans (by decide) hd) rfl (Nat.le_of_ble_eq_true rfl) (fun r cs2 hp => ?_)
  obtain ⟨hcs, r8, rfl, gr8, nr8⟩ := hp
  obtain rfl := hcs.symm
  have qr8 := hX.fe (k := 16) gtree (by decide) (by decide) (by decide)
  obtain rfl : r4 = r8 := by omega
  refine z_st (st' := [.int (Int32.ofInt r4), .ref (G.1 + a0)]) rfl ?_
  refine q_newa (n := r4) (lo := (-2147483648)) (hi := 2147483647) hW hX arr_int dX3_init_80 (by omega) (by omega) (by decide) (by decide) (by decide) (by omega) (by omega) hty (fun B1 τ cs1 b9 eb1 eb2 hW hX hs gb9 hk => ?_)
  have ⟨hr, hno⟩ := hk _ _ hr hno
  have ga1 := hs.e ga1 (by decide)
  have ga2 := hs.e ga2 (by decide)
  have ga3 := hs.e ga3 (by decide)
  have gb1 := hs.a gb1
  have gr2 := hs.s gr2
  have gr3 := hs.s gr3
  have gbw := hs.e gbw (by decide)
  have gb5 := hs.a gb5
  have gb7 := hs.a gb7
  clear hk hs
  have hlen : cs.length ≤ cs1.length := hX.2.1
  refine q_put hW hX hr hno hle kX3 fX3_60 dX3_init_82 rfl rfl (by rfl) (by rfl) (Nat.le_of_ble_eq_true rfl) (fun cs1 hW hX hr => ?_)
  have hr : cs1[a0]? = some (.inr (3, [.ref (G.1 + a1), .ref (G.1 + a2), .ref (G.1 + r2), .ref (G.1 + r3), .ref (G.1 + a3), .ref (G.1 + bw), .ref (G.1 + b5), .ref (G.1 + b7), .ref (G.1 + b9), .null, .null, .ref (G.1 + b1)])) := hr
  have hlen : cs.length ≤ cs1.length := hX.2.1
  refine z_aload_n dX3_init_85 rfl rfl ?_
  refine z_aload_n dX3_init_86 rfl rfl ?_
  have hX0 := kX6_size 0 (Nat.le_refl _) hW ga2
  refine z_callV (As := []) eX6_size sX6_size lX3_50 rfl dX3_init_87 (hW.ob ga2 (by decide)).choose_spec hX0 (Nat.le_trans (by decide) hd) rfl (Nat.le_of_ble_eq_true rfl) (fun r cs2 hp => ?_)
  obtain ⟨hcs, r10, rfl, gr10, nr10⟩ := hp
  obtain rfl := hcs.symm
  have qr10 := hX.fe (k := 16) gtree (by decide) (by decide) (by decide)
  obtain rfl : r4 = r10 := by omega
  refine z_st (st' := [.int (Int32.ofInt r4), .ref (G.1 + a0)]) rfl ?_
  refine q_newa (n := r4) (lo := (-2147483648)) (hi := 2147483647) hW hX arr_int dX3_init_90 (by omega) (by omega) (by decide) (by decide) (by decide) (by omega) (by omega) hty (fun B1 τ cs1 b11 eb1 eb2 hW hX hs gb11 hk => ?_)
  have ⟨hr, hno⟩ := hk _ _ hr hno
  have ga1 := hs.e ga1 (by decide)
  have ga2 := hs.e ga2 (by decide)
  have ga3 := hs.e ga3 (by decide)
  have gb1 := hs.a gb1
  have gr2 := hs.s gr2
  have gr3 := hs.s gr3
  have gbw := hs.e gbw (by decide)
  have gb5 := hs.a gb5
  have gb7 := hs.a gb7
  have gb9 := hs.a gb9
  clear hk hs
  have hlen : cs.length ≤ cs1.length := hX.2.1
  refine q_put hW hX hr hno hle kX3 fX3_63 dX3_init_92 rfl rfl (by rfl) (by rfl) (Nat.le_of_ble_eq_true rfl) (fun cs1 hW hX hr => ?_)
  have hr : cs1[a0]? = some (.inr (3, [.ref (G.1 + a1), .ref (G.1 + a2), .ref (G.1 + r2), .ref (G.1 + r3), .ref (G.1 + a3), .ref (G.1 + bw), .ref (G.1 + b5), .ref (G.1 + b7), .ref (G.1 + b9), .ref (G.1 + b11), .null, .ref (G.1 + b1)])) := hr
  have hlen : cs.length ≤ cs1.length := hX.2.1
  refine z_aload_n dX3_init_95 rfl rfl ?_
  refine z_aload_n dX3_init_96 rfl rfl ?_
  have hX0 := kX6_size 0 (Nat.le_refl _) hW ga2
  refine z_callV (As := []) eX6_size sX6_size lX3_50 rfl dX3_init_97 (hW.ob ga2 (by decide)).choose_spec hX0 (Nat.le_trans (by decide) hd) rfl (Nat.le_of_ble_eq_true rfl) (fun r cs2 hp => ?_)
  obtain ⟨hcs, r12, rfl, gr12, nr12⟩ := hp
  obtain rfl := hcs.symm
  have qr12 := hX.fe (k := 16) gtree (by decide) (by decide) (by decide)
  obtain rfl : r4 = r12 := by omega
  refine z_st (st' := [.int (Int32.ofInt r4), .ref (G.1 + a0)]) rfl ?_
  refine q_newa (n := r4) (lo := (-2147483648)) (hi := 2147483647) hW hX arr_int dX3_init_100 (by omega) (by omega) (by decide) (by decide) (by decide) (by omega) (by omega) hty (fun B1 τ cs1 b13 eb1 eb2 hW hX hs gb13 hk => ?_)
  have ⟨hr, hno⟩ := hk _ _ hr hno
  have ga1 := hs.e ga1 (by decide)
  have ga2 := hs.e ga2 (by decide)
  have ga3 := hs.e ga3 (by decide)
  have gb1 := hs.a gb1
  have gr2 := hs.s gr2
  have gr3 := hs.s gr3
  have gbw := hs.e gbw (by decide)
  have gb5 := hs.a gb5
  have gb7 := hs.a gb7
  have gb9 := hs.a gb9
  have gb11 := hs.a gb11
  clear hk hs
  have hlen : cs.length ≤ cs1.length := hX.2.1
  refine q_put hW hX hr hno hle kX3 fX3_66 dX3_init_102 rfl rfl (by rfl) (by rfl) (Nat.le_of_ble_eq_true rfl) (fun cs1 hW hX hr => ?_)
  have hr : cs1[a0]? = some (.inr (3, [.ref (G.1 + a1), .ref (G.1 + a2), .ref (G.1 + r2), .ref (G.1 + r3), .ref (G.1 + a3), .ref (G.1 + bw), .ref (G.1 + b5), .ref (G.1 + b7), .ref (G.1 + b9), .ref (G.1 + b11), .ref (G.1 + b13), .ref (G.1 + b1)])) := hr
  have hlen : cs.length ≤ cs1.length := hX.2.1
  refine z_return dX3_init_105 rfl ⟨rfl, upT τ a0 (.inl (3, r4.toNat)), r4.toNat, WT.up (hW.give hno h22 (at_lt hr) (fun ci p q => by cases q; exact ⟨by decide, by decide, by decide, by decide, by omega⟩) (fun _ _ _ _ q => by cases q) (fun _ _ _ _ q => by cases q) (fun ci p q => by cases q; exact ⟨_, hr, (wF_cons ⟨a1, rfl, ⟨_, ga1⟩⟩ (wF_cons ⟨a2, rfl, ⟨_, ga2⟩⟩ (wF_cons ⟨r2, rfl, gr2⟩ (wF_cons ⟨r3, rfl, gr3⟩ (wF_cons ⟨a3, rfl, ⟨_, ga3⟩⟩ (wF_cons ⟨bw, rfl, ⟨_, gbw⟩⟩ (wF_cons ⟨b5, rfl, gb5⟩ (wF_cons ⟨b7, rfl, gb7⟩ (wF_cons ⟨b9, rfl, gb9⟩ (wF_cons ⟨b11, rfl, gb11⟩ (wF_cons ⟨b13, rfl, gb13⟩ (wF_cons ⟨b1, rfl, gb1⟩ wF_nil))))))))))))⟩)) (by show _ ≤ B.1 + _; omega) (by show _ ≤ B.2 + _; omega) hB.1 hB.2, hX.give hle hno, by rw [ha0]; exact upT_at⟩

