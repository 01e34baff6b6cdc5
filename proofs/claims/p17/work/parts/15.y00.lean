/-! WHAT IS WRITTEN, as lists of signs: what write sees is an Env: 0 objects, 1 class of an object, 2 head of a field, 3 cell of a field, 4 fields of a class, 5 kind, 6 mark, 7 mode, 8 classes; and the names in XML's form -/
abbrev Env : Type := (Nat → Int → Int → Int → Int) × (Int → List Int)
def eN (e : Env) : Int := e.1 0 0 0 0
def eK (e : Env) (o : Int) : Int := e.1 1 o 0 0
def eV (e : Env) (o f : Int) : Int := e.1 2 o f 0
def eP (e : Env) (o f i : Int) : Int := e.1 3 o f i
def eF (e : Env) (c : Int) : Int := e.1 4 c 0 0
def eD (e : Env) (c f : Int) : Int := e.1 5 c f 0
def eM (e : Env) (c f : Int) : Int := e.1 6 c f 0
def eO (e : Env) : Int := e.1 7 0 0 0
def eC (e : Env) : Int := e.1 8 0 0 0
def eL (e : Env) (k : Int) : List Int := e.2 k
def catF (g : Int → List Int) : Nat → Int → List Int
  | 0, _ => []
  | n + 1, i => g i ++ catF g n (i + 1)
def pwf : Nat → Int → Int → Int
  | 0, p, _ => p
  | k + 1, p, n => if p * 10 ≤ n then pwf k (p * 10) n else p
def dgs : Nat → Int → Int → List Int
  | 0, _, _ => []
  | k + 1, p, n => if p ≤ 0 then [] else (48 + (Int.tdiv n p - Int.tdiv (Int.tdiv n p) 10 * 10)) :: dgs k (Int.tdiv p 10) n
def num (v : Int) : List Int := (if v < 0 then [45] else []) ++ dgs 10 (pwf 9 1 (if 0 < v then v else -v)) (if 0 < v then v else -v)
def esc (q c : Int) : List Int := if c = 38 then [38, 97, 109, 112, 59] else if c = 60 then [38, 108, 116, 59] else if c = 62 then [38, 103, 116, 59] else if c = 34 ∧ q = 1 then [38, 113, 117, 111, 116, 59] else [c]
def sgl (e : Env) (o f q : Int) : List Int := if eD e (eK e o) f = 0 then num (eV e o f) else catF (fun i => esc q (eP e o f i)) (eV e o f).toNat 0
def att (e : Env) (o f : Int) : List Int := if eD e (eK e o) f ≤ 1 ∧ eM e (eK e o) f = 1 then [32] ++ eL e (6 + eK e o * 4 + f) ++ [61, 34] ++ sgl e o f 1 ++ [34] else []
def sTg (e : Env) (o k d : Int) : List Int := [60] ++ eL e k ++ (if 6 ≤ k then [32, 99, 108, 97, 115, 115, 61, 34] ++ eL e (eK e o) ++ [34] else []) ++ (if eO e = 2 then [32, 105, 100, 61, 34] ++ num d ++ [34] else []) ++ catF (att e o) (eF e (eK e o)).toNat 0
def eTg (e : Env) (k : Int) : List Int := [60, 47] ++ eL e k ++ [62]
def hEl (e : Env) (o f : Int) : Bool := if eD e (eK e o) f ≤ 1 then decide (¬ eM e (eK e o) f = 1) else if eD e (eK e o) f = 2 then decide (¬ eV e o f = -2) else decide (¬ eM e (eK e o) f = 1 ∨ 0 < eV e o f)
def hCo (e : Env) (o : Int) : Nat → Int → Bool
  | 0, _ => false
  | n + 1, f => hEl e o f || hCo e o n (f + 1)
/-- a way: for each element its key, its name, its rank -/
abbrev Pth : Type := List (Int × Int × Int)
def stp (e : Env) (s : Int × Int × Int) : List Int := eL e s.2.1 ++ (if 1 < s.2.2 then [91] ++ num s.2.2 ++ [93] else [])
def pth (e : Env) (p : Pth) : List Int := p.flatMap (fun s => [47] ++ stp e s)
def shr : Pth → Pth → Nat
  | a :: l, b :: m => if a.1 = b.1 then shr l m + 1 else 0
  | _, _ => 0
def dot : Nat → List Int
  | 0 => []
  | 1 => [46, 46]
  | k + 2 => dot (k + 1) ++ [47, 46, 46]
def way (e : Env) (h t : Pth) : List Int := dot (h.length - shr h t) ++ pth e (t.drop (shr h t))
/-- the state of a writing: the signs, the ids (0: not begun), the ways of what was begun, how many, whether it is too deep -/
abbrev Ws : Type := List Int × (Int → Int) × (Int → Pth) × Int × Int
def pt (s : Ws) (l : List Int) : Ws := (s.1 ++ l, s.2)
def bgn (s : Ws) (o : Int) (p : Pth) : Ws := (s.1, fun x => if x = o then s.2.2.2.1 + 1 else s.2.1 x, fun x => if x = o then p else s.2.2.1 x, s.2.2.2.1 + 1, s.2.2.2.2)
def dpp (s : Ws) : Ws := (s.1, s.2.1, s.2.2.1, s.2.2.2.1, 1)
def rfT (e : Env) (s : Ws) (o : Int) (p : Pth) (k : Int) : List Int := [60] ++ eL e k ++ [32, 114, 101, 102, 101, 114, 101, 110, 99, 101, 61, 34] ++ (if eO e = 2 then num (s.2.1 o) else if eO e = 0 then way e (p ++ [(-1, k, 1)]) (s.2.2.1 o) else pth e (s.2.2.1 o)) ++ [34, 47, 62]
abbrev Rec : Type := Int → Pth → Int → Int → Ws → Ws
/-- how many of the cells j, j + 1, .. of a list are of a class -/
def cnF (e : Env) (o f c : Int) : Nat → Int → Int
  | 0, _ => 0
  | n + 1, j => (if eK e (eP e o f j) = c then 1 else 0) + cnF e o f c n (j + 1)
def rnk (e : Env) (o f i : Int) : Int := cnF e o f (eK e (eP e o f i)) (i + 1).toNat 0
def its (e : Env) (R : Rec) (o f : Int) (p : Pth) : Nat → Int → Ws → Ws
  | 0, _, s => s
  | n + 1, i, s => its e R o f p n (i + 1) (R (eP e o f i) p (eK e (eP e o f i)) (rnk e o f i) s)
def nmF (e : Env) (o f : Int) : Int := 6 + eK e o * 4 + f
def lst (e : Env) (o f : Int) (p : Pth) : Pth := p ++ [(30 + o * 4 + f, nmF e o f, 1)]
def con (e : Env) (R : Rec) (o f : Int) (p : Pth) (s : Ws) : Ws :=
  if eD e (eK e o) f ≤ 1 then (if eM e (eK e o) f = 1 then s else if eD e (eK e o) f = 1 ∧ eV e o f = 0 then pt s ([60] ++ eL e (nmF e o f) ++ [47, 62]) else pt s ([60] ++ eL e (nmF e o f) ++ [62] ++ sgl e o f 0 ++ eTg e (nmF e o f)))
  else if eD e (eK e o) f = 2 then (if eV e o f = -2 then s else R (eV e o f) p (nmF e o f) 1 s)
  else if eM e (eK e o) f = 1 then its e R o f p (eV e o f).toNat 0 s
  else if eV e o f = 0 then pt s ([60] ++ eL e (nmF e o f) ++ [47, 62])
  else pt (its e R o f (lst e o f p) (eV e o f).toNat 0 (pt s ([60] ++ eL e (nmF e o f) ++ [62]))) (eTg e (nmF e o f))
def cns (e : Env) (R : Rec) (o : Int) (p : Pth) : Nat → Int → Ws → Ws
  | 0, _, s => s
  | n + 1, f, s => cns e R o p n (f + 1) (con e R o f p s)
def stopped (s : Ws) : Prop := s.2.2.2.2 = 1 ∨ 3000 < s.1.length
/-- the element of an object whose parent's way is p, with the name k and the rank r; n more may be around it -/
def El (e : Env) : Nat → Rec
  | 0 => fun o p k r s => if s.2.2.2.2 = 1 ∨ 3000 < s.1.length then s else if ¬ eO e = 3 ∧ 0 < s.2.1 o then pt s (rfT e s o p k) else dpp s
  | n + 1 => fun o p k r s => if s.2.2.2.2 = 1 ∨ 3000 < s.1.length then s else if ¬ eO e = 3 ∧ 0 < s.2.1 o then pt s (rfT e s o p k)
    else if hCo e o (eF e (eK e o)).toNat 0 then pt (cns e (El e n) o (p ++ [(o, k, r)]) (eF e (eK e o)).toNat 0 (pt (bgn s o (p ++ [(o, k, r)])) (sTg e o k (s.2.2.2.1 + 1) ++ [62]))) (eTg e k)
    else pt (bgn s o (p ++ [(o, k, r)])) (sTg e o k (s.2.2.2.1 + 1) ++ [47, 62])
/-- what is allowed of an Env -/
def okO (e : Env) (o : Int) : Prop := 0 ≤ o ∧ o < eN e
def okC (e : Env) (c : Int) : Prop := 0 ≤ c ∧ c < eC e
def okF (e : Env) (c f : Int) : Prop := okC e c ∧ 0 ≤ f ∧ f < eF e c
def okN (e : Env) (k : Int) : Prop := okC e k ∨ ∃ c f, okF e c f ∧ k = 6 + c * 4 + f
def EV (e : Env) : Prop := iv 0 30 (eN e) ∧ iv 0 6 (eC e) ∧ (∀ o, okO e o → okC e (eK e o)) ∧ (∀ c, okC e c → iv 0 4 (eF e c)) ∧ (∀ c f, okF e c f → iv 0 3 (eD e c f) ∧ iv 0 1 (eM e c f)) ∧ (∀ o f, okO e o → okF e (eK e o) f → rng (eV e o f) ∧ (eD e (eK e o) f = 1 → iv 0 20 (eV e o f) ∧ ∀ i, 0 ≤ i → i < eV e o f → iv 0 65535 (eP e o f i)) ∧ (eD e (eK e o) f = 2 → eV e o f = -2 ∨ okO e (eV e o f)) ∧ (eD e (eK e o) f = 3 → iv 0 8 (eV e o f) ∧ ∀ i, 0 ≤ i → i < eV e o f → okO e (eP e o f i)))
/-! THE CLASS'S SIDE -/
/-- the class's cells hold the Env -/
def cE (S : St) (e : Env) : Prop := S.1 42 3 = eN e ∧ (∀ o, okO e o → S.2 43 o = eK e o) ∧ (∀ o f, okO e o → 0 ≤ f → f < 4 → okF e (eK e o) f → S.2 44 (o * 4 + f) = eV e o f) ∧ (∀ o f i, okO e o → okF e (eK e o) f → (eD e (eK e o) f = 1 ∨ eD e (eK e o) f = 3) → 0 ≤ i → i < eV e o f → S.2 45 ((o * 4 + f) * 20 + i) = eP e o f i) ∧ S.1 24 8 = eC e ∧ (∀ c, okC e c → S.2 29 c = eF e c) ∧ (∀ c f, okF e c f → S.2 27 (c * 4 + f) = eD e c f + 1 ∧ S.2 28 (c * 4 + f) = (if eD e c f ≤ 1 ∧ eM e c f = 1 then 1 else 0) ∧ (S.2 30 c = f ↔ (eD e c f = 3 ∧ eM e c f = 1))) ∧ (∀ k, okN e k → 0 ≤ S.2 26 k ∧ eL e k = catF (fun i => [S.2 25 (k * 16 + i)]) (S.2 26 k).toNat 0)
/-- all but the Signs 22 is the same -/
def Of (S S' : St) : Prop := ∀ a, a ≠ 22 → S'.1 a = S.1 a ∧ S'.2 a = S.2 a
theorem Of.rf {S : St} : Of S S := fun _ _ => ⟨rfl, rfl⟩
theorem Of.tr {S S1 S2 : St} (h : Of S S1) (k : Of S1 S2) : Of S S2 := fun a ha => ⟨(k a ha).1.trans (h a ha).1, (k a ha).2.trans (h a ha).2⟩
theorem cE.mv {S S' : St} {e : Env} (h : cE S e) (h42 : S'.1 42 3 = S.1 42 3) (h24 : S'.1 24 8 = S.1 24 8) (h43 : S'.2 43 = S.2 43) (h44 : S'.2 44 = S.2 44) (h45 : S'.2 45 = S.2 45) (h25 : S'.2 25 = S.2 25) (h26 : S'.2 26 = S.2 26) (h27 : S'.2 27 = S.2 27) (h28 : S'.2 28 = S.2 28) (h29 : S'.2 29 = S.2 29) (h30 : S'.2 30 = S.2 30) : cE S' e := by
  unfold cE at h ⊢
  rw [h42, h24, h43, h44, h45, h25, h26, h27, h28, h29, h30]
  exact h
theorem cE.of {S S' : St} {e : Env} (h : cE S e) (k : Of S S') : cE S' e := h.mv (congrFun (k 42 (by decide)).1 3) (congrFun (k 24 (by decide)).1 8) (k 43 (by decide)).2 (k 44 (by decide)).2 (k 45 (by decide)).2 (k 25 (by decide)).2 (k 26 (by decide)).2 (k 27 (by decide)).2 (k 28 (by decide)).2 (k 29 (by decide)).2 (k 30 (by decide)).2
/-- a Signs holds the first 3000 of a list -/
def oC (S : St) (a : Nat) (A : List Int) : Prop := S.1 a 1 = (if A.length ≤ 3000 then (A.length : Int) else 3000) ∧ S.1 a 2 = (if A.length ≤ 3000 then 0 else 1) ∧ ∀ i : Nat, i < 3000 → i < A.length → S.2 a (i : Int) = A.getD i 0
theorem oC_put {S : St} {a : Nat} {A : List Int} {u : Int} (h : oC S a A) : oC (sPut S a u) a (A ++ [u]) := by
  obtain ⟨h1, h2, h3⟩ := h
  unfold sPut
  have hl : (A ++ [u]).length = A.length + 1 := by simp
  by_cases q : A.length < 3000
  · rw [if_pos (show A.length ≤ 3000 by omega)] at h1 h2
    rw [if_pos (show S.1 a 1 < 3000 by omega)]
    refine ⟨?_, ?_, fun i hi hA => ?_⟩
    · show (if a = a ∧ 1 = 1 then S.1 a 1 + 1 else _) = _
      rw [if_pos ⟨rfl, rfl⟩, h1, hl, if_pos (by omega)]
      rfl
    · show (if a = a ∧ 2 = 1 then S.1 a 1 + 1 else S.1 a 2) = _
      rw [if_neg (fun q => absurd q.2 (by decide)), h2, hl, if_pos (by omega)]
    · show (if a = a ∧ (i : Int) = S.1 a 1 then u else S.2 a i) = _
      by_cases e : i < A.length
      · rw [if_neg (by omega), List.getD_eq_getElem?_getD, List.getElem?_append_left e, ← List.getD_eq_getElem?_getD]
        exact h3 i hi e
      · have e2 : i = A.length := by omega
        rw [if_pos ⟨rfl, by omega⟩, List.getD_eq_getElem?_getD, e2, List.getElem?_append_right (Nat.le_refl _)]
        simp
  · have e1 : S.1 a 1 = 3000 := by
      rw [h1]
      by_cases e : A.length ≤ 3000
      · rw [if_pos e]
        omega
      · rw [if_neg e]
    rw [if_neg (show ¬ S.1 a 1 < 3000 by omega)]
    refine ⟨?_, ?_, fun i hi hA => ?_⟩
    · show (if a = a ∧ 1 = 2 then (1 : Int) else S.1 a 1) = _
      rw [if_neg (fun q => absurd q.2 (by decide)), e1, hl, if_neg (by omega)]
    · show (if a = a ∧ 2 = 2 then (1 : Int) else S.1 a 2) = _
      rw [if_pos ⟨rfl, rfl⟩, hl, if_neg (by omega)]
    · show S.2 a i = _
      rw [List.getD_eq_getElem?_getD, List.getElem?_append_left (show i < A.length by omega), ← List.getD_eq_getElem?_getD]
      exact h3 i hi (by omega)
theorem oC_puts {a : Nat} : ∀ {l : List Int} {S : St} {A : List Int}, oC S a A → oC (sPuts S a l) a (A ++ l)
  | [], S, A, h => by rw [List.append_nil]; exact h
  | u :: l, S, A, h => by
    have q := oC_puts (l := l) (oC_put (u := u) h)
    rw [List.append_assoc] at q
    exact q
theorem oC_len {S : St} {a : Nat} {A : List Int} (h : oC S a A) : (S.1 a 2 = 0 ↔ A.length ≤ 3000) ∧ (S.1 a 1 = A.length ∨ 3000 < A.length) := by
  obtain ⟨h1, h2, -⟩ := h
  rw [h1, h2]
  by_cases q : A.length ≤ 3000
  · rw [if_pos q, if_pos q]
    exact ⟨⟨fun _ => q, fun _ => rfl⟩, Or.inl rfl⟩
  · rw [if_neg q, if_neg q]
    exact ⟨⟨fun q => absurd q (by decide), fun r => absurd r q⟩, Or.inr (by omega)⟩
section OU
variable {S : St} {A : List Int} {K : Int → St → Prop} {e : Env}
theorem t_put {u : Int} (hO : oC S 22 A) (hu : iv 0 65535 u) (hK : ∀ r S', Of S S' → oC S' 22 (A ++ [u]) → K r S') : wX5_put 22 u S K := ⟨hu, fun r S' _ e => by
  subst e
  exact hK r _ (fun a ha => sPut_ne a ha) (oC_put hO)⟩
theorem t_spell {i : Nat} {l : List Int} (hO : oC S 22 A) (hl : str i = l) (hK : ∀ S', Of S S' → oC S' 22 (A ++ l) → K 0 S') : wX5_spell 22 i S K := fun S' e => by
  subst e
  rw [hl]
  exact hK _ (fun a ha => sPuts_ne a ha) (oC_puts hO)
end OU
theorem str2 : str 2 = [32, 114, 101, 102, 101, 114, 101, 110, 99, 101, 61, 34] := by decide +kernel
theorem str3 : str 3 = [46, 46] := by decide +kernel
theorem str4 : str 4 = [47, 46, 46] := by decide +kernel
theorem str5 : str 5 = [34, 47, 62] := by decide +kernel
theorem str6 : str 6 = [32, 99, 108, 97, 115, 115, 61, 34] := by decide +kernel
theorem str7 : str 7 = [32, 105, 100, 61, 34] := by decide +kernel
theorem str8 : str 8 = [61, 34] := by decide +kernel
theorem str9 : str 9 = [38, 97, 109, 112, 59] := by decide +kernel
theorem str10 : str 10 = [38, 108, 116, 59] := by decide +kernel
theorem str11 : str 11 = [38, 103, 116, 59] := by decide +kernel
theorem str12 : str 12 = [38, 113, 117, 111, 116, 59] := by decide +kernel
theorem str13 : str 13 = [47, 62] := by decide +kernel
theorem str14 : str 14 = [60, 47] := by decide +kernel

