/-! THE TEXT OF CLASSES: a pure reader -/
abbrev qN (u : Int) : Prop := (97 ≤ u ∧ u ≤ 122) ∨ (65 ≤ u ∧ u ≤ 90) ∨ (48 ≤ u ∧ u ≤ 57) ∨ u = 95 ∨ u = 36
abbrev qB (u : Int) : Prop := (97 ≤ u ∧ u ≤ 122) ∨ (65 ≤ u ∧ u ≤ 90) ∨ u = 95 ∨ u = 36
/-- how many signs of a name come, at most k -/
def qn (T : Int → Int) : Nat → Int → Nat
  | 0, _ => 0
  | k + 1, p => if qN (T p) then qn T k (p + 1) + 1 else 0
/-- the name at p -/
def qR (T : Int → Int) (p : Int) : List Int := if qB (T p) then catF (fun j => [T j]) (qn T 8 p) p else []
def xl : List Int → List Int
  | [] => []
  | u :: l => xf u ++ xl l
def qK (u : Int) : Int := if u = 105 then 0 else if u = 116 then 1 else if u = 114 then 2 else if u = 108 then 3 else -1
/-- the implicit list of a class, or -1 -/
def eI (e : Env) (c : Int) : Int := e.1 9 c 0 0
def eAC (e : Env) (nm : List Int) : Env := (fun t a b d => if t = 8 then eC e + 1 else if t = 4 ∧ a = eC e then 0 else if t = 9 ∧ a = eC e then -1 else e.1 t a b d, fun k => if k = eC e then xl nm else if k = 1000 + eC e then nm else e.2 k)
/-- the field that comes next -/
def nC (e : Env) : Int := eC e - 1
def nF (e : Env) : Int := eF e (nC e)
def eAF (e : Env) (nm : List Int) (kd mk : Int) : Env := (fun t a b d => if t = 4 ∧ a = nC e then nF e + 1 else if t = 5 ∧ a = nC e ∧ b = nF e then kd else if t = 6 ∧ a = nC e ∧ b = nF e then mk else if t = 9 ∧ a = nC e ∧ kd = 3 ∧ mk = 1 then nF e else e.1 t a b d, fun k => if k = 6 + nC e * 4 + nF e then xl nm else if k = 1000 + (6 + nC e * 4 + nF e) then nm else e.2 k)
def qM (T : Int → Int) (e : Env) (q : Int) : Int := if (T (q + 2) = 64 ∧ qK (T (q + 1)) ≤ 1) ∨ (T (q + 2) = 42 ∧ qK (T (q + 1)) = 3 ∧ eI e (nC e) = -1) then 1 else 0
/-- one field: the Env, the place, whether it was right -/
def qF (T : Int → Int) (e : Env) (p : Int) : Env × Int × Int := if qR T p = [] then (e, p, 0) else if T (p + (qR T p).length) = 58 then (if qK (T (p + (qR T p).length + 1)) = -1 then (e, p + (qR T p).length + 1, 0) else (eAF e (qR T p) (qK (T (p + (qR T p).length + 1))) (qM T e (p + (qR T p).length)), p + (qR T p).length + 2 + qM T e (p + (qR T p).length), 1)) else (e, p + (qR T p).length, 0)
def qE (T : Int → Int) (e : Env) (p : Int) : Env × Int × Int := if T p = 41 then (e, p + 1, 1) else (e, p, 0)
def qFs (T : Int → Int) : Nat → Env → Int → Env × Int × Int
  | 0, e, p => qE T e p
  | k + 1, e, p => if (qF T e p).2.2 = 0 then qF T e p else if k ≠ 0 ∧ T (qF T e p).2.1 = 44 then qFs T k (qF T e p).1 ((qF T e p).2.1 + 1) else qE T (qF T e p).1 (qF T e p).2.1
def qO (T : Int → Int) (e : Env) (p : Int) : Env × Int × Int := if qR T p = [] then (e, p, 0) else if T (p + (qR T p).length) = 40 then (if T (p + (qR T p).length + 1) = 41 then (eAC e (qR T p), p + (qR T p).length + 2, 1) else qFs T 4 (eAC e (qR T p)) (p + (qR T p).length + 1)) else (e, p + (qR T p).length, 0)
def qC (T : Int → Int) : Nat → Env → Int → Env × Int × Int
  | 0, e, p => (e, p, 1)
  | k + 1, e, p => if (qO T e p).2.2 = 0 then qO T e p else if k ≠ 0 ∧ T (qO T e p).2.1 = 59 then qC T k (qO T e p).1 ((qO T e p).2.1 + 1) else ((qO T e p).1, (qO T e p).2.1, 1)
def e0 : Env := (fun _ _ _ _ => 0, fun _ => [])
/-- the text: T at its n places, -1 behind -/
def TX (T : Int → Int) (n : Int) : Prop := iv 0 3000 n ∧ (∀ p, 0 ≤ p → p < n → 0 ≤ T p ∧ T p ≤ 65535) ∧ ∀ p, n ≤ p → T p = -1
theorem TX.in {T : Int → Int} {n p : Int} (h : TX T n) (h2 : ¬ T p = -1) : p < n := by
  by_cases q : p < n
  · exact q
  · exact absurd (h.2.2 p (by omega)) h2
theorem TX.bd {T : Int → Int} {n p : Int} (h : TX T n) (h2 : 0 ≤ p) : iv (-1) 65535 (T p) := by
  by_cases q : p < n
  · have := h.2.1 p h2 q
    exact ⟨by omega, by omega⟩
  · have := h.2.2 p (by omega)
    exact ⟨by omega, by omega⟩
theorem catF_snoc {g : Int → List Int} : ∀ (n : Nat) (i : Int), catF g (n + 1) i = catF g n i ++ g (i + n)
  | 0, i => by
    show g i ++ [] = [] ++ g (i + ((0 : Nat) : Int))
    rw [List.append_nil, List.nil_append]
    congr 1
    omega
  | n + 1, i => by
    show g i ++ catF g (n + 1) (i + 1) = (g i ++ catF g n (i + 1)) ++ g (i + ((n + 1 : Nat) : Int))
    rw [catF_snoc n (i + 1), List.append_assoc]
    congr 3
    omega
theorem xl_app : ∀ (a b : List Int), xl (a ++ b) = xl a ++ xl b
  | [], b => rfl
  | u :: a, b => by
    show xf u ++ xl (a ++ b) = (xf u ++ xl a) ++ xl b
    rw [xl_app a b, List.append_assoc]
theorem xl_cat {g : Int → Int} : ∀ (n : Nat) (i : Int), catF (fun j => xf (g j)) n i = xl (catF (fun j => [g j]) n i)
  | 0, _ => rfl
  | n + 1, i => by
    show xf (g i) ++ catF (fun j => xf (g j)) n (i + 1) = xl ([g i] ++ catF (fun j => [g j]) n (i + 1))
    rw [xl_cat n (i + 1), xl_app]
    show _ = (xf (g i) ++ []) ++ _
    rw [List.append_nil]
theorem xf_cas (u : Int) : (u = 36 ∧ xf u = [95, 45]) ∨ (u = 95 ∧ xf u = [95, 95]) ∨ (¬ u = 36 ∧ ¬ u = 95 ∧ xf u = [u]) := by
  unfold xf
  by_cases h : u = 36
  · exact Or.inl ⟨h, if_pos h⟩
  · by_cases h2 : u = 95
    · exact Or.inr (Or.inl ⟨h2, by rw [if_neg h, if_pos h2]⟩)
    · exact Or.inr (Or.inr ⟨h, h2, by rw [if_neg h, if_neg h2]⟩)
theorem xl_inj : ∀ (a b : List Int), xl a = xl b → a = b
  | [], [], _ => rfl
  | [], u :: b, h => by
    have h : [] = xf u ++ xl b := h
    rcases xf_cas u with ⟨-, q⟩ | ⟨-, q⟩ | ⟨-, -, q⟩ <;> (rw [q] at h; cases h)
  | u :: a, [], h => by
    have h : xf u ++ xl a = [] := h
    rcases xf_cas u with ⟨-, q⟩ | ⟨-, q⟩ | ⟨-, -, q⟩ <;> (rw [q] at h; cases h)
  | u :: a, w :: b, h => by
    have h : xf u ++ xl a = xf w ++ xl b := h
    rcases xf_cas u with ⟨u1, q⟩ | ⟨u1, q⟩ | ⟨u1, u2, q⟩ <;> rcases xf_cas w with ⟨w1, r⟩ | ⟨w1, r⟩ | ⟨w1, w2, r⟩ <;> rw [q, r] at h
    · have k : xl a = xl b := by simpa using h
      rw [u1, w1, xl_inj a b k]
    · have k : (45 : Int) = 95 := (List.cons.inj (List.cons.inj h).2).1
      exact absurd k (by decide)
    · have k : (95 : Int) = w := (List.cons.inj h).1
      exact absurd k.symm w2
    · have k : (95 : Int) = 45 := (List.cons.inj (List.cons.inj h).2).1
      exact absurd k (by decide)
    · have k : xl a = xl b := by simpa using h
      rw [u1, w1, xl_inj a b k]
    · have k : (95 : Int) = w := (List.cons.inj h).1
      exact absurd k.symm w2
    · have k : u = (95 : Int) := (List.cons.inj h).1
      exact absurd k u2
    · have k : u = (95 : Int) := (List.cons.inj h).1
      exact absurd k u2
    · have k : u = w := (List.cons.inj h).1
      have k2 : xl a = xl b := (List.cons.inj h).2
      rw [k, xl_inj a b k2]
theorem qn_le {T : Int → Int} : ∀ (k : Nat) (p : Int), qn T k p ≤ k
  | 0, _ => Nat.le_refl _
  | k + 1, p => by
    unfold qn
    have := qn_le (T := T) k (p + 1)
    split <;> omega
theorem qR_len {T : Int → Int} {p : Int} : (qR T p = [] ∧ ¬ qB (T p)) ∨ (¬ qR T p = [] ∧ qB (T p) ∧ (qR T p).length = qn T 8 p ∧ 1 ≤ qn T 8 p ∧ qR T p = catF (fun j => [T j]) (qn T 8 p) p) := by
  unfold qR
  by_cases h : qB (T p)
  · rw [if_pos h]
    have h1 : 1 ≤ qn T 8 p := by
      unfold qn
      rw [if_pos (by omega)]
      omega
    have h2 := catF_sl (g := T) (qn T 8 p) p
    refine Or.inr ⟨fun q => ?_, h, h2, h1, rfl⟩
    rw [q] at h2
    simp at h2
    omega
  · rw [if_neg h]
    exact Or.inl ⟨rfl, h⟩
theorem qR_8 {T : Int → Int} {p : Int} : (qR T p).length ≤ 8 := by
  rcases qR_len (T := T) (p := p) with ⟨h, -⟩ | ⟨-, -, h, -⟩
  · rw [h]
    decide
  · have := qn_le (T := T) 8 p
    omega
/-- the place behind a name -/
theorem qn_in {T : Int → Int} {n : Int} (hX : TX T n) : ∀ (k : Nat) (p : Int), p ≤ n → p + (qn T k p : Int) ≤ n
  | 0, p, h => by
    show p + ((0 : Nat) : Int) ≤ n
    omega
  | k + 1, p, h => by
    unfold qn
    by_cases q : qN (T p)
    · rw [if_pos q]
      have h1 : p < n := hX.in (by omega)
      have := qn_in hX k (p + 1) (by omega)
      omega
    · rw [if_neg q]
      omega
theorem qR_in {T : Int → Int} {n p : Int} (hX : TX T n) (h : p ≤ n) : p + ((qR T p).length : Int) ≤ n := by
  rcases qR_len (T := T) (p := p) with ⟨q, -⟩ | ⟨-, -, q, -⟩
  · rw [q]
    show p + ((0 : Nat) : Int) ≤ n
    omega
  · rw [q]
    exact qn_in hX 8 p h

