/-! READING XML: a pure reader: elements (its <, behind its name, its parent, its first attribute, how many, where its text begins), attributes (its key from, to; its value from, to), signs with their owners -/
abbrev isBl (u : Int) : Prop := u = 32 ∨ u = 9 ∨ u = 10 ∨ u = 13
abbrev isLt (u : Int) : Prop := (97 ≤ u ∧ u ≤ 122) ∨ (65 ≤ u ∧ u ≤ 90)
abbrev isDg (u : Int) : Prop := 48 ≤ u ∧ u ≤ 57
abbrev nBg (u : Int) : Prop := isLt u ∨ u = 95
abbrev nIn (u : Int) : Prop := isLt u ∨ u = 95 ∨ isDg u ∨ u = 45 ∨ u = 46
abbrev isSn (a : Int) : Prop := (32 ≤ a ∧ a ≤ 126) ∨ a = 9 ∨ a = 10 ∨ a = 13
def eB (T : Int → Int) : Nat → Int → Int
  | 0, p => p
  | k + 1, p => if isBl (T p) then eB T k (p + 1) else p
def eNm (T : Int → Int) : Nat → Int → Int
  | 0, p => p
  | k + 1, p => if nIn (T p) then eNm T k (p + 1) else p
def rBl (T : Int → Int) (p : Int) : Int := eB T 3001 p
def rNm (T : Int → Int) (p : Int) : Int := eNm T 3001 p
theorem eB_eq {T : Int → Int} : ∀ (k : Nat) (p q : Int), p ≤ q → (∀ i, p ≤ i → i < q → isBl (T i)) → ¬ isBl (T q) → q - p ≤ k → eB T k p = q
  | 0, p, q, h1, _, _, h4 => by
    show p = q
    omega
  | k + 1, p, q, h1, h2, h3, h4 => by
    unfold eB
    by_cases hq : p = q
    · rw [if_neg (by rw [hq]; exact h3)]
      exact hq
    · rw [if_pos (h2 p (Int.le_refl _) (by omega))]
      exact eB_eq k (p + 1) q (by omega) (fun i i1 i2 => h2 i (by omega) i2) h3 (by omega)
theorem eNm_eq {T : Int → Int} : ∀ (k : Nat) (p q : Int), p ≤ q → (∀ i, p ≤ i → i < q → nIn (T i)) → ¬ nIn (T q) → q - p ≤ k → eNm T k p = q
  | 0, p, q, h1, _, _, h4 => by
    show p = q
    omega
  | k + 1, p, q, h1, h2, h3, h4 => by
    unfold eNm
    by_cases hq : p = q
    · rw [if_neg (by rw [hq]; exact h3)]
      exact hq
    · rw [if_pos (h2 p (Int.le_refl _) (by omega))]
      exact eNm_eq k (p + 1) q (by omega) (fun i i1 i2 => h2 i (by omega) i2) h3 (by omega)
theorem eB_le {T : Int → Int} {n : Int} (hn : ∀ p, n ≤ p → T p = -1) : ∀ (k : Nat) (p : Int), p ≤ eB T k p ∧ (p ≤ n → eB T k p ≤ n) ∧ (n ≤ p → eB T k p = p)
  | 0, p => ⟨Int.le_refl _, fun h => h, fun _ => rfl⟩
  | k + 1, p => by
    unfold eB
    by_cases h : isBl (T p)
    · rw [if_pos h]
      have hp : p < n := Int.lt_of_not_ge fun q => by
        have := hn p q
        omega
      obtain ⟨a1, a2, a3⟩ := eB_le hn k (p + 1)
      exact ⟨by omega, fun _ => a2 (by omega), fun q => by omega⟩
    · rw [if_neg h]
      exact ⟨Int.le_refl _, fun h => h, fun _ => rfl⟩
theorem eNm_le {T : Int → Int} {n : Int} (hn : ∀ p, n ≤ p → T p = -1) : ∀ (k : Nat) (p : Int), p ≤ eNm T k p ∧ (p ≤ n → eNm T k p ≤ n) ∧ (n ≤ p → eNm T k p = p)
  | 0, p => ⟨Int.le_refl _, fun h => h, fun _ => rfl⟩
  | k + 1, p => by
    unfold eNm
    by_cases h : nIn (T p)
    · rw [if_pos h]
      have hp : p < n := Int.lt_of_not_ge fun q => by
        have := hn p q
        omega
      obtain ⟨a1, a2, a3⟩ := eNm_le hn k (p + 1)
      exact ⟨by omega, fun _ => a2 (by omega), fun q => by omega⟩
    · rw [if_neg h]
      exact ⟨Int.le_refl _, fun h => h, fun _ => rfl⟩
/-- a figure, and a run of figures -/
def dgV (hex : Bool) (c : Int) : Int := if isDg c then c - 48 else if hex = true ∧ 97 ≤ c ∧ c ≤ 102 then c - 87 else if hex = true ∧ 65 ≤ c ∧ c ≤ 70 then c - 55 else -1
def dgR (T : Int → Int) (hex : Bool) : Nat → Int → Int → Int × Int
  | 0, v, p => (v, p)
  | k + 1, v, p => if 0 ≤ dgV hex (T p) then dgR T hex k (v * (if hex = true then 16 else 10) + dgV hex (T p)) (p + 1) else (v, p)
def cm (T : Int → Int) : Int → List Int → Bool
  | _, [] => true
  | p, u :: l => decide (T p = u) && cm T (p + 1) l
/-- what an & at p says: the sign, and where it goes on -/
def ent (T : Int → Int) (p : Int) : Option (Int × Int) :=
  if T (p + 1) = 35 then (if p + (if T (p + 2) = 120 then 3 else 2) < (dgR T (decide (T (p + 2) = 120)) 6 0 (p + (if T (p + 2) = 120 then 3 else 2))).2 ∧ T (dgR T (decide (T (p + 2) = 120)) 6 0 (p + (if T (p + 2) = 120 then 3 else 2))).2 = 59 ∧ isSn (dgR T (decide (T (p + 2) = 120)) 6 0 (p + (if T (p + 2) = 120 then 3 else 2))).1 then some ((dgR T (decide (T (p + 2) = 120)) 6 0 (p + (if T (p + 2) = 120 then 3 else 2))).1, (dgR T (decide (T (p + 2) = 120)) 6 0 (p + (if T (p + 2) = 120 then 3 else 2))).2 + 1) else none)
  else if cm T (p + 1) [97, 109, 112, 59] then some (38, p + 5) else if cm T (p + 1) [108, 116, 59] then some (60, p + 4) else if cm T (p + 1) [103, 116, 59] then some (62, p + 4) else if cm T (p + 1) [113, 117, 111, 116, 59] then some (34, p + 6) else if cm T (p + 1) [97, 112, 111, 115, 59] then some (39, p + 6) else none
def dec (T : Int → Int) (p : Int) : Option (Int × Int) := if T p = 38 then ent T p else some (T p, p + 1)
/-- a value up to its quote -/
def xV (T : Int → Int) (q : Int) : Nat → Int → List Int → Option (List Int × Int)
  | 0, _, _ => none
  | k + 1, p, l => if T p = q then some (l, p + 1) else if T p = 60 ∨ T p = -1 then none else match dec T p with
    | none => none
    | some r => xV T q k r.2 (l ++ [r.1])
/-- the same signs from a on and from b on -/
def sN (T : Int → Int) : Nat → Int → Int → Bool
  | 0, _, _ => true
  | k + 1, a, b => decide (T a = T b) && sN T k (a + 1) (b + 1)
def nQ (T : Int → Int) (a b c d : Int) : Bool := decide (b - a = d - c) && sN T (b - a).toNat a c
abbrev Xe : Type := Int × Int × Int × Int × Int × Int
abbrev Xa : Type := Int × Int × Int × Int
abbrev Xs : Type := List Xe × List Xa × List (Int × Int)
def e6 : Xe := (0, 0, 0, 0, 0, 0)
def a4 : Xa := (0, 0, 0, 0)
/-- the last element gets another attribute; its text begins -/
def up1 (l : List Xe) : List Xe := l.dropLast ++ [((l.getLastD e6).1, (l.getLastD e6).2.1, (l.getLastD e6).2.2.1, (l.getLastD e6).2.2.2.1, (l.getLastD e6).2.2.2.2.1 + 1, (l.getLastD e6).2.2.2.2.2)]
def up2 (l : List Xe) (t : Int) : List Xe := l.dropLast ++ [((l.getLastD e6).1, (l.getLastD e6).2.1, (l.getLastD e6).2.2.1, (l.getLastD e6).2.2.2.1, (l.getLastD e6).2.2.2.2.1, t)]
def rAt (T : Int → Int) (s : Xs) (af : Nat) (p : Int) : Option (Xs × Int) :=
  if (s.2.1.drop af).any (fun a => nQ T a.1 a.2.1 p (rNm T p)) then none
  else if T (rNm T p) = 61 ∧ (T (rNm T p + 1) = 34 ∨ T (rNm T p + 1) = 39) then (match xV T (T (rNm T p + 1)) 3001 (rNm T p + 2) [] with
    | none => none
    | some r => some ((up1 s.1, s.2.1 ++ [(p, rNm T p, (s.2.2.length : Int), (s.2.2.length : Int) + (r.1.length : Int))], s.2.2 ++ r.1.map (fun u => (u, -2))), r.2))
  else none
def ats (T : Int → Int) (af : Nat) : Nat → Xs → Int → Option (Xs × Int)
  | 0, _, _ => none
  | k + 1, s, p => if p < rBl T p ∧ nBg (T (rBl T p)) then (match rAt T s af (rBl T p) with
    | none => none
    | some r => ats T af k r.1 r.2) else some (s, rBl T p)
/-- a tag that begins an element: behind it, and whether the element is open -/
def stg (T : Int → Int) (s : Xs) (p par : Int) : Option (Xs × Int × Bool) :=
  if nBg (T (p + 1)) then (match ats T s.2.1.length 3001 (s.1 ++ [(p, rNm T (p + 1), par, (s.2.1.length : Int), 0, 0)], s.2.1, s.2.2) (rNm T (p + 1)) with
    | none => none
    | some r => if T r.2 = 62 then some ((up2 r.1.1 r.1.2.2.length, r.1.2), r.2 + 1, true) else if T r.2 = 47 ∧ T (r.2 + 1) = 62 then some ((up2 r.1.1 r.1.2.2.length, r.1.2), r.2 + 2, false) else none)
  else none
def etg (T : Int → Int) (p : Int) (e : Xe) : Option Int := if nQ T (e.1 + 1) e.2.1 (p + 2) (rNm T (p + 2)) then (if T (rBl T (rNm T (p + 2))) = 62 then some (rBl T (rNm T (p + 2)) + 1) else none) else none
def cme (T : Int → Int) : Nat → Int → Option Int
  | 0, _ => none
  | k + 1, p => if T p = -1 then none else if T p = 45 ∧ T (p + 1) = 45 then (if T (p + 2) = 62 then some (p + 3) else none) else cme T k (p + 1)
def cda (T : Int → Int) : Nat → Int → List Int → Option (List Int × Int)
  | 0, _, _ => none
  | k + 1, p, l => if T p = -1 then none else if T p = 93 ∧ T (p + 1) = 93 ∧ T (p + 2) = 62 then some (l, p + 3) else cda T k (p + 1) (l ++ [T p])
/-- within the root -/
def prs (T : Int → Int) : Nat → Xs → Int → Int → Int → Option (Xs × Int)
  | 0, _, _, _, _ => none
  | k + 1, s, p, o, d =>
    if T p = -1 then none
    else if ¬ T p = 60 then (match dec T p with
      | none => none
      | some r => prs T k (s.1, s.2.1, s.2.2 ++ [(r.1, o)]) r.2 o d)
    else if T (p + 1) = 47 then (match etg T p (s.1.getD o.toNat e6) with
      | none => none
      | some q => if (s.1.getD o.toNat e6).2.2.1 < 0 then some (s, q) else prs T k s q (s.1.getD o.toNat e6).2.2.1 (d - 1))
    else if cm T (p + 1) [33, 45, 45] then (match cme T 3001 (p + 4) with
      | none => none
      | some q => prs T k s q o d)
    else if cm T (p + 1) [33, 91, 67, 68, 65, 84, 65, 91] then (match cda T 3001 (p + 9) [] with
      | none => none
      | some r => prs T k (s.1, s.2.1, s.2.2 ++ r.1.map (fun u => (u, o))) r.2 o d)
    else if 200 ≤ s.1.length ∨ 40 ≤ d then none
    else (match stg T s p o with
      | none => none
      | some r => if r.2.2 then prs T k r.1 r.2.1 (s.1.length : Int) (d + 1) else prs T k r.1 r.2.1 o d)
def pX (T : Int → Int) : Option Xs :=
  if T (rBl T 0) = 60 then (match stg T ([], [], []) (rBl T 0) (-1) with
    | none => none
    | some r => if r.2.2 then (match prs T 3001 r.1 r.2.1 0 1 with
      | none => none
      | some z => if T (rBl T z.2) = -1 then some z.1 else none) else if T (rBl T r.2.1) = -1 then some r.1 else none)
  else none

