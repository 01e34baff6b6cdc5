/-! WRITING WITH A TABLE OF ELEMENTS, as the model does: for each element its parent and its name; the rank is counted -/
def eR (e : Env) (k : Int) : List Int := e.2 (1000 + k)
/-- the signs, the ids, the elements of what was begun, the table, how many, whether it is too deep -/
abbrev Wt : Type := List Int × (Int → Int) × (Int → Int) × List (Int × Int) × Int × Int
def ptT (s : Wt) (l : List Int) : Wt := (s.1 ++ l, s.2)
def addT (s : Wt) (P k : Int) : Wt := (s.1, s.2.1, s.2.2.1, s.2.2.2.1 ++ [(P, k)], s.2.2.2.2)
def dppT (s : Wt) : Wt := (s.1, s.2.1, s.2.2.1, s.2.2.2.1, s.2.2.2.2.1, 1)
def bgnT (s : Wt) (o x : Int) : Wt := (s.1, fun y => if y = o ∧ ¬ 0 < s.2.1 o then s.2.2.2.2.1 + 1 else s.2.1 y, fun y => if y = o ∧ ¬ 0 < s.2.1 o then x else s.2.2.1 y, s.2.2.2.1, s.2.2.2.2.1 + 1, s.2.2.2.2.2)
def ctT (e : Env) (P k : Int) : List (Int × Int) → Int
  | [] => 0
  | q :: l => (if q.1 = P ∧ eR e q.2 = eR e k then 1 else 0) + ctT e P k l
def paT (t : List (Int × Int)) (x : Int) : Int := (t.getD x.toNat (-2, 0)).1
def nmT (t : List (Int × Int)) (x : Int) : Int := (t.getD x.toNat (-2, 0)).2
def rkT (e : Env) (t : List (Int × Int)) (x : Int) : Int := 1 + ctT e (paT t x) (nmT t x) (t.take x.toNat)
def ups (e : Env) (t : List (Int × Int)) : Nat → Int → Upl
  | 0, _ => []
  | n + 1, x => if x < 0 then [] else (x, x, nmT t x, rkT e t x) :: ups e t n (paT t x)
def uP (e : Env) (t : List (Int × Int)) (x : Int) : Upl := ups e t (x + 1).toNat x
def rfW (e : Env) (s : Wt) (o x : Int) : List Int := if eO e = 2 then num (s.2.1 o) else if eO e = 0 then way e (pOf (uP e s.2.2.2.1 x)) (pOf (uP e s.2.2.2.1 (s.2.2.1 o))) else pth e (pOf (uP e s.2.2.2.1 (s.2.2.1 o)))
def rfU (e : Env) (s : Wt) (o k x : Int) : List Int := [60] ++ eL e k ++ [32, 114, 101, 102, 101, 114, 101, 110, 99, 101, 61, 34] ++ rfW e s o x ++ [34, 47, 62]
abbrev RecT : Type := Int → Int → Int → Wt → Wt
def itsT (e : Env) (R : RecT) (o f P : Int) : Nat → Int → Wt → Wt
  | 0, _, s => s
  | n + 1, i, s => itsT e R o f P n (i + 1) (R (eP e o f i) P (eK e (eP e o f i)) s)
def conT (e : Env) (R : RecT) (o f X : Int) (s : Wt) : Wt :=
  if eD e (eK e o) f ≤ 1 then (if eM e (eK e o) f = 1 then s else if eD e (eK e o) f = 1 ∧ eV e o f = 0 then ptT (addT s X (nmF e o f)) ([60] ++ eL e (nmF e o f) ++ [47, 62]) else ptT (addT s X (nmF e o f)) ([60] ++ eL e (nmF e o f) ++ [62] ++ sgl e o f 0 ++ eTg e (nmF e o f)))
  else if eD e (eK e o) f = 2 then (if eV e o f = -2 then s else R (eV e o f) X (nmF e o f) s)
  else if eM e (eK e o) f = 1 then itsT e R o f X (eV e o f).toNat 0 s
  else if eV e o f = 0 then ptT (addT s X (nmF e o f)) ([60] ++ eL e (nmF e o f) ++ [47, 62])
  else ptT (itsT e R o f s.2.2.2.1.length (eV e o f).toNat 0 (ptT (addT s X (nmF e o f)) ([60] ++ eL e (nmF e o f) ++ [62]))) (eTg e (nmF e o f))
def cnsT (e : Env) (R : RecT) (o X : Int) : Nat → Int → Wt → Wt
  | 0, _, s => s
  | n + 1, f, s => cnsT e R o X n (f + 1) (conT e R o f X s)
/-- an object is begun: its element behind the others, its start tag -/
def begT (e : Env) (s : Wt) (o P k : Int) : Wt := ptT (bgnT (addT s P k) o s.2.2.2.1.length) (sTg e o k (s.2.2.2.2.1 + 1))
def ElT (e : Env) : Nat → RecT
  | 0 => fun o P k s => if s.2.2.2.2.2 = 1 ∨ 3000 < s.1.length then s else if ¬ eO e = 3 ∧ 0 < s.2.1 o then ptT (addT s P k) (rfU e (addT s P k) o k s.2.2.2.1.length) else dppT s
  | n + 1 => fun o P k s => if s.2.2.2.2.2 = 1 ∨ 3000 < s.1.length then s else if ¬ eO e = 3 ∧ 0 < s.2.1 o then ptT (addT s P k) (rfU e (addT s P k) o k s.2.2.2.1.length)
    else if hCo e o (eF e (eK e o)).toNat 0 then ptT (cnsT e (ElT e n) o s.2.2.2.1.length (eF e (eK e o)).toNat 0 (ptT (begT e s o P k) [62])) (eTg e k)
    else ptT (begT e s o P k) [47, 62]
/-- what is too long stays so, and isn't too deep -/
def St3 (s s' : Wt) : Prop := 3000 < s.1.length → 3000 < s'.1.length ∧ s'.2.2.2.2.2 = s.2.2.2.2.2
theorem St3.rf {s : Wt} : St3 s s := fun h => ⟨h, rfl⟩
theorem St3.tr {s s1 s2 : Wt} (h : St3 s s1) (k : St3 s1 s2) : St3 s s2 := fun q => ⟨(k (h q).1).1, (k (h q).1).2.trans (h q).2⟩
theorem St3.pt {s s1 : Wt} {l : List Int} (h : St3 s s1) : St3 s (ptT s1 l) := fun q => ⟨by show 3000 < (s1.1 ++ l).length; rw [List.length_append]; have := (h q).1; omega, (h q).2⟩
theorem ElT_st {e : Env} {n : Nat} {o P k : Int} {s : Wt} : St3 s (ElT e n o P k s) := fun h => by
  cases n with
  | zero =>
    unfold ElT
    rw [if_pos (Or.inr h)]
    exact ⟨h, rfl⟩
  | succ n =>
    unfold ElT
    rw [if_pos (Or.inr h)]
    exact ⟨h, rfl⟩
theorem itsT_st {e : Env} {m : Nat} {o f P : Int} : ∀ (n : Nat) (i : Int) (s : Wt), St3 s (itsT e (ElT e m) o f P n i s)
  | 0, i, s => St3.rf
  | n + 1, i, s => St3.tr ElT_st (itsT_st n (i + 1) _)
theorem addT_st {s : Wt} {P k : Int} : St3 s (addT s P k) := fun h => ⟨h, rfl⟩
theorem conT_st {e : Env} {m : Nat} {o f X : Int} {s : Wt} : St3 s (conT e (ElT e m) o f X s) := by
  unfold conT
  split
  · split
    · exact St3.rf
    · split <;> exact addT_st.pt
  · split
    · split
      · exact St3.rf
      · exact ElT_st
    · split
      · exact itsT_st _ _ s
      · split
        · exact addT_st.pt
        · exact (addT_st.pt.tr (itsT_st _ _ _)).pt
theorem cnsT_st {e : Env} {m : Nat} {o X : Int} : ∀ (n : Nat) (f : Int) (s : Wt), St3 s (cnsT e (ElT e m) o X n f s)
  | 0, f, s => St3.rf
  | n + 1, f, s => St3.tr conT_st (cnsT_st n (f + 1) _)
theorem itsT_succ {e : Env} {R : RecT} {o f P n i : Int} {s : Wt} (h : i < n) : itsT e R o f P (n - i).toNat i s = itsT e R o f P (n - (i + 1)).toNat (i + 1) (R (eP e o f i) P (eK e (eP e o f i)) s) := by
  rw [show (n - i).toNat = (n - (i + 1)).toNat + 1 by omega]
  rfl
theorem itsT_end {e : Env} {R : RecT} {o f P n i : Int} {s : Wt} (h : n ≤ i) : itsT e R o f P (n - i).toNat i s = s := by
  rw [show (n - i).toNat = 0 by omega]
  rfl
theorem cnsT_succ {e : Env} {R : RecT} {o X n f : Int} {s : Wt} (h : f < n) : cnsT e R o X (n - f).toNat f s = cnsT e R o X (n - (f + 1)).toNat (f + 1) (conT e R o f X s) := by
  rw [show (n - f).toNat = (n - (f + 1)).toNat + 1 by omega]
  rfl
theorem cnsT_end {e : Env} {R : RecT} {o X n f : Int} {s : Wt} (h : n ≤ f) : cnsT e R o X (n - f).toNat f s = s := by
  rw [show (n - f).toNat = 0 by omega]
  rfl
theorem ptT_ptT (s : Wt) (l m : List Int) : ptT (ptT s l) m = ptT s (l ++ m) := by
  unfold ptT
  rw [List.append_assoc]
/-- a frame of the model's stack: object, element, name, field, item, the list's element -/
abbrev Fm : Type := Int × Int × Int × Int × Int × Int
/-- what is left to do of a frame -/
def rsF (e : Env) (n : Nat) (q : Fm) (s : Wt) : Wt :=
  if q.2.2.2.2.1 = 0 then cnsT e (ElT e n) q.1 q.2.1 (eF e (eK e q.1) - q.2.2.2.1).toNat q.2.2.2.1 s
  else cnsT e (ElT e n) q.1 q.2.1 (eF e (eK e q.1) - (q.2.2.2.1 + 1)).toNat (q.2.2.2.1 + 1) (if eM e (eK e q.1) q.2.2.2.1 = 1 then itsT e (ElT e n) q.1 q.2.2.2.1 q.2.1 (eV e q.1 q.2.2.2.1 - q.2.2.2.2.1).toNat q.2.2.2.2.1 s else ptT (itsT e (ElT e n) q.1 q.2.2.2.1 q.2.2.2.2.2 (eV e q.1 q.2.2.2.1 - q.2.2.2.2.1).toNat q.2.2.2.2.1 s) (eTg e (nmF e q.1 q.2.2.2.1)))
def fnS (e : Env) (m : Int) : List Fm → Wt → Wt
  | [], s => s
  | q :: l, s => fnS e m l (ptT (rsF e (m - (l.length + 1)).toNat q s) (eTg e q.2.2.1))
theorem fnS_cons {e : Env} {m : Int} {q : Fm} {l : List Fm} {s : Wt} : fnS e m (q :: l) s = fnS e m l (ptT (rsF e (m - (l.length + 1)).toNat q s) (eTg e q.2.2.1)) := rfl
theorem rsF_0 {e : Env} {n : Nat} {o x k f L : Int} {s : Wt} : rsF e n (o, x, k, f, 0, L) s = cnsT e (ElT e n) o x (eF e (eK e o) - f).toNat f s := by
  unfold rsF
  exact if_pos rfl
theorem rsF_i {e : Env} {n : Nat} {o x k f i L : Int} {s : Wt} (h : ¬ i = 0) : rsF e n (o, x, k, f, i, L) s = cnsT e (ElT e n) o x (eF e (eK e o) - (f + 1)).toNat (f + 1) (if eM e (eK e o) f = 1 then itsT e (ElT e n) o f x (eV e o f - i).toNat i s else ptT (itsT e (ElT e n) o f L (eV e o f - i).toNat i s) (eTg e (nmF e o f))) := by
  unfold rsF
  exact if_neg h
theorem rsF_st {e : Env} {n : Nat} {q : Fm} {s : Wt} : St3 s (rsF e n q s) := by
  unfold rsF
  split
  · exact cnsT_st _ _ s
  · split
    · exact (itsT_st _ _ s).tr (cnsT_st _ _ _)
    · exact (itsT_st _ _ s).pt.tr (cnsT_st _ _ _)
theorem fnS_st {e : Env} {m : Int} : ∀ (l : List Fm) (s : Wt), St3 s (fnS e m l s)
  | [], s => St3.rf
  | q :: l, s => (St3.pt rsF_st).tr (fnS_st l _)
/-- too deep stays too deep -/
def Dp3 (s s' : Wt) : Prop := s.2.2.2.2.2 = 1 → s'.2.2.2.2.2 = 1
theorem ElT_dp {e : Env} {n : Nat} {o P k : Int} {s : Wt} : Dp3 s (ElT e n o P k s) := fun h => by
  cases n with
  | zero =>
    unfold ElT
    rw [if_pos (Or.inl h)]
    exact h
  | succ n =>
    unfold ElT
    rw [if_pos (Or.inl h)]
    exact h
theorem itsT_dp {e : Env} {m : Nat} {o f P : Int} : ∀ (n : Nat) (i : Int) (s : Wt), Dp3 s (itsT e (ElT e m) o f P n i s)
  | 0, i, s => fun h => h
  | n + 1, i, s => fun h => itsT_dp n (i + 1) _ (ElT_dp h)
theorem conT_dp {e : Env} {m : Nat} {o f X : Int} {s : Wt} : Dp3 s (conT e (ElT e m) o f X s) := fun h => by
  unfold conT
  split
  · split
    · exact h
    · split <;> exact h
  · split
    · split
      · exact h
      · exact ElT_dp h
    · split
      · exact itsT_dp _ _ s h
      · split
        · exact h
        · exact itsT_dp _ _ (ptT (addT s X (nmF e o f)) ([60] ++ eL e (nmF e o f) ++ [62])) h
theorem cnsT_dp {e : Env} {m : Nat} {o X : Int} : ∀ (n : Nat) (f : Int) (s : Wt), Dp3 s (cnsT e (ElT e m) o X n f s)
  | 0, f, s => fun h => h
  | n + 1, f, s => fun h => cnsT_dp n (f + 1) _ (conT_dp h)
theorem rsF_dp {e : Env} {n : Nat} {q : Fm} {s : Wt} : Dp3 s (rsF e n q s) := fun h => by
  unfold rsF
  split
  · exact cnsT_dp _ _ s h
  · refine cnsT_dp _ _ _ ?_
    split
    · exact itsT_dp _ _ s h
    · exact itsT_dp _ _ s h
theorem fnS_dp {e : Env} {m : Int} : ∀ (l : List Fm) (s : Wt), Dp3 s (fnS e m l s)
  | [], s => fun h => h
  | q :: l, s => fun h => fnS_dp l _ (rsF_dp (e := e) h)

