/-! WHETHER TWO GRAPHS ARE THE SAME, purely: e the objects of the first, h those of the second; ck: classes are compared when a pair is queued -/
abbrev Pq : Type := List (Int × Int)
def prX (ck : Bool) (e : Env) (h : Hs) (Q : Pq) (a b : Int) : Option Pq :=
  if a = -2 ∨ b = -2 then (if a = b then some Q else none)
  else if Q.any (fun q => decide (q.1 = a ∨ q.2 = b)) = true then (if (a, b) ∈ Q then some Q else none)
  else if ck = true ∧ ¬ eK e a = h.2.1 b then none else some (Q ++ [(a, b)])
def ceX (ck : Bool) (e : Env) (h : Hs) (a b f : Int) : Nat → Int → Pq → Option Pq
  | 0, _, Q => some Q
  | k + 1, i, Q => match prX ck e h Q (eP e a f i) (h.2.2.2 b f i) with
    | none => none
    | some Q' => ceX ck e h a b f k (i + 1) Q'
def txX (e : Env) (h : Hs) (a b f : Int) : Nat → Int → Bool
  | 0, _ => true
  | k + 1, i => decide (eP e a f i = h.2.2.2 b f i) && txX e h a b f k (i + 1)
def flX (ck : Bool) (e : Env) (h : Hs) (a b f : Int) (Q : Pq) : Option Pq :=
  if eD e (eK e a) f = 2 then prX ck e h Q (eV e a f) (h.2.2.1 b f)
  else if ¬ eV e a f = h.2.2.1 b f then none
  else if eD e (eK e a) f = 1 then (if txX e h a b f (eV e a f).toNat 0 = true then some Q else none)
  else if eD e (eK e a) f = 3 then ceX ck e h a b f (eV e a f).toNat 0 Q
  else some Q
def fsX (ck : Bool) (e : Env) (h : Hs) (a b : Int) : Nat → Int → Pq → Option Pq
  | 0, _, Q => some Q
  | k + 1, f, Q => match flX ck e h a b f Q with
    | none => none
    | some Q' => fsX ck e h a b k (f + 1) Q'
def arX (ck : Bool) (e : Env) (h : Hs) (a b : Int) (Q : Pq) : Option Pq := if eK e a = h.2.1 b then fsX ck e h a b (eF e (eK e a)).toNat 0 Q else none
def lpX (ck : Bool) (e : Env) (h : Hs) : Nat → Nat → Pq → Bool
  | 0, _, _ => true
  | m + 1, k, Q => if k < Q.length then (match arX ck e h (Q.getD k (0, 0)).1 (Q.getD k (0, 0)).2 Q with
    | none => false
    | some Q' => lpX ck e h m (k + 1) Q') else true
def smX (ck : Bool) (e : Env) (h : Hs) (a : Int) : Bool := match prX ck e h [] a 0 with
  | none => false
  | some Q => lpX ck e h 31 0 Q
/-- pairs of objects, each at most once -/
def QI (e : Env) (h : Hs) (Q : Pq) : Prop := (∀ q ∈ Q, (0 ≤ q.1 ∧ q.1 < eN e) ∧ 0 ≤ q.2 ∧ q.2 < h.1) ∧ ∀ i j : Nat, i < Q.length → j < Q.length → ((Q.getD i (0, 0)).1 = (Q.getD j (0, 0)).1 ∨ (Q.getD i (0, 0)).2 = (Q.getD j (0, 0)).2) → i = j
/-- what a reference or a list's cell may be -/
def tgV (N v : Int) : Prop := v = -2 ∨ (0 ≤ v ∧ v < N)
section YA
variable {e : Env} {h : Hs} {Q Q' : Pq} {a b f i : Int} {ck : Bool}
theorem getD_mem {α : Type} {l : List α} {d : α} {i : Nat} (hi : i < l.length) : l.getD i d ∈ l := by
  rw [List.getD_eq_getElem?_getD, List.getElem?_eq_getElem hi]
  exact List.getElem_mem hi
theorem mem_getD {α : Type} {l : List α} {d x : α} (hx : x ∈ l) : ∃ i, i < l.length ∧ l.getD i d = x := by
  obtain ⟨i, hi, rfl⟩ := List.getElem_of_mem hx
  exact ⟨i, hi, by rw [List.getD_eq_getElem?_getD, List.getElem?_eq_getElem hi]; rfl⟩
theorem QI.new (hQ : QI e h Q) (ha : 0 ≤ a ∧ a < eN e) (hb : 0 ≤ b ∧ b < h.1) (hn : ¬ Q.any (fun q => decide (q.1 = a ∨ q.2 = b)) = true) : QI e h (Q ++ [(a, b)]) := by
  have hn' : ∀ i : Nat, i < Q.length → ¬ ((Q.getD i (0, 0)).1 = a ∨ (Q.getD i (0, 0)).2 = b) := fun i hi w => hn (List.any_eq_true.mpr ⟨_, getD_mem (d := (0, 0)) hi, decide_eq_true w⟩)
  refine ⟨fun q hq => ?_, fun i j hi hj hij => ?_⟩
  · rcases List.mem_append.mp hq with hq | hq
    · exact hQ.1 q hq
    · rcases List.mem_cons.mp hq with rfl | hq
      · exact ⟨ha, hb⟩
      · cases hq
  · rw [len1] at hi hj
    by_cases ci : i = Q.length
    · by_cases cj : j = Q.length
      · omega
      · rw [gD_r ci, gD_l (by omega)] at hij
        exact absurd (hij.imp (fun w => w.symm) (fun w => w.symm)) (hn' j (by omega))
    · by_cases cj : j = Q.length
      · rw [gD_r cj, gD_l (by omega)] at hij
        exact absurd hij (hn' i (by omega))
      · rw [gD_l (by omega), gD_l (by omega)] at hij
        exact hQ.2 i j (by omega) (by omega) hij
theorem prX_ok (hQ : QI e h Q) (ha : tgV (eN e) a) (hb : tgV h.1 b) (q : prX ck e h Q a b = some Q') : QI e h Q' ∧ (∃ R, Q' = Q ++ R) := by
  unfold prX at q
  by_cases c1 : a = -2 ∨ b = -2
  · rw [if_pos c1] at q
    by_cases c2 : a = b
    · rw [if_pos c2] at q
      injection q with q
      rw [← q]
      exact ⟨hQ, [], by rw [List.append_nil]⟩
    · rw [if_neg c2] at q
      cases q
  · rw [if_neg c1] at q
    by_cases c2 : Q.any (fun q => decide (q.1 = a ∨ q.2 = b)) = true
    · rw [if_pos c2] at q
      by_cases c3 : (a, b) ∈ Q
      · rw [if_pos c3] at q
        injection q with q
        rw [← q]
        exact ⟨hQ, [], by rw [List.append_nil]⟩
      · rw [if_neg c3] at q
        cases q
    · rw [if_neg c2] at q
      by_cases c3 : ck = true ∧ ¬ eK e a = h.2.1 b
      · rw [if_pos c3] at q
        cases q
      · rw [if_neg c3] at q
        injection q with q
        rw [← q]
        exact ⟨hQ.new (ha.resolve_left (fun w => c1 (Or.inl w))) (hb.resolve_left (fun w => c1 (Or.inr w))) c2, _, rfl⟩
end YA

