/-! WHAT ELEMENTS MEAN, purely: T the text, X its elements, attributes and signs; a state is an Env (its objects are those that are read) and a table: 0 role, 1 object, 2 field, 3 place, 4 id of an element; 5 whether a field was told -/
def gE (X : Xs) (e : Int) : Xe := X.1.getD e.toNat e6
def gAt (X : Xs) (a : Int) : Xa := X.2.1.getD a.toNat a4
def sgV (X : Xs) (i : Int) : Int := if 0 ≤ i ∧ i < X.2.2.length then (X.2.2.getD i.toNat (0, 0)).1 else -1
def sbT (T : Int → Int) (a b : Int) : List Int := catF (fun j => [T j]) (b - a).toNat a
def nmE (T : Int → Int) (X : Xs) (e : Int) : List Int := sbT T ((gE X e).1 + 1) (gE X e).2.1
def kyA (T : Int → Int) (X : Xs) (a : Int) : List Int := sbT T (gAt X a).1 (gAt X a).2.1
def vlA (X : Xs) (a : Int) : List Int := sbT (sgV X) (gAt X a).2.2.1 (gAt X a).2.2.2
def txE (X : Xs) (e : Int) : List Int := (X.2.2.filter (fun u => decide (u.2 = e))).map (fun u => u.1)
def xPr (X : Xs) (e : Int) : Int := (gE X e).2.2.1
def xAf (X : Xs) (e : Int) : Int := (gE X e).2.2.2.1
def xAc (X : Xs) (e : Int) : Int := (gE X e).2.2.2.2.1
def xKd (X : Xs) (e : Int) : Bool := X.1.any (fun x => decide (x.2.2.1 = e))
def xSd (X : Xs) (e : Int) : Bool := X.2.2.any (fun u => decide (u.2 = e ∧ ¬ isBl u.1))
abbrev ywC : List Int := [99, 108, 97, 115, 115]
abbrev ywI : List Int := [105, 100]
abbrev ywR : List Int := [114, 101, 102, 101, 114, 101, 110, 99, 101]
def fnd (P : Int → Bool) : Nat → Int → Int
  | 0, _ => -1
  | k + 1, i => if P i = true then i else fnd P k (i + 1)
def atN (T : Int → Int) (X : Xs) (e : Int) (w : List Int) : Int := fnd (fun a => decide (kyA T X a = w)) (xAc X e).toNat (xAf X e)
def clF (e : Env) (L : List Int) : Int := fnd (fun c => decide (eL e c = L)) (eC e).toNat 0
def clN (e : Env) (fb : Int → Int) (L : List Int) : Int := if clF e L = -1 ∨ ¬ fb (clF e L) = 0 then -1 else clF e L
def isA (e : Env) (c f : Int) : Int := if eD e c f ≤ 1 ∧ eM e c f = 1 then 1 else 0
def fdN (e : Env) (a c : Int) (L : List Int) : Int := fnd (fun f => decide (isA e c f = a ∧ eL e (6 + c * 4 + f) = L)) (eF e c).toNat 0
def imp (e : Env) (c : Int) : Int := fnd (fun f => decide (eD e c f = 3 ∧ eM e c f = 1)) (eF e c).toNat 0
abbrev Hs : Type := Int × (Int → Int) × (Int → Int → Int) × (Int → Int → Int → Int)
abbrev Mm : Type := Hs × (Nat → Int → Int)
def zS (M : Mm) (t : Nat) (i x : Int) : Mm := (M.1, fun t' i' => if t' = t ∧ i' = i then x else M.2 t' i')
def zV (h : Hs) (o f x : Int) : Hs := (h.1, h.2.1, fun a b => if a = o ∧ b = f then x else h.2.2.1 a b, h.2.2.2)
def zC (h : Hs) (o f i x : Int) : Hs := (h.1, h.2.1, h.2.2.1, fun a b c => if a = o ∧ b = f ∧ c = i then x else h.2.2.2 a b c)
def zA (h : Hs) (o f x : Int) : Hs := zC (zV h o f (h.2.2.1 o f + 1)) o f (h.2.2.1 o f) x
def zB (e : Env) (h : Hs) (c : Int) : Hs := (h.1 + 1, fun a => if a = h.1 then c else h.2.1 a, fun a b => if a = h.1 then (if eD e c b = 2 then -2 else 0) else h.2.2.1 a b, h.2.2.2)
def zT (h : Hs) (o f : Int) (L : List Int) : Hs := (h.1, h.2.1, fun a b => if a = o ∧ b = f then (L.length : Int) else h.2.2.1 a b, fun a b c => if a = o ∧ b = f ∧ 0 ≤ c ∧ c < L.length then L.getD c.toNat 0 else h.2.2.2 a b c)
def nvL : List Int → Int → Option Int
  | [], v => some v
  | u :: l, v => if isDg u then nvL l (v * 10 + u - 48) else none
def nm2 (D : List Int) (neg : Bool) : Option Int := if D.length = 0 ∨ 10 < D.length then none else match nvL D 0 with
  | none => none
  | some v => if rng (if neg = true then -v else v) then some (if neg = true then -v else v) else none
def nmV (L : List Int) : Option Int := match L with
  | [] => none
  | u :: l => if u = 45 then nm2 l true else nm2 (u :: l) false
def idV (L : List Int) : Int := if L.length = 0 ∨ 4 < L.length ∨ L.headD 0 = 48 then 0 else (nvL L 0).getD 0
def fil (e : Env) (h : Hs) (o f : Int) (L : List Int) : Option Hs :=
  if eD e (h.2.1 o) f = 0 then (match nmV L with
    | none => none
    | some v => some (zV h o f v))
  else if L.length ≤ 20 ∧ (∀ u ∈ L, 32 ≤ u) then some (zT h o f L) else none
def wId (M : Mm) (m : Nat) (v : Int) : Int := if v = 0 then -1 else fnd (fun k => decide (M.2 4 k = v)) m 0
def atO (e : Env) (T : Int → Int) (X : Xs) (M : Mm) (x a : Int) : Option Mm :=
  if kyA T X a = ywC then (if M.2 2 x = -1 then none else some M)
  else if kyA T X a = ywI then (if idV (vlA X a) = 0 ∨ ¬ wId M X.1.length (idV (vlA X a)) = -1 then none else some (zS M 4 x (idV (vlA X a))))
  else if fdN e 1 (M.1.2.1 (M.2 1 x)) (kyA T X a) = -1 then none
  else (match fil e M.1 (M.2 1 x) (fdN e 1 (M.1.2.1 (M.2 1 x)) (kyA T X a)) (vlA X a) with
    | none => none
    | some h => some (h, M.2))
def atS (e : Env) (T : Int → Int) (X : Xs) (x : Int) : Nat → Mm → Int → Option Mm
  | 0, M, _ => some M
  | k + 1, M, a => match atO e T X M x a with
    | none => none
    | some M' => atS e T X x k M' (a + 1)
def tkR (M : Mm) (x r o f p : Int) : Mm := zS (zS (zS (zS M 0 x r) 1 x o) 2 x f) 3 x p
def bgM (e : Env) (M : Mm) (x c f : Int) : Option Mm := if c = -1 ∨ ¬ M.1.1 < 30 then none else some (tkR (zB e M.1 c, M.2) x 1 M.1.1 f (-1))
def sdO (e : Env) (T : Int → Int) (X : Xs) (M : Mm) (x : Int) : Option Mm := if xSd X x = true then none else atS e T X x (xAc X x).toNat M (xAf X x)
/-- where an element is placed: in a list, as a field's target, in a field, in an object -/
def inL (e : Env) (T : Int → Int) (X : Xs) (fb : Int → Int) (M : Mm) (x o f : Int) : Option Mm :=
  if clN e fb (nmE T X x) = -1 ∨ ¬ M.1.2.2.1 o f < 8 then none
  else if atN T X x ywR = -1 then (match bgM e (zA M.1 o f (-2), M.2) x (clN e fb (nmE T X x)) (-1) with
    | none => none
    | some M' => some (zC M'.1 o f (M.1.2.2.1 o f) M.1.1, M'.2))
  else some (tkR (zA M.1 o f (-2), M.2) x 4 o f (M.1.2.2.1 o f))
def inT (e : Env) (T : Int → Int) (X : Xs) (fb : Int → Int) (M : Mm) (x o f : Int) : Option Mm :=
  if ¬ atN T X x ywR = -1 then some (tkR M x 4 o f (-1))
  else if atN T X x ywC = -1 then none
  else (match bgM e M x (clN e fb (vlA X (atN T X x ywC))) f with
    | none => none
    | some M' => some (zV M'.1 o f M.1.1, M'.2))
def inF (e : Env) (T : Int → Int) (X : Xs) (fb : Int → Int) (M : Mm) (x o f : Int) : Option Mm :=
  if eD e (M.1.2.1 o) f = 2 then inT e T X fb M x o f
  else some (tkR M x (if eD e (M.1.2.1 o) f = 3 then 2 else 3) o f (-1))
def inO (e : Env) (T : Int → Int) (X : Xs) (fb : Int → Int) (M : Mm) (x o : Int) : Option Mm :=
  if fdN e 0 (M.1.2.1 o) (nmE T X x) = -1 then (if imp e (M.1.2.1 o) = -1 then none else inL e T X fb M x o (imp e (M.1.2.1 o)))
  else if fdN e 0 (M.1.2.1 o) (nmE T X x) = imp e (M.1.2.1 o) ∨ M.2 5 (o * 4 + fdN e 0 (M.1.2.1 o) (nmE T X x)) = 1 then none
  else inF e T X fb (zS M 5 (o * 4 + fdN e 0 (M.1.2.1 o) (nmE T X x)) 1) x o (fdN e 0 (M.1.2.1 o) (nmE T X x))
def plM (e : Env) (T : Int → Int) (X : Xs) (fb : Int → Int) (M : Mm) (x : Int) : Option Mm :=
  if xPr X x < 0 then bgM e M x (clN e fb (nmE T X x)) (-1)
  else if M.2 0 (xPr X x) = 1 then inO e T X fb M x (M.2 1 (xPr X x))
  else if M.2 0 (xPr X x) = 2 then inL e T X fb M x (M.2 1 (xPr X x)) (M.2 2 (xPr X x))
  else some (zS M 0 x 5)
/-- and whether it is sound there -/
def sdM (e : Env) (T : Int → Int) (X : Xs) (M : Mm) (x : Int) : Option Mm :=
  if M.2 0 x = 1 then sdO e T X M x
  else if M.2 0 x = 2 then (if xSd X x = true ∨ ¬ xAc X x = 0 then none else some M)
  else if M.2 0 x = 3 then (if ¬ xAc X x = 0 ∨ xKd X x = true then none else match fil e M.1 (M.2 1 x) (M.2 2 x) (txE X x) with
    | none => none
    | some h => some (h, M.2))
  else some M
def stM (e : Env) (T : Int → Int) (X : Xs) (fb : Int → Int) (M : Mm) (x : Int) : Option Mm := match plM e T X fb M x with
  | none => none
  | some M' => sdM e T X M' x
def rn1 (e : Env) (T : Int → Int) (X : Xs) (fb : Int → Int) : Nat → Mm → Int → Option Mm
  | 0, M, _ => some M
  | k + 1, M, x => match stM e T X fb M x with
    | none => none
    | some M' => rn1 e T X fb k M' (x + 1)
/-- ways: where u stands first from a up to b; a rank behind [; the r-th child of a name -/
def plc (W : Int → Int) (u : Int) : Nat → Int → Int
  | 0, a => a
  | k + 1, a => if W a = u then a else plc W u k (a + 1)
def plO (W : Int → Int) (u a b : Int) : Int := plc W u (b - a).toNat a
def rkO (W : Int → Int) (a b : Int) : Int := if b - 1 ≤ a ∨ 3 < b - 1 - a ∨ ¬ W (b - 1) = 93 ∨ W a = 48 then 0 else if (nvL (sbT W a (b - 1)) 0).getD 0 = 1 then 0 else (nvL (sbT W a (b - 1)) 0).getD 0
def cnt (P : Int → Bool) : Nat → Int
  | 0 => 0
  | k + 1 => cnt P k + (if P (k : Int) = true then 1 else 0)
def ord (T : Int → Int) (X : Xs) (e : Int) : Int := cnt (fun j => decide (xPr X j = xPr X e ∧ nmE T X j = nmE T X e)) e.toNat + 1
def chd (T : Int → Int) (X : Xs) (p : Int) (L : List Int) (r : Int) : Int := fnd (fun k => decide (xPr X k = p ∧ nmE T X k = L ∧ ord T X k = r)) X.1.length 0
def dwn (T : Int → Int) (X : Xs) (b : Int) : Nat → Int → Int → Int
  | 0, e, _ => e
  | k + 1, e, a => if b < a then e else if chd T X e (sbT (sgV X) a (plO (sgV X) 91 a (plO (sgV X) 47 a b))) (if plO (sgV X) 91 a (plO (sgV X) 47 a b) = plO (sgV X) 47 a b then 1 else rkO (sgV X) (plO (sgV X) 91 a (plO (sgV X) 47 a b) + 1) (plO (sgV X) 47 a b)) = -1 then -2 else dwn T X b k (chd T X e (sbT (sgV X) a (plO (sgV X) 91 a (plO (sgV X) 47 a b))) (if plO (sgV X) 91 a (plO (sgV X) 47 a b) = plO (sgV X) 47 a b then 1 else rkO (sgV X) (plO (sgV X) 91 a (plO (sgV X) 47 a b) + 1) (plO (sgV X) 47 a b))) (plO (sgV X) 47 a b + 1)
def dwA (T : Int → Int) (X : Xs) (e a b : Int) : Int := dwn T X b 3001 e a
def upW (T : Int → Int) (X : Xs) (b : Int) : Nat → Int → Int → Int
  | 0, e, a => dwA T X e a b
  | k + 1, e, a => if a + 2 ≤ b ∧ sgV X a = 46 ∧ sgV X (a + 1) = 46 then (if xPr X e = -1 then -2 else if a + 2 = b then xPr X e else if sgV X (a + 2) = 47 then upW T X b k (xPr X e) (a + 3) else -2) else dwA T X e a b
def wyE (T : Int → Int) (X : Xs) (e a b : Int) : Int := if a < b ∧ sgV X a = 47 then dwA T X (-1) (a + 1) b else upW T X b 3001 e a
/-- what a reference leads to -/
def tgE (T : Int → Int) (X : Xs) (M : Mm) (e : Int) : Int :=
  if (gAt X (xAf X e)).2.2.1 < (gAt X (xAf X e)).2.2.2 ∧ isDg (sgV X (gAt X (xAf X e)).2.2.1) then wId M X.1.length (idV (vlA X (xAf X e)))
  else wyE T X e (gAt X (xAf X e)).2.2.1 (gAt X (xAf X e)).2.2.2
abbrev frm (X : Xs) (e : Int) : Prop := xAc X e = 1 ∧ xKd X e = false ∧ txE X e = []
def ldE (e : Env) (T : Int → Int) (X : Xs) (M : Mm) (x : Int) : Option Mm :=
  if ¬ frm X x then none
  else if tgE T X M x < 0 ∨ x ≤ tgE T X M x ∨ ¬ M.2 0 (tgE T X M x) = 1 then none
  else if M.2 3 x = -1 then some (zV M.1 (M.2 1 x) (M.2 2 x) (M.2 1 (tgE T X M x)), M.2)
  else if eL e (M.1.2.1 (M.2 1 (tgE T X M x))) = nmE T X x then some (zC M.1 (M.2 1 x) (M.2 2 x) (M.2 3 x) (M.2 1 (tgE T X M x)), M.2)
  else none
def rn2 (e : Env) (T : Int → Int) (X : Xs) : Nat → Mm → Int → Option Mm
  | 0, M, _ => some M
  | k + 1, M, x => if M.2 0 x = 4 then (match ldE e T X M x with
    | none => none
    | some M' => rn2 e T X k M' (x + 1)) else rn2 e T X k M (x + 1)
def m0 (e : Env) : Mm := ((0, eK e, eV e, eP e), fun _ _ => 0)
def mng (e : Env) (T : Int → Int) (X : Xs) (fb : Int → Int) : Option Mm := match rn1 e T X fb X.1.length (m0 e) 0 with
  | none => none
  | some M => rn2 e T X X.1.length M 0
/-! leaves of these -/
theorem any_getD {α : Type} {P : α → Bool} {d : α} : ∀ {l : List α}, l.any P = true ↔ ∃ i : Nat, i < l.length ∧ P (l.getD i d) = true
  | [] => ⟨fun q => (by cases q), fun ⟨i, hi, _⟩ => absurd hi (Nat.not_lt_zero _)⟩
  | a :: l => by
    rw [List.any_cons, Bool.or_eq_true, any_getD (d := d) (l := l)]
    refine ⟨fun q => ?_, fun ⟨i, hi, q⟩ => ?_⟩
    · rcases q with q | ⟨i, hi, q⟩
      · exact ⟨0, Nat.succ_pos _, q⟩
      · exact ⟨i + 1, Nat.succ_lt_succ hi, q⟩
    · cases i with
      | zero => exact Or.inl q
      | succ i => exact Or.inr ⟨i, Nat.lt_of_succ_lt_succ hi, q⟩
theorem xKd_iff {X : Xs} {e : Int} : xKd X e = true ↔ ∃ j : Nat, j < X.1.length ∧ (X.1.getD j e6).2.2.1 = e := by
  unfold xKd
  rw [any_getD (d := e6)]
  simp only [decide_eq_true_eq]
theorem xSd_iff {X : Xs} {e : Int} : xSd X e = true ↔ ∃ i : Nat, i < X.2.2.length ∧ (X.2.2.getD i (0, 0)).2 = e ∧ ¬ isBl (X.2.2.getD i (0, 0)).1 := by
  unfold xSd
  rw [any_getD (d := ((0, 0) : Int × Int))]
  simp only [decide_eq_true_eq]
theorem cat_iff {g h : Int → Int} : ∀ (n m : Nat) (i j : Int), (catF (fun x => [g x]) n i = catF (fun x => [h x]) m j ↔ n = m ∧ ∀ d : Nat, d < n → g (i + d) = h (j + d))
  | 0, 0, i, j => ⟨fun _ => ⟨rfl, fun d hd => absurd hd (Nat.not_lt_zero _)⟩, fun _ => rfl⟩
  | 0, m + 1, i, j => ⟨fun q => absurd q (by show ¬ ([] : List Int) = h j :: _; simp), fun q => absurd q.1 (by omega)⟩
  | n + 1, 0, i, j => ⟨fun q => absurd q (by show ¬ g i :: _ = ([] : List Int); simp), fun q => absurd q.1 (by omega)⟩
  | n + 1, m + 1, i, j => by
    show (g i :: catF (fun x => [g x]) n (i + 1) = h j :: catF (fun x => [h x]) m (j + 1)) ↔ _
    rw [List.cons.injEq, cat_iff n m (i + 1) (j + 1)]
    refine ⟨fun ⟨q1, q2, q3⟩ => ⟨by omega, fun d hd => ?_⟩, fun ⟨q1, q2⟩ => ⟨?_, by omega, fun d hd => ?_⟩⟩
    · cases d with
      | zero => rw [show i + ((0 : Nat) : Int) = i by omega, show j + ((0 : Nat) : Int) = j by omega]; exact q1
      | succ d =>
        have := q3 d (by omega)
        rw [show i + 1 + (d : Int) = i + ((d + 1 : Nat) : Int) by omega, show j + 1 + (d : Int) = j + ((d + 1 : Nat) : Int) by omega] at this
        exact this
    · have := q2 0 (by omega)
      rw [show i + ((0 : Nat) : Int) = i by omega, show j + ((0 : Nat) : Int) = j by omega] at this
      exact this
    · have := q2 (d + 1) (by omega)
      rw [show i + 1 + (d : Int) = i + ((d + 1 : Nat) : Int) by omega, show j + 1 + (d : Int) = j + ((d + 1 : Nat) : Int) by omega]
      exact this
theorem cat_eqL {g : Int → Int} : ∀ (n : Nat) (i : Int) (L : List Int), (catF (fun x => [g x]) n i = L ↔ n = L.length ∧ ∀ d : Nat, d < n → g (i + d) = L.getD d 0)
  | 0, i, [] => ⟨fun _ => ⟨rfl, fun d hd => absurd hd (Nat.not_lt_zero _)⟩, fun _ => rfl⟩
  | 0, i, u :: l => ⟨fun q => absurd q (by show ¬ ([] : List Int) = u :: l; simp), fun q => absurd q.1 (by rw [List.length_cons]; omega)⟩
  | n + 1, i, [] => ⟨fun q => absurd q (by show ¬ g i :: _ = ([] : List Int); simp), fun q => absurd q.1 (by rw [List.length_nil]; omega)⟩
  | n + 1, i, u :: l => by
    show (g i :: catF (fun x => [g x]) n (i + 1) = u :: l) ↔ _
    rw [List.cons.injEq, cat_eqL n (i + 1) l, List.length_cons]
    refine ⟨fun ⟨q1, q2, q3⟩ => ⟨by omega, fun d hd => ?_⟩, fun ⟨q1, q2⟩ => ⟨?_, by omega, fun d hd => ?_⟩⟩
    · cases d with
      | zero => rw [show i + ((0 : Nat) : Int) = i by omega]; exact q1
      | succ d =>
        have := q3 d (by omega)
        rw [show i + 1 + (d : Int) = i + ((d + 1 : Nat) : Int) by omega] at this
        exact this
    · have := q2 0 (by omega)
      rw [show i + ((0 : Nat) : Int) = i by omega] at this
      exact this
    · have := q2 (d + 1) (by omega)
      rw [show i + 1 + (d : Int) = i + ((d + 1 : Nat) : Int) by omega]
      exact this
theorem sbT_eq {T : Int → Int} {a b : Int} {L : List Int} : sbT T a b = L ↔ (b - a).toNat = L.length ∧ ∀ d : Nat, d < (b - a).toNat → T (a + d) = L.getD d 0 := cat_eqL _ _ _
theorem sbT_iff {T W : Int → Int} {a b c d : Int} (h1 : a ≤ b) (h2 : c ≤ d) : sbT T a b = sbT W c d ↔ b - a = d - c ∧ ∀ i, 0 ≤ i → i < b - a → T (a + i) = W (c + i) := by
  unfold sbT
  rw [cat_iff]
  refine ⟨fun ⟨q1, q2⟩ => ⟨by omega, fun i i0 i1 => ?_⟩, fun ⟨q1, q2⟩ => ⟨by omega, fun d hd => q2 d (by omega) (by omega)⟩⟩
  have := q2 i.toNat (by omega)
  rw [show ((i.toNat : Nat) : Int) = i by omega] at this
  exact this
theorem sbT_nil {T : Int → Int} {a b : Int} (h : b ≤ a) : sbT T a b = [] := by
  unfold sbT
  rw [show (b - a).toNat = 0 by omega]
  rfl
theorem sbT_cons {T : Int → Int} {a b : Int} (h : a < b) : sbT T a b = T a :: sbT T (a + 1) b := by
  unfold sbT
  rw [show (b - a).toNat = (b - (a + 1)).toNat + 1 by omega]
  rfl
theorem cat_len {g : Int → Int} : ∀ (n : Nat) (i : Int), (catF (fun x => [g x]) n i).length = n
  | 0, _ => rfl
  | n + 1, i => by
    show (g i :: catF (fun x => [g x]) n (i + 1)).length = _
    rw [List.length_cons, cat_len n (i + 1)]
theorem sbT_len {T : Int → Int} {a b : Int} : (sbT T a b).length = (b - a).toNat := cat_len _ _
theorem cat_get {g : Int → Int} : ∀ (n : Nat) (i : Int) (d : Nat), d < n → (catF (fun x => [g x]) n i).getD d 0 = g (i + d)
  | 0, _, _, h => absurd h (Nat.not_lt_zero _)
  | n + 1, i, 0, _ => by
    show (g i :: catF (fun x => [g x]) n (i + 1)).getD 0 0 = _
    rw [show i + ((0 : Nat) : Int) = i by omega]
    rfl
  | n + 1, i, d + 1, h => by
    show (g i :: catF (fun x => [g x]) n (i + 1)).getD (d + 1) 0 = _
    rw [List.getD_cons_succ, cat_get n (i + 1) d (by omega), show i + 1 + (d : Int) = i + ((d + 1 : Nat) : Int) by omega]
theorem sbT_get {T : Int → Int} {a b : Int} {d : Nat} (h : d < (b - a).toNat) : (sbT T a b).getD d 0 = T (a + d) := cat_get _ _ d h
theorem fnd_at {P : Int → Bool} {N l : Int} (h : l < N) : fnd P (N - l).toNat l = if P l = true then l else fnd P (N - (l + 1)).toNat (l + 1) := by
  rw [show (N - l).toNat = (N - (l + 1)).toNat + 1 by omega]
  rfl
theorem fnd_end {P : Int → Bool} {N l : Int} (h : N ≤ l) : fnd P (N - l).toNat l = -1 := by
  rw [show (N - l).toNat = 0 by omega]
  rfl
theorem fnd_or {P : Int → Bool} : ∀ (k : Nat) (i : Int), (fnd P k i = -1 ∧ ∀ j, i ≤ j → j < i + k → P j = false) ∨ (i ≤ fnd P k i ∧ fnd P k i < i + k ∧ P (fnd P k i) = true ∧ ∀ j, i ≤ j → j < fnd P k i → P j = false)
  | 0, i => Or.inl ⟨rfl, fun j h1 h2 => by omega⟩
  | k + 1, i => by
    unfold fnd
    by_cases h : P i = true
    · rw [if_pos h]
      exact Or.inr ⟨by omega, by omega, h, fun j h1 h2 => by omega⟩
    · rw [if_neg h]
      have h' : P i = false := by simpa using h
      rcases fnd_or (P := P) k (i + 1) with ⟨q1, q2⟩ | ⟨q1, q2, q3, q4⟩
      · refine Or.inl ⟨q1, fun j h1 h2 => ?_⟩
        by_cases e : j = i
        · rw [e]
          exact h'
        · exact q2 j (by omega) (by omega)
      · refine Or.inr ⟨by omega, by omega, q3, fun j h1 h2 => ?_⟩
        by_cases e : j = i
        · rw [e]
          exact h'
        · exact q4 j (by omega) h2

