/-! OVER THE INTEGERS: an int of the machine is Int32.ofInt of an integer; sums and products need no bound, comparisons do. -/
abbrev rng (x : Int) : Prop := -2147483648 ≤ x ∧ x < 2147483648
abbrev rngL (x : Int) : Prop := -9223372036854775808 ≤ x ∧ x < 9223372036854775808
theorem rng_toInt {x : Int} (h : rng x) : (Int32.ofInt x).toInt = x := Int32.toInt_ofInt_of_le h.1 h.2
theorem rngL_toInt {x : Int} (h : rngL x) : (Int64.ofInt x).toInt = x := Int64.toInt_ofInt_of_le h.1 h.2
theorem rng_of (x : Int32) : rng x.toInt := ⟨Int32.le_toInt x, Int32.toInt_lt x⟩
theorem oI_add (x y : Int) : Int32.ofInt x + Int32.ofInt y = Int32.ofInt (x + y) := (Int32.ofInt_add x y).symm
theorem oI_sub (x y : Int) : Int32.ofInt x - Int32.ofInt y = Int32.ofInt (x - y) := (Int32.ofInt_sub x y).symm
theorem oI_mul (x y : Int) : Int32.ofInt x * Int32.ofInt y = Int32.ofInt (x * y) := (Int32.ofInt_mul x y).symm
theorem oI_lt {x y : Int} (hx : rng x) (hy : rng y) : Int32.ofInt x < Int32.ofInt y ↔ x < y := by
  rw [Int32.lt_iff_toInt_lt, rng_toInt hx, rng_toInt hy]
theorem oI_le {x y : Int} (hx : rng x) (hy : rng y) : Int32.ofInt x ≤ Int32.ofInt y ↔ x ≤ y := by
  rw [Int32.le_iff_toInt_le, rng_toInt hx, rng_toInt hy]
theorem oI_eq {x y : Int} (hx : rng x) (hy : rng y) : Int32.ofInt x = Int32.ofInt y ↔ x = y := by
  rw [← Int32.toInt_inj, rng_toInt hx, rng_toInt hy]
theorem oL_add (x y : Int) : Int64.ofInt x + Int64.ofInt y = Int64.ofInt (x + y) := (Int64.ofInt_add x y).symm
theorem oL_sub (x y : Int) : Int64.ofInt x - Int64.ofInt y = Int64.ofInt (x - y) := (Int64.ofInt_sub x y).symm
theorem oL_mul (x y : Int) : Int64.ofInt x * Int64.ofInt y = Int64.ofInt (x * y) := (Int64.ofInt_mul x y).symm
theorem oL_neg (x : Int) : -Int64.ofInt x = Int64.ofInt (-x) := (Int64.ofInt_neg x).symm
theorem oL_lt {x y : Int} (hx : rngL x) (hy : rngL y) : Int64.ofInt x < Int64.ofInt y ↔ x < y := by
  rw [Int64.lt_iff_toInt_lt, rngL_toInt hx, rngL_toInt hy]
theorem oL_le {x y : Int} (hx : rngL x) (hy : rngL y) : Int64.ofInt x ≤ Int64.ofInt y ↔ x ≤ y := by
  rw [Int64.le_iff_toInt_le, rngL_toInt hx, rngL_toInt hy]
theorem oL_eq {x y : Int} (hx : rngL x) (hy : rngL y) : Int64.ofInt x = Int64.ofInt y ↔ x = y := by
  rw [← Int64.toInt_inj, rngL_toInt hx, rngL_toInt hy]
theorem oI_toL {x : Int} (hx : rng x) : (Int32.ofInt x).toInt64 = Int64.ofInt x := by
  apply Int64.toInt_inj.mp
  rw [Int32.toInt_toInt64, rng_toInt hx, rngL_toInt ⟨by omega, by omega⟩]
theorem oL_toI (x : Int) : (Int64.ofInt x).toInt32 = Int32.ofInt x := Int64.toInt32_ofInt
theorem oI_div {x y : Int} (hx : rng x) (hy : rng y) : Int32.ofInt x / Int32.ofInt y = Int32.ofInt (x.tdiv y) := by
  apply Int32.toInt_inj.mp
  rw [Int32.toInt_div, rng_toInt hx, rng_toInt hy, Int32.toInt_ofInt]
theorem oL_div {x y : Int} (hx : rngL x) (hy : rngL y) : Int64.ofInt x / Int64.ofInt y = Int64.ofInt (x.tdiv y) := by
  apply Int64.toInt_inj.mp
  rw [Int64.toInt_div, rngL_toInt hx, rngL_toInt hy, Int64.toInt_ofInt]
theorem nar01 {v : Int} (h : v = 0 ∨ v = 1) : narrow .boolean (.int (Int32.ofInt v)) = .int (Int32.ofInt v) := by
  rcases h with rfl | rfl <;> decide
theorem fit01 {v : Int} (h : v = 0 ∨ v = 1) : fits .boolean (.int (Int32.ofInt v)) = true := by
  rcases h with rfl | rfl <;> decide
/-- the state that the code reads and writes: fields of objects, elements of arrays, by cell -/
abbrev St : Type := (Nat → Nat → Int) × (Nat → Int → Int)
def pI (S : St) (a j : Nat) (v : Int) : St := (fun a' j' => if a' = a ∧ j' = j then v else S.1 a' j', S.2)
def pA (S : St) (a : Nat) (i v : Int) : St := (S.1, fun a' i' => if a' = a ∧ i' = i then v else S.2 a' i')
/-- an object: its class, for each field the cell that it refers to, or none for an int; an array: its kind and length -/
abbrev Sh : Type := (Nat × List (Option Nat)) ⊕ (Nat × Nat)
def encF (G : xG) (f : Nat → Int) : Nat → List (Option Nat) → List Value
  | _, [] => []
  | j, none :: t => .int (Int32.ofInt (f j)) :: encF G f (j + 1) t
  | j, some r :: t => .ref (G.1 + r) :: encF G f (j + 1) t
def encC (G : xG) (S : St) (a : Nat) : Sh → va_E
  | .inl q => .inr (q.1, encF G (S.1 a) 0 q.2)
  | .inr q => .inl (G.2.2.1 q.1, q.2, .inl (fun i => Int32.ofInt (S.2 a (i : Int))))
/-- from lo to hi -/
abbrev iv (lo hi v : Int) : Prop := lo ≤ v ∧ v ≤ hi
theorem rngq {lo hi v : Int} (h : iv lo hi v) (h1 : -2147483648 ≤ lo) (h2 : hi < 2147483648) : rng v := by omega
theorem b01 {v : Int} (h : iv 0 1 v) : v = 0 ∨ v = 1 := by omega
/-- the bounds of each field and of each array's elements -/
abbrev Tys : Type := (Nat → Nat → Int × Int) × (Nat → Int × Int)
def okT (T : Tys) (S : St) : Prop := (∀ a j, iv (T.1 a j).1 (T.1 a j).2 (S.1 a j)) ∧ ∀ a i, iv (T.2 a).1 (T.2 a).2 (S.2 a i)
def Wd (G : xG) (sh : Nat → Option Sh) (T : Tys) (J : St → List va_E → Prop) (S : St) (cs : List va_E) : Prop := (∀ (a : Nat) (x : Sh), sh a = some x → cs[a]? = some (encC G S a x)) ∧ okT T S ∧ J S cs
/-- what else is said of the world stays when a cell of a known shape is written -/
def Stb (sh : Nat → Option Sh) (J : St → List va_E → Prop) : Prop := ∀ (S S' : St) (cs : List va_E) (a : Nat) (x : Sh) (e0 e : va_E), J S cs → sh a = some x → cs[a]? = some e0 → xSzE e = xSzE e0 → (∀ a', a' ≠ a → S'.1 a' = S.1 a' ∧ S'.2 a' = S.2 a') → J S' (cs.set a e)
def qI (G : xG) (sh : Nat → Option Sh) (T : Tys) (J : St → List va_E → Prop) (K : Int → St → Prop) : xP := fun r cs => ∃ (v : Int) (S : St), r = some (.int (Int32.ofInt v)) ∧ K v S ∧ Wd G sh T J S cs
def qV (G : xG) (sh : Nat → Option Sh) (T : Tys) (J : St → List va_E → Prop) (K : Int → St → Prop) : xP := fun r cs => ∃ (v : Int) (S : St), r = none ∧ K v S ∧ Wd G sh T J S cs
theorem encF_i {G : xG} {f : Nat → Int} : ∀ {rf : List (Option Nat)} {j k : Nat}, rf[k]? = some none → (encF G f j rf)[k]? = some (.int (Int32.ofInt (f (j + k))))
  | [], j, k, h => by simp at h
  | none :: t, j, 0, h => by simp [encF]
  | some r :: t, j, 0, h => by simp at h
  | none :: t, j, k + 1, h => by
    have q := encF_i (G := G) (f := f) (rf := t) (j := j + 1) (k := k) (by simpa using h)
    rw [show j + (k + 1) = j + 1 + k by omega]
    simpa [encF] using q
  | some r :: t, j, k + 1, h => by
    have q := encF_i (G := G) (f := f) (rf := t) (j := j + 1) (k := k) (by simpa using h)
    rw [show j + (k + 1) = j + 1 + k by omega]
    simpa [encF] using q
theorem encF_r {G : xG} {f : Nat → Int} {r : Nat} : ∀ {rf : List (Option Nat)} {j k : Nat}, rf[k]? = some (some r) → (encF G f j rf)[k]? = some (.ref (G.1 + r))
  | [], j, k, h => by simp at h
  | none :: t, j, 0, h => by simp at h
  | some r' :: t, j, 0, h => by
    simp at h
    simp [encF, h]
  | none :: t, j, k + 1, h => by
    have q := encF_r (G := G) (f := f) (rf := t) (j := j + 1) (k := k) (by simpa using h)
    simpa [encF] using q
  | some r' :: t, j, k + 1, h => by
    have q := encF_r (G := G) (f := f) (rf := t) (j := j + 1) (k := k) (by simpa using h)
    simpa [encF] using q
theorem encF_eq {G : xG} {f g : Nat → Int} : ∀ {rf : List (Option Nat)} {j : Nat}, (∀ i, j ≤ i → f i = g i) → encF G f j rf = encF G g j rf
  | [], j, h => rfl
  | none :: t, j, h => by
    unfold encF
    rw [h j (Nat.le_refl _), encF_eq (fun i hi => h i (by omega))]
  | some r :: t, j, h => by
    unfold encF
    rw [encF_eq (fun i hi => h i (by omega))]
theorem encF_set {G : xG} {f : Nat → Int} {v : Int} : ∀ {rf : List (Option Nat)} {j k : Nat}, rf[k]? = some none → (encF G f j rf).set k (.int (Int32.ofInt v)) = encF G (fun i => if i = j + k then v else f i) j rf
  | [], j, k, h => by simp at h
  | none :: t, j, 0, h => by
    unfold encF
    rw [List.set_cons_zero, encF_eq (g := fun i => if i = j + 0 then v else f i) (fun i hi => by rw [if_neg (by omega)])]
    simp
  | some r :: t, j, 0, h => by simp at h
  | none :: t, j, k + 1, h => by
    unfold encF
    rw [List.set_cons_succ, encF_set (by simpa using h), if_neg (by omega), show j + (k + 1) = j + 1 + k by omega]
  | some r :: t, j, k + 1, h => by
    unfold encF
    rw [List.set_cons_succ, encF_set (by simpa using h), show j + (k + 1) = j + 1 + k by omega]
theorem encF_len {G : xG} {f : Nat → Int} : ∀ {rf : List (Option Nat)} {j : Nat}, (encF G f j rf).length = rf.length
  | [], j => rfl
  | none :: t, j => by
    unfold encF
    rw [List.length_cons, List.length_cons, encF_len]
  | some r :: t, j => by
    unfold encF
    rw [List.length_cons, List.length_cons, encF_len]
theorem encC_ne {G : xG} {S S' : St} {a : Nat} {x : Sh} (h : S'.1 a = S.1 a ∧ S'.2 a = S.2 a) : encC G S' a x = encC G S a x := by
  cases x with
  | inl q => unfold encC; rw [h.1]
  | inr q => unfold encC; rw [h.2]
theorem pI_ne {S : St} {a j : Nat} {v : Int} : ∀ a', a' ≠ a → (pI S a j v).1 a' = S.1 a' ∧ (pI S a j v).2 a' = S.2 a' := fun a' h => ⟨funext fun j' => if_neg fun q => h q.1, rfl⟩
theorem pA_ne {S : St} {a : Nat} {i v : Int} : ∀ a', a' ≠ a → (pA S a i v).1 a' = S.1 a' ∧ (pA S a i v).2 a' = S.2 a' := fun a' h => ⟨rfl, funext fun j' => if_neg fun q => h q.1⟩
theorem Wd.set {G : xG} {sh : Nat → Option Sh} {T : Tys} {J : St → List va_E → Prop} {S S' : St} {cs : List va_E} {a : Nat} {x : Sh} {e : va_E} (hJ : Stb sh J) (hW : Wd G sh T J S cs) (hs : sh a = some x) (he : encC G S' a x = e) (hz : xSzE e = xSzE (encC G S a x)) (hn : ∀ a', a' ≠ a → S'.1 a' = S.1 a' ∧ S'.2 a' = S.2 a') (hr : okT T S') : Wd G sh T J S' (cs.set a e) := by
  refine ⟨fun b y hb => ?_, hr, hJ S S' cs a x _ e hW.2.2 hs (hW.1 a x hs) hz hn⟩
  by_cases hab : b = a
  · subst hab
    rw [hs] at hb
    cases hb
    rw [set_at (hW.1 b x hs), he]
  · rw [List.getElem?_set_ne (Ne.symm hab), hW.1 b y hb, encC_ne (hn b hab)]
theorem pI_ok {T : Tys} {S : St} {a j : Nat} {v : Int} (h : okT T S) (hv : iv (T.1 a j).1 (T.1 a j).2 v) : okT T (pI S a j v) := by
  refine ⟨fun b k => ?_, h.2⟩
  show iv _ _ (if b = a ∧ k = j then v else S.1 b k)
  by_cases q : b = a ∧ k = j
  · rw [if_pos q, q.1, q.2]; exact hv
  · rw [if_neg q]; exact h.1 b k
theorem pA_ok {T : Tys} {S : St} {a : Nat} {i v : Int} (h : okT T S) (hv : iv (T.2 a).1 (T.2 a).2 v) : okT T (pA S a i v) := by
  refine ⟨h.1, fun b k => ?_⟩
  show iv _ _ (if b = a ∧ k = i then v else S.2 b k)
  by_cases q : b = a ∧ k = i
  · rw [if_pos q, q.1]; exact hv
  · rw [if_neg q]; exact h.2 b k
theorem oI_cl {i : Int} {n : Nat} (h0 : 0 ≤ i) (h1 : i < (n : Int)) (hn : n < 2147483648) : (Int32.ofInt i).toNatClampNeg = i.toNat := by
  have e : (Int32.ofInt i).toInt = i := rng_toInt ⟨by omega, by omega⟩
  show (Int32.ofInt i).toInt.toNat = i.toNat
  rw [e]
theorem oI_in {i : Int} {n : Nat} (h0 : 0 ≤ i) (h1 : i < (n : Int)) (hn : n < 2147483648) : vp_in (Int32.ofInt i) n := by
  rw [vp_in_iff, rng_toInt ⟨by omega, by omega⟩]
  exact ⟨h0, h1⟩
theorem Wd.putA {G : xG} {sh : Nat → Option Sh} {T : Tys} {J : St → List va_E → Prop} {S : St} {cs : List va_E} {a ty n : Nat} {i v : Int} (hJ : Stb sh J) (hW : Wd G sh T J S cs) (hs : sh a = some (.inr (ty, n))) (h0 : 0 ≤ i) (h1 : i < (n : Int)) (hn : n < 2147483648) (hv : iv (T.2 a).1 (T.2 a).2 v) : Wd G sh T J (pA S a i v) (cs.set a (.inl (G.2.2.1 ty, n, .inl (upd (fun i => Int32.ofInt (S.2 a (i : Int))) (Int32.ofInt i).toNatClampNeg (Int32.ofInt v))))) := by
  refine hW.set hJ hs ?_ rfl pA_ne (pA_ok hW.2.1 hv)
  have e : (fun k : Nat => Int32.ofInt ((pA S a i v).2 a (k : Int))) = upd (fun i => Int32.ofInt (S.2 a (i : Int))) (Int32.ofInt i).toNatClampNeg (Int32.ofInt v) := by
    funext k
    rw [oI_cl h0 h1 hn]
    show Int32.ofInt (if a = a ∧ (k : Int) = i then v else S.2 a k) = if k = i.toNat then Int32.ofInt v else Int32.ofInt (S.2 a k)
    by_cases q : k = i.toNat
    · rw [if_pos q, if_pos ⟨rfl, by omega⟩]
    · rw [if_neg q, if_neg (fun r => q (by omega))]
  show (Sum.inl (G.2.2.1 ty, n, Sum.inl (fun k : Nat => Int32.ofInt ((pA S a i v).2 a (k : Int)))) : va_E) = _
  rw [e]
section ZI
variable {own : String} {cc : ByteArray} {nL : Nat} {ret : Option FieldType} {ini : Bool} {G : xG} {d : Nat} {Post : xP} {pc : Nat} {L : List (Nat × Value)} {rest : List Value} {cs : List va_E}
variable {sh : Nat → Option Sh} {T : Tys} {J : St → List va_E → Prop} {S : St}

theorem i_iinc {i : Nat} {n l : Int} (hdg : decode cc pc = .ok (.iinc i n, 3)) (hl : xLk L i = some (.int (Int32.ofInt l))) (hn : i < nL) (kk : Z (own, cc, nL, ret, ini) G d Post (pc + 3) (xSto1 L i (.int (Int32.ofInt (l + n)))) rest cs) : Z (own, cc, nL, ret, ini) G d Post pc L rest cs := z_iinc hdg hl (oI_add l n) hn kk
theorem i_ldc2 {index : Nat} {v : Int64} {n : Int} (hc : Cond.constantLong own index v ∈ xTs) (hv : v = Int64.ofInt n) (hdg : decode cc pc = .ok (.ldc2_w index, 3)) (kk : Z (own, cc, nL, ret, ini) G d Post (pc + 3) L (.long (Int64.ofInt n) :: rest) cs) : Z (own, cc, nL, ret, ini) G d Post pc L rest cs := z_ldc2 hc hdg (hv ▸ kk)
theorem i_iadd {x y : Int} (hdg : decode cc pc = .ok (.iadd, 1)) (kk : Z (own, cc, nL, ret, ini) G d Post (pc + 1) L (.int (Int32.ofInt (x + y)) :: rest) cs) : Z (own, cc, nL, ret, ini) G d Post pc L (.int (Int32.ofInt y) :: .int (Int32.ofInt x) :: rest) cs := z_iadd hdg (by rw [oI_add]; exact kk)
theorem i_isub {x y : Int} (hdg : decode cc pc = .ok (.isub, 1)) (kk : Z (own, cc, nL, ret, ini) G d Post (pc + 1) L (.int (Int32.ofInt (x - y)) :: rest) cs) : Z (own, cc, nL, ret, ini) G d Post pc L (.int (Int32.ofInt y) :: .int (Int32.ofInt x) :: rest) cs := z_isub hdg (by rw [oI_sub]; exact kk)
theorem i_imul {x y : Int} (hdg : decode cc pc = .ok (.imul, 1)) (kk : Z (own, cc, nL, ret, ini) G d Post (pc + 1) L (.int (Int32.ofInt (x * y)) :: rest) cs) : Z (own, cc, nL, ret, ini) G d Post pc L (.int (Int32.ofInt y) :: .int (Int32.ofInt x) :: rest) cs := z_imul hdg (by rw [oI_mul]; exact kk)
theorem i_ladd {x y : Int} (hdg : decode cc pc = .ok (.ladd, 1)) (kk : Z (own, cc, nL, ret, ini) G d Post (pc + 1) L (.long (Int64.ofInt (x + y)) :: rest) cs) : Z (own, cc, nL, ret, ini) G d Post pc L (.long (Int64.ofInt y) :: .long (Int64.ofInt x) :: rest) cs := z_ladd hdg (by rw [oL_add]; exact kk)
theorem i_lsub {x y : Int} (hdg : decode cc pc = .ok (.lsub, 1)) (kk : Z (own, cc, nL, ret, ini) G d Post (pc + 1) L (.long (Int64.ofInt (x - y)) :: rest) cs) : Z (own, cc, nL, ret, ini) G d Post pc L (.long (Int64.ofInt y) :: .long (Int64.ofInt x) :: rest) cs := z_lsub hdg (by rw [oL_sub]; exact kk)
theorem i_lmul {x y : Int} (hdg : decode cc pc = .ok (.lmul, 1)) (kk : Z (own, cc, nL, ret, ini) G d Post (pc + 1) L (.long (Int64.ofInt (x * y)) :: rest) cs) : Z (own, cc, nL, ret, ini) G d Post pc L (.long (Int64.ofInt y) :: .long (Int64.ofInt x) :: rest) cs := z_lmul hdg (by rw [oL_mul]; exact kk)
theorem i_lneg {x : Int} (hdg : decode cc pc = .ok (.lneg, 1)) (kk : Z (own, cc, nL, ret, ini) G d Post (pc + 1) L (.long (Int64.ofInt (-x)) :: rest) cs) : Z (own, cc, nL, ret, ini) G d Post pc L (.long (Int64.ofInt x) :: rest) cs := z_lneg hdg (by rw [oL_neg]; exact kk)
theorem i_idiv {x y : Int} (hdg : decode cc pc = .ok (.idiv, 1)) (h0 : ¬ y = 0) (hx : rng x) (hy : rng y) (kk : Z (own, cc, nL, ret, ini) G d Post (pc + 1) L (.int (Int32.ofInt (x.tdiv y)) :: rest) cs) : Z (own, cc, nL, ret, ini) G d Post pc L (.int (Int32.ofInt y) :: .int (Int32.ofInt x) :: rest) cs := z_idiv hdg (fun q => h0 ((oI_eq hy (y := 0) ⟨by decide, by decide⟩).mp q)) (by rw [oI_div hx hy]; exact kk)
theorem i_irem {x y : Int} (hdg : decode cc pc = .ok (.irem, 1)) (h0 : ¬ y = 0) (hx : rng x) (hy : rng y) (kk : Z (own, cc, nL, ret, ini) G d Post (pc + 1) L (.int (Int32.ofInt (x - x.tdiv y * y)) :: rest) cs) : Z (own, cc, nL, ret, ini) G d Post pc L (.int (Int32.ofInt y) :: .int (Int32.ofInt x) :: rest) cs := z_irem hdg (fun q => h0 ((oI_eq hy (y := 0) ⟨by decide, by decide⟩).mp q)) (by rw [oI_div hx hy, oI_mul, oI_sub]; exact kk)
theorem i_ldiv {x y : Int} (hdg : decode cc pc = .ok (.ldiv, 1)) (h0 : ¬ y = 0) (hx : rngL x) (hy : rngL y) (kk : Z (own, cc, nL, ret, ini) G d Post (pc + 1) L (.long (Int64.ofInt (x.tdiv y)) :: rest) cs) : Z (own, cc, nL, ret, ini) G d Post pc L (.long (Int64.ofInt y) :: .long (Int64.ofInt x) :: rest) cs := z_ldiv hdg (fun q => h0 ((oL_eq hy (y := 0) ⟨by decide, by decide⟩).mp q)) (by rw [oL_div hx hy]; exact kk)
theorem i_lrem {x y : Int} (hdg : decode cc pc = .ok (.lrem, 1)) (h0 : ¬ y = 0) (hx : rngL x) (hy : rngL y) (kk : Z (own, cc, nL, ret, ini) G d Post (pc + 1) L (.long (Int64.ofInt (x - x.tdiv y * y)) :: rest) cs) : Z (own, cc, nL, ret, ini) G d Post pc L (.long (Int64.ofInt y) :: .long (Int64.ofInt x) :: rest) cs := z_lrem hdg (fun q => h0 ((oL_eq hy (y := 0) ⟨by decide, by decide⟩).mp q)) (by rw [oL_div hx hy, oL_mul, oL_sub]; exact kk)
theorem i_i2l {x : Int} (hdg : decode cc pc = .ok (.i2l, 1)) (hx : rng x) (kk : Z (own, cc, nL, ret, ini) G d Post (pc + 1) L (.long (Int64.ofInt x) :: rest) cs) : Z (own, cc, nL, ret, ini) G d Post pc L (.int (Int32.ofInt x) :: rest) cs := z_i2l hdg (by rw [oI_toL hx]; exact kk)
theorem i_l2i {x : Int} (hdg : decode cc pc = .ok (.l2i, 1)) (kk : Z (own, cc, nL, ret, ini) G d Post (pc + 1) L (.int (Int32.ofInt x) :: rest) cs) : Z (own, cc, nL, ret, ini) G d Post pc L (.long (Int64.ofInt x) :: rest) cs := z_l2i hdg (by rw [oL_toI]; exact kk)
theorem i_icmp_eq {x y : Int} {off : Int} {tgt : Nat} (hdg : decode cc pc = .ok (.if_icmp .eq off, 3)) (ht : (pc : Int) + off = (tgt : Int)) (hx : rng x) (hy : rng y) (kt : (x = y) → Z (own, cc, nL, ret, ini) G d Post tgt L rest cs) (kf : (¬ (x = y)) → Z (own, cc, nL, ret, ini) G d Post (pc + 3) L rest cs) : Z (own, cc, nL, ret, ini) G d Post pc L (.int (Int32.ofInt y) :: .int (Int32.ofInt x) :: rest) cs := z_icmp_eq hdg ht (fun h => kt ((oI_eq hx hy).mp h)) (fun h => kf (fun q => h ((oI_eq hx hy).mpr q)))
theorem i_if_eq {x : Int} {off : Int} {tgt : Nat} (hdg : decode cc pc = .ok (.ifCond .eq off, 3)) (ht : (pc : Int) + off = (tgt : Int)) (hx : rng x) (kt : (x = 0) → Z (own, cc, nL, ret, ini) G d Post tgt L rest cs) (kf : (¬ (x = 0)) → Z (own, cc, nL, ret, ini) G d Post (pc + 3) L rest cs) : Z (own, cc, nL, ret, ini) G d Post pc L (.int (Int32.ofInt x) :: rest) cs := z_if_eq hdg ht (fun h => kt ((oI_eq hx (y := 0) ⟨by decide, by decide⟩).mp h)) (fun h => kf (fun q => h ((oI_eq hx (y := 0) ⟨by decide, by decide⟩).mpr q)))
theorem i_icmp_ne {x y : Int} {off : Int} {tgt : Nat} (hdg : decode cc pc = .ok (.if_icmp .ne off, 3)) (ht : (pc : Int) + off = (tgt : Int)) (hx : rng x) (hy : rng y) (kt : (¬ x = y) → Z (own, cc, nL, ret, ini) G d Post tgt L rest cs) (kf : (¬ (¬ x = y)) → Z (own, cc, nL, ret, ini) G d Post (pc + 3) L rest cs) : Z (own, cc, nL, ret, ini) G d Post pc L (.int (Int32.ofInt y) :: .int (Int32.ofInt x) :: rest) cs := z_icmp_ne hdg ht (fun h => kt (fun q => h ((oI_eq hx hy).mpr q))) (fun h => kf (fun q => q ((oI_eq hx hy).mp h)))
theorem i_if_ne {x : Int} {off : Int} {tgt : Nat} (hdg : decode cc pc = .ok (.ifCond .ne off, 3)) (ht : (pc : Int) + off = (tgt : Int)) (hx : rng x) (kt : (¬ x = 0) → Z (own, cc, nL, ret, ini) G d Post tgt L rest cs) (kf : (¬ (¬ x = 0)) → Z (own, cc, nL, ret, ini) G d Post (pc + 3) L rest cs) : Z (own, cc, nL, ret, ini) G d Post pc L (.int (Int32.ofInt x) :: rest) cs := z_if_ne hdg ht (fun h => kt (fun q => h ((oI_eq hx (y := 0) ⟨by decide, by decide⟩).mpr q))) (fun h => kf (fun q => q ((oI_eq hx (y := 0) ⟨by decide, by decide⟩).mp h)))
theorem i_icmp_lt {x y : Int} {off : Int} {tgt : Nat} (hdg : decode cc pc = .ok (.if_icmp .lt off, 3)) (ht : (pc : Int) + off = (tgt : Int)) (hx : rng x) (hy : rng y) (kt : (x < y) → Z (own, cc, nL, ret, ini) G d Post tgt L rest cs) (kf : (¬ (x < y)) → Z (own, cc, nL, ret, ini) G d Post (pc + 3) L rest cs) : Z (own, cc, nL, ret, ini) G d Post pc L (.int (Int32.ofInt y) :: .int (Int32.ofInt x) :: rest) cs := z_icmp_lt hdg ht (fun h => kt ((oI_lt hx hy).mp h)) (fun h => kf (fun q => h ((oI_lt hx hy).mpr q)))
theorem i_if_lt {x : Int} {off : Int} {tgt : Nat} (hdg : decode cc pc = .ok (.ifCond .lt off, 3)) (ht : (pc : Int) + off = (tgt : Int)) (hx : rng x) (kt : (x < 0) → Z (own, cc, nL, ret, ini) G d Post tgt L rest cs) (kf : (¬ (x < 0)) → Z (own, cc, nL, ret, ini) G d Post (pc + 3) L rest cs) : Z (own, cc, nL, ret, ini) G d Post pc L (.int (Int32.ofInt x) :: rest) cs := z_if_lt hdg ht (fun h => kt ((oI_lt hx (y := 0) ⟨by decide, by decide⟩).mp h)) (fun h => kf (fun q => h ((oI_lt hx (y := 0) ⟨by decide, by decide⟩).mpr q)))
theorem i_icmp_ge {x y : Int} {off : Int} {tgt : Nat} (hdg : decode cc pc = .ok (.if_icmp .ge off, 3)) (ht : (pc : Int) + off = (tgt : Int)) (hx : rng x) (hy : rng y) (kt : (y ≤ x) → Z (own, cc, nL, ret, ini) G d Post tgt L rest cs) (kf : (¬ (y ≤ x)) → Z (own, cc, nL, ret, ini) G d Post (pc + 3) L rest cs) : Z (own, cc, nL, ret, ini) G d Post pc L (.int (Int32.ofInt y) :: .int (Int32.ofInt x) :: rest) cs := z_icmp_ge hdg ht (fun h => kt ((oI_le hy hx).mp h)) (fun h => kf (fun q => h ((oI_le hy hx).mpr q)))
theorem i_if_ge {x : Int} {off : Int} {tgt : Nat} (hdg : decode cc pc = .ok (.ifCond .ge off, 3)) (ht : (pc : Int) + off = (tgt : Int)) (hx : rng x) (kt : (0 ≤ x) → Z (own, cc, nL, ret, ini) G d Post tgt L rest cs) (kf : (¬ (0 ≤ x)) → Z (own, cc, nL, ret, ini) G d Post (pc + 3) L rest cs) : Z (own, cc, nL, ret, ini) G d Post pc L (.int (Int32.ofInt x) :: rest) cs := z_if_ge hdg ht (fun h => kt ((oI_le (x := 0) ⟨by decide, by decide⟩ hx).mp h)) (fun h => kf (fun q => h ((oI_le (x := 0) ⟨by decide, by decide⟩ hx).mpr q)))
theorem i_icmp_gt {x y : Int} {off : Int} {tgt : Nat} (hdg : decode cc pc = .ok (.if_icmp .gt off, 3)) (ht : (pc : Int) + off = (tgt : Int)) (hx : rng x) (hy : rng y) (kt : (y < x) → Z (own, cc, nL, ret, ini) G d Post tgt L rest cs) (kf : (¬ (y < x)) → Z (own, cc, nL, ret, ini) G d Post (pc + 3) L rest cs) : Z (own, cc, nL, ret, ini) G d Post pc L (.int (Int32.ofInt y) :: .int (Int32.ofInt x) :: rest) cs := z_icmp_gt hdg ht (fun h => kt ((oI_lt hy hx).mp h)) (fun h => kf (fun q => h ((oI_lt hy hx).mpr q)))
theorem i_if_gt {x : Int} {off : Int} {tgt : Nat} (hdg : decode cc pc = .ok (.ifCond .gt off, 3)) (ht : (pc : Int) + off = (tgt : Int)) (hx : rng x) (kt : (0 < x) → Z (own, cc, nL, ret, ini) G d Post tgt L rest cs) (kf : (¬ (0 < x)) → Z (own, cc, nL, ret, ini) G d Post (pc + 3) L rest cs) : Z (own, cc, nL, ret, ini) G d Post pc L (.int (Int32.ofInt x) :: rest) cs := z_if_gt hdg ht (fun h => kt ((oI_lt (x := 0) ⟨by decide, by decide⟩ hx).mp h)) (fun h => kf (fun q => h ((oI_lt (x := 0) ⟨by decide, by decide⟩ hx).mpr q)))
theorem i_icmp_le {x y : Int} {off : Int} {tgt : Nat} (hdg : decode cc pc = .ok (.if_icmp .le off, 3)) (ht : (pc : Int) + off = (tgt : Int)) (hx : rng x) (hy : rng y) (kt : (x ≤ y) → Z (own, cc, nL, ret, ini) G d Post tgt L rest cs) (kf : (¬ (x ≤ y)) → Z (own, cc, nL, ret, ini) G d Post (pc + 3) L rest cs) : Z (own, cc, nL, ret, ini) G d Post pc L (.int (Int32.ofInt y) :: .int (Int32.ofInt x) :: rest) cs := z_icmp_le hdg ht (fun h => kt ((oI_le hx hy).mp h)) (fun h => kf (fun q => h ((oI_le hx hy).mpr q)))
theorem i_if_le {x : Int} {off : Int} {tgt : Nat} (hdg : decode cc pc = .ok (.ifCond .le off, 3)) (ht : (pc : Int) + off = (tgt : Int)) (hx : rng x) (kt : (x ≤ 0) → Z (own, cc, nL, ret, ini) G d Post tgt L rest cs) (kf : (¬ (x ≤ 0)) → Z (own, cc, nL, ret, ini) G d Post (pc + 3) L rest cs) : Z (own, cc, nL, ret, ini) G d Post pc L (.int (Int32.ofInt x) :: rest) cs := z_if_le hdg ht (fun h => kt ((oI_le hx (y := 0) ⟨by decide, by decide⟩).mp h)) (fun h => kf (fun q => h ((oI_le hx (y := 0) ⟨by decide, by decide⟩).mpr q)))
theorem lg_cmp_e (x y : Int64) : (lg_cmp x y = 0) ↔ x = y := by
  unfold lg_cmp
  by_cases h : x > y
  · rw [if_pos h]
    exact ⟨fun q => absurd q (by decide), fun q => by subst q; exact absurd h (Int64.lt_irrefl)⟩
  · rw [if_neg h]
    by_cases h2 : x = y
    · simp [h2]
    · simp [h2]
theorem i_lcmp_eq {x y : Int} {off : Int} {tgt : Nat} (hdg : decode cc pc = .ok (.lcmp, 1)) (hdg2 : decode cc (pc + 1) = .ok (.ifCond .eq off, 3)) (ht : ((pc + 1 : Nat) : Int) + off = (tgt : Int)) (hx : rngL x) (hy : rngL y) (kt : (x = y) → Z (own, cc, nL, ret, ini) G d Post tgt L rest cs) (kf : (¬ (x = y)) → Z (own, cc, nL, ret, ini) G d Post (pc + 1 + 3) L rest cs) : Z (own, cc, nL, ret, ini) G d Post pc L (.long (Int64.ofInt y) :: .long (Int64.ofInt x) :: rest) cs := z_lcmp hdg (z_if_eq hdg2 ht (fun h => kt ((oL_eq hx hy).mp ((lg_cmp_e _ _).mp h))) (fun h => kf (fun q => h ((lg_cmp_e _ _).mpr ((oL_eq hx hy).mpr q)))))
theorem i_lcmp_lt {x y : Int} {off : Int} {tgt : Nat} (hdg : decode cc pc = .ok (.lcmp, 1)) (hdg2 : decode cc (pc + 1) = .ok (.ifCond .lt off, 3)) (ht : ((pc + 1 : Nat) : Int) + off = (tgt : Int)) (hx : rngL x) (hy : rngL y) (kt : (x < y) → Z (own, cc, nL, ret, ini) G d Post tgt L rest cs) (kf : (¬ (x < y)) → Z (own, cc, nL, ret, ini) G d Post (pc + 1 + 3) L rest cs) : Z (own, cc, nL, ret, ini) G d Post pc L (.long (Int64.ofInt y) :: .long (Int64.ofInt x) :: rest) cs := z_lcmp hdg (z_if_lt hdg2 ht (fun h => kt ((oL_lt hx hy).mp ((lg_cmp_lt _ _).mp h))) (fun h => kf (fun q => h ((lg_cmp_lt _ _).mpr ((oL_lt hx hy).mpr q)))))
theorem i_lcmp_gt {x y : Int} {off : Int} {tgt : Nat} (hdg : decode cc pc = .ok (.lcmp, 1)) (hdg2 : decode cc (pc + 1) = .ok (.ifCond .gt off, 3)) (ht : ((pc + 1 : Nat) : Int) + off = (tgt : Int)) (hx : rngL x) (hy : rngL y) (kt : (y < x) → Z (own, cc, nL, ret, ini) G d Post tgt L rest cs) (kf : (¬ (y < x)) → Z (own, cc, nL, ret, ini) G d Post (pc + 1 + 3) L rest cs) : Z (own, cc, nL, ret, ini) G d Post pc L (.long (Int64.ofInt y) :: .long (Int64.ofInt x) :: rest) cs := z_lcmp hdg (z_if_gt hdg2 ht (fun h => kt ((oL_lt hy hx).mp ((lg_cmp_gt _ _).mp h))) (fun h => kf (fun q => h ((lg_cmp_gt _ _).mpr ((oL_lt hy hx).mpr q)))))
theorem i_lcmp_le {x y : Int} {off : Int} {tgt : Nat} (hdg : decode cc pc = .ok (.lcmp, 1)) (hdg2 : decode cc (pc + 1) = .ok (.ifCond .le off, 3)) (ht : ((pc + 1 : Nat) : Int) + off = (tgt : Int)) (hx : rngL x) (hy : rngL y) (kt : (x ≤ y) → Z (own, cc, nL, ret, ini) G d Post tgt L rest cs) (kf : (¬ (x ≤ y)) → Z (own, cc, nL, ret, ini) G d Post (pc + 1 + 3) L rest cs) : Z (own, cc, nL, ret, ini) G d Post pc L (.long (Int64.ofInt y) :: .long (Int64.ofInt x) :: rest) cs := z_lcmp hdg (z_if_le hdg2 ht (fun h => kt ((oL_le hx hy).mp ((lg_cmp_le _ _).mp h))) (fun h => kf (fun q => h ((lg_cmp_le _ _).mpr ((oL_le hx hy).mpr q)))))
theorem i_tableOut {dflt lo hi : Int} {offs : Array Int} {len : Nat} {x : Int} {tgt : Nat} (hdg : decode cc pc = .ok (.tableswitch dflt lo hi offs, len)) (hx : rng x) (h : ¬ (lo ≤ x ∧ x ≤ hi)) (ht : (pc : Int) + dflt = (tgt : Int)) (kk : Z (own, cc, nL, ret, ini) G d Post tgt L rest cs) : Z (own, cc, nL, ret, ini) G d Post pc L (.int (Int32.ofInt x) :: rest) cs := z_tableOut hdg (by rw [rng_toInt hx]; omega) ht kk
theorem i_tableIn {dflt lo hi : Int} {offs : Array Int} {len : Nat} {x c off : Int} {tgt : Nat} (hdg : decode cc pc = .ok (.tableswitch dflt lo hi offs, len)) (h : x = c) (hc : rng c) (h1 : ¬ c < lo) (h2 : ¬ hi < c) (ho : offs[(c - lo).toNat]? = some off) (ht : (pc : Int) + off = (tgt : Int)) (kk : Z (own, cc, nL, ret, ini) G d Post tgt L rest cs) : Z (own, cc, nL, ret, ini) G d Post pc L (.int (Int32.ofInt x) :: rest) cs := by
  subst h
  exact z_tableIn hdg (by rw [rng_toInt hc]; exact h1) (by rw [rng_toInt hc]; exact h2) (by rw [rng_toInt hc]; exact ho) ht kk
theorem g_getI {C : String} {TT : u_T} {N ci index k a : Nat} {ty : Nat → FieldType} {rf : List (Option Nat)} (hW : Wd G sh T J S cs) (hs : sh a = some (.inl (ci, rf))) (hr : rf[k]? = some none) (hc : xCl ci C TT N ty) (hf : xFl own index TT N k) (hdg : decode cc pc = .ok (.getfield index, 3)) (kk : Z (own, cc, nL, ret, ini) G d Post (pc + 3) L (.int (Int32.ofInt (S.1 a k)) :: rest) cs) : Z (own, cc, nL, ret, ini) G d Post pc L (.ref (G.1 + a) :: rest) cs := z_get hc hf hdg (hW.1 a _ hs) (by rw [encF_i hr, Nat.zero_add]) kk
theorem g_getR {C : String} {TT : u_T} {N ci index k a t : Nat} {ty : Nat → FieldType} {rf : List (Option Nat)} (hW : Wd G sh T J S cs) (hs : sh a = some (.inl (ci, rf))) (hr : rf[k]? = some (some t)) (hc : xCl ci C TT N ty) (hf : xFl own index TT N k) (hdg : decode cc pc = .ok (.getfield index, 3)) (kk : Z (own, cc, nL, ret, ini) G d Post (pc + 3) L (.ref (G.1 + t) :: rest) cs) : Z (own, cc, nL, ret, ini) G d Post pc L (.ref (G.1 + a) :: rest) cs := z_get hc hf hdg (hW.1 a _ hs) (encF_r hr) kk
theorem g_putI {C : String} {TT : u_T} {N ci index k a : Nat} {ty : Nat → FieldType} {rf : List (Option Nat)} {v : Int} (hJ : Stb sh J) (hW : Wd G sh T J S cs) (hs : sh a = some (.inl (ci, rf))) (hr : rf[k]? = some none) (hc : xCl ci C TT N ty) (hf : xFl own index TT N k) (hdg : decode cc pc = .ok (.putfield index, 3)) (hfin : (TT k).2.2.2 = false) (hn : narrow (ty k) (.int (Int32.ofInt v)) = .int (Int32.ofInt v)) (hfit : fits (ty k) (.int (Int32.ofInt v)) = true) (hv : iv (T.1 a k).1 (T.1 a k).2 v) (kk : ∀ cs : List va_E, Wd G sh T J (pI S a k v) cs → Z (own, cc, nL, ret, ini) G d Post (pc + 3) L rest cs) : Z (own, cc, nL, ret, ini) G d Post pc L (.int (Int32.ofInt v) :: .ref (G.1 + a) :: rest) cs := by
  refine z_put hc hf hdg hfin (hW.1 a _ hs) hn hfit ?_ (kk _ ?_)
  · rw [encF_len]
    exact (List.getElem?_eq_some_iff.mp hr).1
  · refine hW.set hJ hs ?_ rfl pI_ne (pI_ok hW.2.1 hv)
    rw [encF_set hr]
    have e : encF G ((pI S a k v).1 a) 0 rf = encF G (fun i => if i = 0 + k then v else S.1 a i) 0 rf := by
      refine encF_eq fun i hi => ?_
      show (if a = a ∧ i = k then v else S.1 a i) = if i = 0 + k then v else S.1 a i
      rw [Nat.zero_add]
      by_cases q : i = k
      · rw [if_pos ⟨rfl, q⟩, if_pos q]
      · rw [if_neg (fun r => q r.2), if_neg q]
    show (Sum.inr (ci, encF G ((pI S a k v).1 a) 0 rf) : va_E) = _
    rw [e]
theorem g_iald {a n : Nat} {i : Int} (hW : Wd G sh T J S cs) (hs : sh a = some (.inr (0, n))) (h0 : 0 ≤ i) (h1 : i < (n : Int)) (hn : n < 2147483648) (hdg : decode cc pc = .ok (.iaload, 1)) (kk : Z (own, cc, nL, ret, ini) G d Post (pc + 1) L (.int (Int32.ofInt (S.2 a i)) :: rest) cs) : Z (own, cc, nL, ret, ini) G d Post pc L (.int (Int32.ofInt i) :: .ref (G.1 + a) :: rest) cs := z_iald hdg (hW.1 a _ hs) (oI_in h0 h1 hn) (by rw [oI_cl h0 h1 hn, Int.toNat_of_nonneg h0]; exact kk)
theorem g_zald {a n : Nat} {i : Int} (hW : Wd G sh T J S cs) (hs : sh a = some (.inr (2, n))) (h0 : 0 ≤ i) (h1 : i < (n : Int)) (hn : n < 2147483648) (hdg : decode cc pc = .ok (.baload, 1)) (kk : Z (own, cc, nL, ret, ini) G d Post (pc + 1) L (.int (Int32.ofInt (S.2 a i)) :: rest) cs) : Z (own, cc, nL, ret, ini) G d Post pc L (.int (Int32.ofInt i) :: .ref (G.1 + a) :: rest) cs := z_zald hdg (hW.1 a _ hs) (oI_in h0 h1 hn) (by rw [oI_cl h0 h1 hn, Int.toNat_of_nonneg h0]; exact kk)
theorem g_iast {a n : Nat} {i v : Int} (hJ : Stb sh J) (hW : Wd G sh T J S cs) (hs : sh a = some (.inr (0, n))) (h0 : 0 ≤ i) (h1 : i < (n : Int)) (hn : n < 2147483648) (hv : iv (T.2 a).1 (T.2 a).2 v) (hdg : decode cc pc = .ok (.iastore, 1)) (kk : ∀ cs : List va_E, Wd G sh T J (pA S a i v) cs → Z (own, cc, nL, ret, ini) G d Post (pc + 1) L rest cs) : Z (own, cc, nL, ret, ini) G d Post pc L (.int (Int32.ofInt v) :: .int (Int32.ofInt i) :: .ref (G.1 + a) :: rest) cs := z_iast hdg (hW.1 a _ hs) (oI_in h0 h1 hn) (kk _ (hW.putA hJ hs h0 h1 hn hv))
theorem vnar01 {v : Int} (h : v = 0 ∨ v = 1) : vp_nar .boolean (Int32.ofInt v) = Int32.ofInt v := by
  unfold vp_nar
  rw [nar01 h]
theorem g_zast {a n : Nat} {i v : Int} (hJ : Stb sh J) (hW : Wd G sh T J S cs) (hs : sh a = some (.inr (2, n))) (h0 : 0 ≤ i) (h1 : i < (n : Int)) (hn : n < 2147483648) (hv : v = 0 ∨ v = 1) (hv2 : iv (T.2 a).1 (T.2 a).2 v) (hdg : decode cc pc = .ok (.bastore, 1)) (kk : ∀ cs : List va_E, Wd G sh T J (pA S a i v) cs → Z (own, cc, nL, ret, ini) G d Post (pc + 1) L rest cs) : Z (own, cc, nL, ret, ini) G d Post pc L (.int (Int32.ofInt v) :: .int (Int32.ofInt i) :: .ref (G.1 + a) :: rest) cs := z_zast hdg (hW.1 a _ hs) (oI_in h0 h1 hn) (by rw [vnar01 hv]; exact kk _ (hW.putA hJ hs h0 h1 hn hv2))
end ZI

