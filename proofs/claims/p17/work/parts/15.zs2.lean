/-! NEW CELLS ARE TAKEN INTO THE WORLD -/
def WvT (G : xG) (v : Nat → Nat) (sh : Nat → Option Sh) (B : Nat × Nat) (c0 : List va_E) (S : St) (cs : List va_E) (τ : Tau) : Prop := WT G B τ cs ∧ (∀ (a : Nat) (x : Sh), sh a = some x → cs[v a]? = some (encC G S a (vSh v x))) ∧ (∀ (a b : Nat) (x y : Sh), sh a = some x → sh b = some y → v a = v b → a = b) ∧ okT cT S ∧ (∀ (a k n : Nat), sh a = some (.inr (k, n)) → τ (v a) = some (.inr (k, n, (tB a).1, (tB a).2))) ∧ (∀ (a ci : Nat) (rf : List (Option Nat)), sh a = some (.inl (ci, rf)) → ci ≠ 5 ∧ ci < 100 ∧ (ci = 6 → a = 3) ∧ ∃ p : Nat, τ (v a) = some (.inl (ci, p)) ∧ (a ≠ 0 → ∀ k : Nat, rf[k]? = some none → (fT ci p)[k]? = some (Sum.inl (cT.1 a k) : FT))) ∧ (∀ a : Nat, isS a → isS (v a) ∧ ∃ (n r : Nat) (t : List Int32) (ov : Bool), Sg G cs (v a) r n t ov ∧ tM S a t ov) ∧ (∀ a b : Nat, isS a → isS b → v a = v b → a = b) ∧ (∀ k : Nat, 54 ≤ k → k < 107 → τ k = none ∧ cs[k]? = c0[k]?) ∧ 107 ≤ cs.length ∧ (∀ a : Nat, isS a → oT τ a 5) ∧ (sh 3 = none → cs[3]? = c0[3]? ∧ ∀ (a : Nat) (x : Sh), sh a = some x → v a ≠ 3)
theorem Wv.ex {G : xG} {v : Nat → Nat} {sh : Nat → Option Sh} {B : Nat × Nat} {c0 : List va_E} {S : St} {cs : List va_E} (h : Wv G v sh B c0 S cs) : ∃ τ, WvT G v sh B c0 S cs τ := h
theorem WvT.wv {G : xG} {v : Nat → Nat} {sh : Nat → Option Sh} {B : Nat × Nat} {c0 : List va_E} {S : St} {cs : List va_E} {τ : Tau} (h : WvT G v sh B c0 S cs τ) : Wv G v sh B c0 S cs := ⟨τ, h⟩
def upv (v : Nat → Nat) (a k : Nat) : Nat → Nat := fun b => if b = a then k else v b
def uph (sh : Nat → Option Sh) (a : Nat) (x : Sh) : Nat → Option Sh := fun b => if b = a then some x else sh b
def sZ (S : St) (a : Nat) (f : Nat → Int) : St := (fun b j => if b = a then f j else S.1 b j, fun b i => if b = a then 0 else S.2 b i)
def nr (a : Nat) (y : Sh) : Prop := ∀ ci rf, y = .inl (ci, rf) → some a ∉ rf
section WN
variable {G : xG} {v : Nat → Nat} {sh : Nat → Option Sh} {B : Nat × Nat} {c0 : List va_E} {S : St} {cs : List va_E} {τ : Tau} {a k b : Nat} {x y : Sh} {t : Ty} {f : Nat → Int}
theorem upv_at : upv v a k a = k := if_pos rfl
theorem upv_ne (h : b ≠ a) : upv v a k b = v b := if_neg h
theorem uph_at : uph sh a x a = some x := if_pos rfl
theorem uph_ne (h : b ≠ a) : uph sh a x b = sh b := if_neg h
theorem sZ_ne (h : b ≠ a) : (sZ S a f).1 b = S.1 b ∧ (sZ S a f).2 b = S.2 b := ⟨funext fun _ => if_neg h, funext fun _ => if_neg h⟩
theorem vSh_up (h : nr a y) : vSh (upv v a k) y = vSh v y := by
  cases y with
  | inr q => rfl
  | inl q =>
    obtain ⟨ci, rf⟩ := q
    have hr := h ci rf rfl
    unfold vSh
    dsimp only
    congr 2
    refine List.map_congr_left (fun u hu => ?_)
    cases u with
    | none => rfl
    | some r =>
      show some (upv v a k r) = some (v r)
      rw [upv_ne (fun q => hr (by rw [← q]; exact hu))]
theorem uph_c (h : uph sh a x b = some y) : (b = a ∧ y = x) ∨ (b ≠ a ∧ sh b = some y) := by
  by_cases q : b = a
  · rw [q, uph_at] at h
    exact Or.inl ⟨q, (Option.some.inj h).symm⟩
  · rw [uph_ne q] at h
    exact Or.inr ⟨q, h⟩
theorem sb_uph (h : sh a = none) : sb sh (uph sh a x) := fun b y hb => by
  rw [uph_ne (fun q => by rw [q, h] at hb; cases hb)]
  exact hb
theorem WvT.grow {l : List va_E} {B1 : Nat × Nat} (h : WvT G v sh B c0 S cs τ) (e1 : B1.1 = B.1 + l.length) (e2 : B1.2 = B.2 + xZ l) (h1 : B1.1 ≤ 600000) (h2 : B1.2 ≤ 7302250) : WvT G v sh B1 c0 S (cs ++ l) τ ∧ ∀ k, cs.length ≤ k → τ k = none := by
  obtain ⟨hT, hA, hI, hO, hD, hE, hF, hFi, hH, hL, hQ, hZ⟩ := h
  have hlen : (cs ++ l).length = cs.length + l.length := List.length_append
  have old : ∀ a, a < cs.length → (cs ++ l)[a]? = cs[a]? := fun a ha => List.getElem?_append_left ha
  have typ : ∀ a t, τ a = some t → a < cs.length := hT.1
  refine ⟨⟨hT.alter (by omega) (fun a t h => old a (typ a t h)) (by omega) (by rw [xZ_app]; omega) h1 h2, fun a x hx => ?_, hI, hO, hD, hE, fun a ha => ?_, hFi, fun k k1 k2 => ?_, by omega, hQ, fun h3 => ⟨?_, (hZ h3).2⟩⟩, fun k hk => hT.non hk⟩
  · rw [old _ (at_lt (hA a x hx))]
    exact hA a x hx
  · obtain ⟨s1, m, r, t, ov, ⟨f, q1, q2, q3⟩, hM⟩ := hF a ha
    exact ⟨s1, m, r, t, ov, ⟨f, (old _ (at_lt q1)).trans q1, (old _ (at_lt q2)).trans q2, q3⟩, hM⟩
  · rw [old k (by omega)]
    exact hH k k1 k2
  · rw [old 3 (by omega)]
    exact (hZ h3).1
theorem WvT.add (h : WvT G v sh B c0 S cs τ) (ha : sh a = none) (hS : ¬ isS a) (a3 : a ≠ 3) (hnr : ∀ b y, sh b = some y → nr a y) (hx : nr a x) (hk : τ k = none) (k0 : 107 ≤ k) (hT' : WT G B (upT τ k t) cs) (hc : cs[k]? = some (encC G (sZ S a f) a (vSh v x))) (hok1 : ∀ j, iv (cT.1 a j).1 (cT.1 a j).2 (f j)) (hok2 : iv (cT.2 a).1 (cT.2 a).2 0) (htA : ∀ q n, x = .inr (q, n) → t = .inr (q, n, (tB a).1, (tB a).2)) (htO : ∀ ci rf, x = .inl (ci, rf) → ci ≠ 5 ∧ ci < 100 ∧ ci ≠ 6 ∧ ∃ p, t = .inl (ci, p) ∧ ∀ j, rf[j]? = some none → (fT ci p)[j]? = some (Sum.inl (cT.1 a j) : FT)) : WvT G (upv v a k) (uph sh a x) B c0 (sZ S a f) cs (upT τ k t) := by
  obtain ⟨hT, hA, hI, hO, hD, hE, hF, hFi, hH, hL, hQ, hZ⟩ := h
  have tyS : ∀ b y, sh b = some y → v b ≠ k := fun b y hb q => by
    cases y with
    | inr z =>
      have := hD b z.1 z.2 hb
      rw [q, hk] at this
      cases this
    | inl z =>
      obtain ⟨-, -, -, p, hp, -⟩ := hE b z.1 z.2 hb
      rw [q, hk] at hp
      cases hp
  refine ⟨hT', fun b y hb => ?_, fun b c y z hb hc q => ?_, ⟨fun b j => ?_, fun b i => ?_⟩, fun b q n hb => ?_, fun b ci rf hb => ?_, fun b hb => ?_, fun b c hb hc q => ?_, fun k' k1 k2 => ?_, hL, fun b hb => ?_, fun h3 => ?_⟩
  · rcases uph_c hb with ⟨rfl, rfl⟩ | ⟨q, hb⟩
    · rw [upv_at, hc, vSh_up hx]
    · rw [upv_ne q, hA b y hb, vSh_up (hnr b y hb), encC_ne (sZ_ne q)]
  · rcases uph_c hb with ⟨rfl, -⟩ | ⟨q1, hb'⟩
    · rcases uph_c hc with ⟨rfl, -⟩ | ⟨q2, hc⟩
      · rfl
      · rw [upv_at, upv_ne q2] at q
        exact absurd q.symm (tyS c z hc)
    · rcases uph_c hc with ⟨rfl, -⟩ | ⟨q2, hc⟩
      · rw [upv_at, upv_ne q1] at q
        exact absurd q (tyS b y hb')
      · rw [upv_ne q1, upv_ne q2] at q
        exact hI b c y z hb' hc q
  · show iv _ _ (if b = a then f j else S.1 b j)
    by_cases q : b = a
    · rw [if_pos q, q]
      exact hok1 j
    · rw [if_neg q]
      exact hO.1 b j
  · show iv _ _ (if b = a then 0 else S.2 b i)
    by_cases q : b = a
    · rw [if_pos q, q]
      exact hok2
    · rw [if_neg q]
      exact hO.2 b i
  · rcases uph_c hb with ⟨rfl, e⟩ | ⟨q1, hb⟩
    · rw [upv_at, upT_at, htA q n e.symm]
    · rw [upv_ne q1, upT_ne (tyS b _ hb)]
      exact hD b q n hb
  · rcases uph_c hb with ⟨rfl, e⟩ | ⟨q1, hb⟩
    · obtain ⟨e5, e1, e6, p, e2, e3⟩ := htO ci rf e.symm
      exact ⟨e5, e1, fun z => absurd z e6, p, by rw [upv_at, upT_at, e2], fun _ => e3⟩
    · rw [upv_ne q1, upT_ne (tyS b _ hb)]
      exact hE b ci rf hb
  · have q : b ≠ a := fun q => hS (by rw [← q]; exact hb)
    obtain ⟨s1, m, r, t, ov, hSg, hM⟩ := hF b hb
    rw [upv_ne q]
    exact ⟨s1, m, r, t, ov, hSg, tM_ne (sZ_ne q) hM⟩
  · have q1 : b ≠ a := fun q => hS (by rw [← q]; exact hb)
    have q2 : c ≠ a := fun q => hS (by rw [← q]; exact hc)
    rw [upv_ne q1, upv_ne q2] at q
    exact hFi b c hb hc q
  · rw [upT_ne (by omega)]
    exact hH k' k1 k2
  · obtain ⟨p, e⟩ := hQ b hb
    exact ⟨p, by rw [upT_ne (by unfold isS at hb; omega)]; exact e⟩
  · rw [uph_ne (Ne.symm a3)] at h3
    refine ⟨(hZ h3).1, fun b y hb => ?_⟩
    rcases uph_c hb with ⟨rfl, -⟩ | ⟨q1, hb⟩
    · rw [upv_at]
      omega
    · rw [upv_ne q1]
      exact (hZ h3).2 b y hb
/-- an array of zeros -/
theorem WvT.addA {n : Nat} (h : WvT G v sh B c0 S cs τ) (ha : sh a = none) (hS : ¬ isS a) (a3 : a ≠ 3) (hnr : ∀ b y, sh b = some y → nr a y) (hk : τ k = none) (k0 : 107 ≤ k) (hc : cs[k]? = some (.inl (G.2.2.1 0, n, .inl (fun _ => 0)))) (hn : n < 2147483648) (hz : (tB a).1 ≤ 0 ∧ 0 ≤ (tB a).2 ∧ (tB a).2 ≠ 600 ∧ (tB a).2 ≠ 601) (hok1 : ∀ j, iv (cT.1 a j).1 (cT.1 a j).2 0) (hok2 : iv (cT.2 a).1 (cT.2 a).2 0) : WvT G (upv v a k) (uph sh a (.inr (0, n))) B c0 (sZ S a (fun _ => 0)) cs (upT τ k (.inr (0, n, (tB a).1, (tB a).2))) := by
  refine h.add (t := .inr (0, n, (tB a).1, (tB a).2)) ha hS a3 hnr (fun ci rf q => by cases q) hk k0 (h.1.give hk (by omega) (at_lt hc) (fun _ _ q => by cases q) (fun _ _ _ _ q => by cases q; exact hz.2.2) (fun _ _ _ _ q => by cases q; exact ⟨hn, fun _ => 0, hc, fun _ => ⟨hz.1, hz.2.1⟩⟩) (fun _ _ q => by cases q)) ?_ hok1 hok2 (fun q n e => by cases e; rfl) (fun ci rf q => by cases q)
  rw [hc]
  show _ = (some (Sum.inl (G.2.2.1 0, n, Sum.inl (fun i : Nat => Int32.ofInt (if a = a then 0 else S.2 a (i : Int))))) : Option va_E)
  simp only [if_true]
  rfl
/-- an object -/
theorem WvT.addO {ci p : Nat} {rf : List (Option Nat)} {vs : List Value} (h : WvT G v sh B c0 S cs τ) (ha : sh a = none) (hS : ¬ isS a) (a3 : a ≠ 3) (hnr : ∀ b y, sh b = some y → nr a y) (hx : some a ∉ rf) (hk : τ k = none) (k0 : 107 ≤ k) (hc : cs[k]? = some (.inr (ci, vs))) (hvs : vs = encF G f 0 (rf.map (Option.map v))) (hci : ci ≠ 5 ∧ ci ≠ 6 ∧ ci ≠ 10 ∧ ci < 100 ∧ (ci = 3 → p ≤ 200)) (hw : wF G τ (fT ci p) vs) (hf : ∀ j, rf[j]? = some none → (fT ci p)[j]? = some (Sum.inl (cT.1 a j) : FT)) (hok1 : ∀ j, iv (cT.1 a j).1 (cT.1 a j).2 (f j)) (hok2 : iv (cT.2 a).1 (cT.2 a).2 0) : WvT G (upv v a k) (uph sh a (.inl (ci, rf))) B c0 (sZ S a f) cs (upT τ k (.inl (ci, p))) := by
  refine h.add (t := .inl (ci, p)) ha hS a3 hnr (fun ci' rf' q => by cases q; exact hx) hk k0 (h.1.give hk (by omega) (at_lt hc) (fun ci' p' q => by cases q; exact hci) (fun _ _ _ _ q => by cases q) (fun _ _ _ _ q => by cases q) (fun ci' p' q => by cases q; exact ⟨vs, hc, hw⟩)) ?_ hok1 hok2 (fun q n e => by cases e) (fun ci' rf' q => by cases q; exact ⟨hci.1, hci.2.2.2.1, hci.2.1, p, rfl, hf⟩)
  rw [hc, hvs]
  show _ = some (Sum.inr (ci, encF G ((sZ S a f).1 a) 0 (rf.map (Option.map v))))
  have e : (sZ S a f).1 a = f := funext fun j => if_pos rfl
  rw [e]
end WN

