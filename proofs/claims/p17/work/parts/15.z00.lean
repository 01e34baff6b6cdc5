/-! THE MODEL'S SIDE: what it puts -/
def xf (c : Int) : List Int := if c = 36 then [95, 45] else if c = 95 then [95, 95] else [c]
/-- the raw name -/
def nL (S : St) (k : Int) : List Int := catF (fun i => [S.2 58 (8 * k + i)]) (S.2 57 k).toNat 0
/-- the model's cells hold the Env -/
def mE (S : St) (e : Env) : Prop := S.2 67 0 = eN e ∧ (∀ o, okO e o → S.2 68 o = eK e o) ∧ (∀ o f, okO e o → okF e (eK e o) f → S.2 69 (4 * o + f) = eV e o f) ∧ (∀ o f i, okO e o → okF e (eK e o) f → (eD e (eK e o) f = 1 ∨ eD e (eK e o) f = 3) → 0 ≤ i → i < eV e o f → S.2 70 (20 * (4 * o + f) + i) = eP e o f i) ∧ S.1 54 2 = eC e ∧ (∀ c, okC e c → S.2 56 c = eF e c) ∧ (∀ c f, okF e c f → S.2 59 (4 * c + f) = eD e c f ∧ S.2 60 (4 * c + f) = eM e c f) ∧ (∀ k, okN e k → iv 1 8 (S.2 57 k) ∧ eL e k = catF (fun i => xf (S.2 58 (8 * k + i))) (S.2 57 k).toNat 0)
/-- all but what is drafted is the same -/
def Om (S S' : St) : Prop := (∀ a j, ¬ (a = 54 ∧ j = 39) → S'.1 a j = S.1 a j) ∧ ∀ a, a ≠ 83 → S'.2 a = S.2 a
theorem Om.rf {S : St} : Om S S := ⟨fun _ _ _ => rfl, fun _ _ => rfl⟩
theorem Om.tr {S S1 S2 : St} (h : Om S S1) (k : Om S1 S2) : Om S S2 := ⟨fun a j q => (k.1 a j q).trans (h.1 a j q), fun a q => (k.2 a q).trans (h.2 a q)⟩
theorem mE.mv {S S' : St} {e : Env} (h : mE S e) (h2 : S'.1 54 2 = S.1 54 2) (h67 : S'.2 67 = S.2 67) (h68 : S'.2 68 = S.2 68) (h69 : S'.2 69 = S.2 69) (h70 : S'.2 70 = S.2 70) (h56 : S'.2 56 = S.2 56) (h57 : S'.2 57 = S.2 57) (h58 : S'.2 58 = S.2 58) (h59 : S'.2 59 = S.2 59) (h60 : S'.2 60 = S.2 60) : mE S' e := by
  unfold mE at h ⊢
  rw [h2, h67, h68, h69, h70, h56, h57, h58, h59, h60]
  exact h
theorem mE.om {S S' : St} {e : Env} (h : mE S e) (k : Om S S') : mE S' e := h.mv (k.1 54 2 (by decide)) (k.2 67 (by decide)) (k.2 68 (by decide)) (k.2 69 (by decide)) (k.2 70 (by decide)) (k.2 56 (by decide)) (k.2 57 (by decide)) (k.2 58 (by decide)) (k.2 59 (by decide)) (k.2 60 (by decide))
def oM (S : St) (A : List Int) : Prop := S.1 54 39 = (if A.length ≤ 3000 then (A.length : Int) else 3001) ∧ ∀ i : Nat, i < 3001 → i < A.length → S.2 83 (i : Int) = A.getD i 0
theorem oM_len {S : St} {A : List Int} (h : oM S A) : (S.1 54 39 ≤ 3000 ↔ A.length ≤ 3000) ∧ (A.length ≤ 3000 → S.1 54 39 = A.length) := by
  have h1 := h.1
  by_cases q : A.length ≤ 3000
  · rw [if_pos q] at h1
    exact ⟨⟨fun _ => q, fun _ => by omega⟩, fun _ => h1⟩
  · rw [if_neg q] at h1
    exact ⟨⟨fun r => absurd r (by omega), fun r => absurd r q⟩, fun r => absurd r q⟩
section MO
variable {S : St} {A : List Int} {K : Int → St → Prop} {e : Env} {o f c i k : Int}
theorem m_put {u : Int} (hO : oM S A) (hK : ∀ r S', Om S S' → oM S' (A ++ [u]) → K r S') : wX11_put u S K := by
  obtain ⟨h1, h2⟩ := hO
  unfold wX11_put
  intro gu g1
  have hl : (A ++ [u]).length = A.length + 1 := by simp
  refine ⟨fun h => hK 0 S Om.rf ?_, fun h => ⟨by omega, by omega, ⟨by omega, by omega⟩, fun S4 h4 => ?_⟩⟩
  · have q : ¬ A.length ≤ 3000 := fun q => by rw [if_pos q] at h1; omega
    rw [if_neg q] at h1
    refine ⟨by rw [hl, if_neg (by omega)]; exact h1, fun i hi hA => ?_⟩
    rw [List.getD_eq_getElem?_getD, List.getElem?_append_left (show i < A.length by omega), ← List.getD_eq_getElem?_getD]
    exact h2 i hi (by omega)
  · have q : A.length ≤ 3000 := by
      by_cases q : A.length ≤ 3000
      · exact q
      · rw [if_neg q] at h1
        omega
    rw [if_pos q] at h1
    have e4 : S4.1 54 39 = S.1 54 39 := by rw [h4]; rfl
    rw [e4]
    refine fun _ => ⟨⟨by omega, by omega⟩, fun S7 h7 => hK 0 S7 ?_ ?_⟩
    · rw [h7, h4]
      refine ⟨fun a j q => ?_, fun a q => ?_⟩
      · show (if a = 54 ∧ j = 39 then _ else S.1 a j) = _
        rw [if_neg q]
      · exact (pA_ne a q).2
    · rw [h7, h4]
      refine ⟨?_, fun i hi hA => ?_⟩
      · show (if 54 = 54 ∧ 39 = 39 then S.1 54 39 + 1 else S.1 54 39) = _
        rw [if_pos ⟨rfl, rfl⟩, hl, h1]
        by_cases r : A.length + 1 ≤ 3000
        · rw [if_pos r]
          rfl
        · rw [if_neg r]
          omega
      · show (if 83 = 83 ∧ (i : Int) = S.1 54 39 then u else S.2 83 i) = _
        by_cases r : i < A.length
        · rw [if_neg (by omega), List.getD_eq_getElem?_getD, List.getElem?_append_left r, ← List.getD_eq_getElem?_getD]
          exact h2 i hi r
        · have e2 : i = A.length := by omega
          rw [if_pos ⟨rfl, by omega⟩, List.getD_eq_getElem?_getD, e2, List.getElem?_append_right (Nat.le_refl _)]
          simp
theorem m_word2 {a b : Int} (hO : oM S A) (hK : ∀ S', Om S S' → oM S' (A ++ [a, b]) → K 0 S') : wX11_putWord a b 0 0 S K := by
  unfold wX11_putWord wX11_putWord_19
  intro _ _ _ _
  refine m_put hO (fun r S1 f1 o1 => m_put o1 (fun r S2 f2 o2 => ⟨fun _ => ⟨⟨by decide, by decide⟩, fun _ => hK S2 (f1.tr f2) ?_, fun h => absurd (Int.le_refl 0) h⟩, fun h => absurd (Int.le_refl 0) h⟩))
  rw [List.append_assoc] at o2
  exact o2
theorem m_word3 {a b c : Int} (hc : 0 < c) (hO : oM S A) (hK : ∀ S', Om S S' → oM S' (A ++ [a, b, c]) → K 0 S') : wX11_putWord a b c 0 S K := by
  unfold wX11_putWord wX11_putWord_19
  intro _ _ _ _
  refine m_put hO (fun r S1 f1 o1 => m_put o1 (fun r S2 f2 o2 => ⟨fun h => absurd hc (by omega), fun h => m_put o2 (fun r S3 f3 o3 => ⟨⟨by decide, by decide⟩, fun _ => hK S3 ((f1.tr f2).tr f3) ?_, fun h => absurd (Int.le_refl 0) h⟩)⟩))
  rw [List.append_assoc, List.append_assoc] at o3
  exact o3
theorem m_word4 {a b c d : Int} (hc : 0 < c) (hd : 0 < d) (hO : oM S A) (hK : ∀ S', Om S S' → oM S' (A ++ [a, b, c, d]) → K 0 S') : wX11_putWord a b c d S K := by
  unfold wX11_putWord wX11_putWord_19
  intro _ _ _ gd
  refine m_put hO (fun r S1 f1 o1 => m_put o1 (fun r S2 f2 o2 => ⟨fun h => absurd hc (by omega), fun h => m_put o2 (fun r S3 f3 o3 => ⟨gd, fun h => absurd hd (by omega), fun h => m_put o3 (fun r S4 f4 o4 => hK S4 (((f1.tr f2).tr f3).tr f4) ?_)⟩)⟩))
  rw [List.append_assoc, List.append_assoc, List.append_assoc] at o4
  exact o4
theorem m_attr {a b c d : Int} (hc : 0 < c) (hd : 0 < d) (hO : oM S A) (hK : ∀ S', Om S S' → oM S' (A ++ [32, a, b, c, d]) → K 0 S') : wX11_putAttribute a b c d S K := by
  unfold wX11_putAttribute
  intro _ _ _ _
  refine m_put hO (fun r S1 f1 o1 => m_word4 hc hd o1 (fun S2 f2 o2 => hK S2 (f1.tr f2) ?_))
  rw [List.append_assoc] at o2
  exact o2
theorem m_name (hE : mE S e) (hO : oM S A) (hk : okN e k) (hk2 : iv 0 29 k) (hK : ∀ S', Om S S' → oM S' (A ++ eL e k) → K 0 S') : wX11_putName k S K := by
  obtain ⟨h0, hL⟩ := hE.2.2.2.2.2.2.2 k hk
  unfold wX11_putName
  intro _
  unfold wX11_putName_2
  refine ⟨fun l1 l2 T => l1 = k ∧ 0 ≤ l2 ∧ l2 ≤ S.2 57 k ∧ Om S T ∧ ∃ A', oM T A' ∧ A' ++ catF (fun i => xf (S.2 58 (8 * k + i))) (S.2 57 k - l2).toNat l2 = A ++ eL e k, fun l1 l2 T => (9 - l2).toNat, ⟨rfl, by decide, by omega, Om.rf, A, hO, by rw [hL]; simp⟩, fun l1 l2 T hI => ?_⟩
  obtain ⟨rfl, i1, i2, fT, A', oT, hc⟩ := hI
  have e57 := fT.2 57 (by decide)
  have e58 := fT.2 58 (by decide)
  unfold wX11_putName_2'
  rw [e57, e58]
  refine ⟨by omega, by omega, fun _ => ⟨⟨by omega, by omega⟩, fun h => ?_, fun h => ⟨by omega, by omega, fun g x hx => ?_⟩⟩⟩
  · rw [catF_end h, List.append_nil] at hc
    exact hK T fT (by rw [← hc]; exact oT)
  · rw [catF_succ (by omega)] at hc
    rw [← hx] at hc
    have fin : ∀ (U : St) (B : List Int), Om T U → oM U B → B = A' ++ xf x → wX11_putName_64 l1 l2 U K (fun ml1 ml2 T_1 => (ml1 = l1 ∧ 0 ≤ ml2 ∧ ml2 ≤ S.2 57 l1 ∧ Om S T_1 ∧ ∃ A', oM T_1 A' ∧ A' ++ catF (fun i => xf (S.2 58 (8 * l1 + i))) (S.2 57 l1 - ml2).toNat ml2 = A ++ eL e l1) ∧ (9 - ml2).toNat < (9 - l2).toNat) := fun U B fU oU hB => by
      unfold wX11_putName_64
      refine ⟨⟨rfl, by omega, by omega, fT.tr fU, B, oU, ?_⟩, by omega⟩
      rw [← hc, hB, List.append_assoc]
    unfold wX11_putName_37 wX11_putName_52
    unfold xf at fin
    refine ⟨fun h2 => ⟨⟨by omega, by omega⟩, m_put oT (fun r U1 f1 o1 => ⟨⟨by omega, by omega⟩, fun h3 => ⟨⟨by omega, by omega⟩, fun _ => fin U1 _ f1 o1 (by rw [if_neg h2, if_neg h3]), fun h => absurd h2 h⟩, fun h3 => m_put o1 (fun r U2 f2 o2 => ⟨⟨by omega, by omega⟩, fun _ => fin U2 _ (f1.tr f2) o2 (by rw [if_neg h2, if_pos (Classical.not_not.mp h3), Classical.not_not.mp h3, List.append_assoc]; rfl), fun h => absurd h2 h⟩)⟩)⟩, fun h2 => ⟨⟨by decide, by decide⟩, m_put oT (fun r U1 f1 o1 => ⟨⟨by omega, by omega⟩, fun h3 => ⟨⟨by omega, by omega⟩, fun h => absurd h h2, fun _ => m_put o1 (fun r U2 f2 o2 => fin U2 _ (f1.tr f2) o2 (by rw [if_pos (Classical.not_not.mp h2), List.append_assoc]; rfl))⟩, fun h3 => absurd h3 (by omega)⟩)⟩⟩
def pTn : Nat → Int
  | 0 => 1
  | j + 1 => pTn j * 10
theorem pTn_b : ∀ j : Nat, j < 10 → 1 ≤ pTn j ∧ pTn j ≤ 1000000000 := by decide
theorem dgs_0 : ∀ (n : Nat) (x : Int), dgs n 0 x = []
  | 0, _ => rfl
  | n + 1, x => by rw [dgs_s, if_pos (Int.le_refl 0)]
theorem m_number {v : Int} (hv : rng v) (hO : oM S A) (hK : ∀ S', Om S S' → oM S' (A ++ num v) → K 0 S') : wX11_putNumber v S K := by
  unfold wX11_putNumber
  intro _
  obtain ⟨n, hn⟩ : ∃ n : Int, n = (if 0 < v then v else -v) := ⟨_, rfl⟩
  unfold num at hK
  rw [← hn] at hK
  have n0 : 0 ≤ n ∧ n ≤ 2147483648 := by
    by_cases q : 0 < v
    · rw [if_pos q] at hn
      omega
    · rw [if_neg q] at hn
      omega
  have key : ∀ (S1 : St) (A1 : List Int), Om S S1 → oM S1 A1 → A1 = A ++ (if v < 0 then [45] else []) → wX11_putNumber_23 n S1 K := fun S1 A1 f1 o1 ea => by
    subst ea
    unfold wX11_putNumber_23 wX11_putNumber_26
    refine ⟨fun l2 l4 T => l2 = n ∧ T = S1 ∧ ∃ j : Nat, j < 10 ∧ l4 = pTn j ∧ pwf (9 - j) l4 n = pwf 9 1 n, fun l2 l4 T => (1000000000 - l4).toNat, ⟨rfl, rfl, 0, by decide, rfl, rfl⟩, fun l2 l4 T hI => ?_⟩
    obtain ⟨rfl, rfl, j, j1, rfl, j2⟩ := hI
    have hb := pTn_b j j1
    have t1 : Int.tdiv l2 (pTn j) = l2 / pTn j := Int.tdiv_eq_ediv_of_nonneg n0.1
    have t2 : 0 ≤ l2 / pTn j := Int.ediv_nonneg n0.1 (by omega)
    have t3 : l2 / pTn j ≤ l2 := Int.ediv_le_self _ n0.1
    unfold wX11_putNumber_26'
    rw [t1]
    refine ⟨⟨by omega, by omega⟩, ⟨by omega, by omega⟩, by omega, ⟨by omega, by omega⟩, fun h => ?_, fun h x hx => ?_⟩
    · have e1 : pwf 9 1 l2 = pTn j := by
        rw [← j2]
        cases hj : 9 - j with
        | zero => rfl
        | succ m =>
          rw [pwf_s, if_neg]
          intro q
          have : 10 ≤ l2 / pTn j := (Int.le_ediv_iff_mul_le (by omega)).mpr (by omega)
          omega
      rw [e1] at hK
      unfold wX11_putNumber_48
      refine ⟨fun m2 m4 U => m2 = l2 ∧ Om S U ∧ 0 ≤ m4 ∧ m4 ≤ 1000000000 ∧ ∃ A' : List Int, oM U A' ∧ ∃ q : Nat, A' ++ dgs q m4 l2 = A ++ ((if v < 0 then [45] else []) ++ dgs 10 (pTn j) l2) ∧ (m4 = 0 ∨ ∃ i : Nat, i < q ∧ i < 10 ∧ m4 = pTn i), fun m2 m4 U => m4.toNat, ⟨rfl, f1, by omega, by omega, _, o1, 10, by rw [List.append_assoc], Or.inr ⟨j, j1, j1, rfl⟩⟩, fun m2 m4 U hJ => ?_⟩
      obtain ⟨rfl, fU, b1, b2, A', oU, q, hc, hq⟩ := hJ
      unfold wX11_putNumber_48'
      refine ⟨⟨by omega, by omega⟩, fun h4 => ?_, fun h4 => ?_⟩
      · rw [show m4 = 0 by omega, dgs_0, List.append_nil] at hc
        exact hK U fU (by rw [← hc]; exact oU)
      · obtain ⟨i, q1, q2, rfl⟩ := hq.resolve_left (by omega)
        have u1 : Int.tdiv m2 (pTn i) = m2 / pTn i := Int.tdiv_eq_ediv_of_nonneg n0.1
        have u2 : 0 ≤ m2 / pTn i := Int.ediv_nonneg n0.1 (by omega)
        have u3 : m2 / pTn i ≤ m2 := Int.ediv_le_self _ n0.1
        have u4 : Int.tdiv (Int.tdiv m2 (pTn i)) 10 = m2 / pTn i / 10 := by rw [u1]; exact Int.tdiv_eq_ediv_of_nonneg u2
        have u5 : Int.tdiv (pTn i) 10 = pTn i / 10 := Int.tdiv_eq_ediv_of_nonneg b1
        obtain ⟨q', rfl⟩ : ∃ q' : Nat, q = q' + 1 := ⟨q - 1, by omega⟩
        rw [dgs_s q', if_neg h4, u4, u1] at hc
        rw [u4, u1]
        refine ⟨⟨by omega, by omega⟩, ⟨by omega, by omega⟩, by omega, ⟨by omega, by omega⟩, ⟨by omega, by omega⟩, m_put oU (fun r U1 f2 o2 => ⟨⟨by omega, by omega⟩, fun x hx => ?_⟩)⟩
        subst hx
        refine ⟨⟨rfl, fU.tr f2, by omega, by omega, _, o2, q', ?_, ?_⟩, by dsimp only; omega⟩
        · rw [← hc, List.append_assoc]
          rfl
        · cases i with
          | zero => exact Or.inl (by rw [u5]; rfl)
          | succ i =>
            refine Or.inr ⟨i, by omega, by omega, ?_⟩
            rw [u5]
            show pTn i * 10 / 10 = pTn i
            omega
    · have h10 : pTn j * 10 ≤ l2 := by
        have : 10 ≤ l2 / pTn j := by omega
        have := (Int.le_ediv_iff_mul_le (by omega)).mp this
        omega
      have j9 : j < 9 := by
        by_cases q : j = 9
        · subst q
          have : pTn 9 = 1000000000 := rfl
          omega
        · omega
      subst hx
      refine ⟨⟨rfl, rfl, j + 1, by omega, rfl, ?_⟩, by dsimp only; omega⟩
      rw [show 9 - j = (9 - (j + 1)) + 1 by omega, pwf_s, if_pos h10] at j2
      exact j2
  unfold wX11_putNumber_12
  refine ⟨fun h => ⟨⟨by omega, by omega⟩, fun _ => ?_, fun h2 => absurd h h2⟩, fun h => ⟨⟨by omega, by omega⟩, fun h2 => absurd h2 h, fun _ => m_put hO (fun r S1 f1 o1 => ?_)⟩⟩
  · have e1 : v = n := by
      by_cases q : 0 < v
      · rw [if_pos q] at hn
        omega
      · rw [if_neg q] at hn
        omega
    have := key S A Om.rf hO (by rw [if_neg (by omega), List.append_nil])
    rw [← e1] at this
    exact this
  · have e1 : -v = n := by
      rw [if_neg (by omega)] at hn
      omega
    have := key S1 _ f1 o1 (by rw [if_pos (by omega)])
    rw [← e1] at this
    exact this
theorem m_text {q : Int} (hE : mE S e) (hV : EV e) (hO : oM S A) (ho : okO e o) (hf : okF e (eK e o) f) (hd : eD e (eK e o) f = 1) (hq : iv 0 1 q) (hK : ∀ S', Om S S' → oM S' (A ++ catF (fun i => esc q (eP e o f i)) (eV e o f).toNat 0) → K 0 S') : wX11_putText (4 * o + f) q S K := by
  have hob := okO_b hV ho
  have hfb := okF_b hV hf
  have hv := hV.2.2.2.2.2 o f ho hf
  have hv1 := hv.2.1 hd
  unfold wX11_putText
  intro _ _
  unfold wX11_putText_2
  refine ⟨fun l1 l2 l3 T => l1 = 4 * o + f ∧ l2 = q ∧ 0 ≤ l3 ∧ l3 ≤ eV e o f ∧ Om S T ∧ ∃ A', oM T A' ∧ A' ++ catF (fun i => esc q (eP e o f i)) (eV e o f - l3).toNat l3 = A ++ catF (fun i => esc q (eP e o f i)) (eV e o f).toNat 0, fun l1 l2 l3 T => (21 - l3).toNat, ⟨rfl, rfl, by decide, hv1.1.1, Om.rf, A, hO, by simp⟩, fun l1 l2 l3 T hI => ?_⟩
  obtain ⟨rfl, rfl, i1, i2, fT, A', oT, hc⟩ := hI
  have hET := hE.om fT
  have e69 := hET.2.2.1 o f ho hf
  unfold wX11_putText_2'
  rw [e69]
  refine ⟨by omega, by omega, fun _ => ⟨⟨by omega, by omega⟩, fun h => ?_, fun h => ⟨by omega, by omega, fun g x hx => ?_⟩⟩⟩
  · rw [catF_end h, List.append_nil] at hc
    exact hK T fT (by rw [← hc]; exact oT)
  · rw [hET.2.2.2.1 o f l3 ho hf (Or.inl hd) i1 (by omega)] at hx
    have hp := hv1.2 l3 i1 (by omega)
    rw [← hx] at hp
    rw [catF_succ (by omega)] at hc
    rw [← hx] at hc
    have fin : ∀ (U : St) (B : List Int), Om T U → oM U B → B = A' ++ esc l2 x → wX11_putText_136 (4 * o + f) l2 l3 U K (fun ml1 ml2 ml3 T_1 => (ml1 = 4 * o + f ∧ ml2 = l2 ∧ 0 ≤ ml3 ∧ ml3 ≤ eV e o f ∧ Om S T_1 ∧ ∃ A', oM T_1 A' ∧ A' ++ catF (fun i => esc l2 (eP e o f i)) (eV e o f - ml3).toNat ml3 = A ++ catF (fun i => esc l2 (eP e o f i)) (eV e o f).toNat 0) ∧ (21 - ml3).toNat < (21 - l3).toNat) := fun U B fU oU hB => by
      unfold wX11_putText_136
      refine ⟨⟨rfl, rfl, by omega, by omega, fT.tr fU, B, oU, ?_⟩, by omega⟩
      rw [← hc, hB, List.append_assoc]
    unfold wX11_putText_67 wX11_putText_84 wX11_putText_130
    unfold esc at fin
    refine ⟨fun h1 => ⟨fun h2 => ⟨⟨by omega, by omega⟩, fun h => absurd h2 h, fun _ => ⟨⟨by decide, by decide⟩, ⟨by decide, by decide⟩, m_word4 (by decide) (by decide) oT (fun U1 f1 o1 => fin U1 _ f1 o1 (by rw [if_neg h1, if_pos h2]))⟩⟩, fun h2 => ⟨fun h3 => ⟨fun h4 => ⟨⟨by omega, by omega⟩, m_put oT (fun r U1 f1 o1 => fin U1 _ f1 o1 (by rw [if_neg h1, if_neg h2, if_neg h3, if_neg (fun r => h4 r.1)]))⟩, fun h4 => ⟨⟨by omega, by omega⟩, fun h5 => ⟨⟨by omega, by omega⟩, m_put oT (fun r U1 f1 o1 => fin U1 _ f1 o1 (by rw [if_neg h1, if_neg h2, if_neg h3, if_neg (fun r => by have := r.2; omega)]))⟩, fun h5 => m_word4 (by decide) (by decide) oT (fun U1 f1 o1 => m_word2 o1 (fun U2 f2 o2 => fin U2 _ (f1.tr f2) o2 (by rw [if_neg h1, if_neg h2, if_neg h3, if_pos ⟨Classical.not_not.mp h4, by omega⟩, List.append_assoc]; rfl)))⟩⟩, fun h3 => ⟨⟨by omega, by omega⟩, fun _ => ⟨⟨by decide, by decide⟩, ⟨by decide, by decide⟩, m_word4 (by decide) (by decide) oT (fun U1 f1 o1 => fin U1 _ f1 o1 (by rw [if_neg h1, if_neg h2, if_pos (Classical.not_not.mp h3)]))⟩, fun h => absurd h2 h⟩⟩⟩, fun h1 => m_word4 (by decide) (by decide) oT (fun U1 f1 o1 => m_put o1 (fun r U2 f2 o2 => fin U2 _ (f1.tr f2) o2 (by rw [if_pos (Classical.not_not.mp h1), List.append_assoc]; rfl)))⟩
theorem m_value {q : Int} (hE : mE S e) (hV : EV e) (hO : oM S A) (ho : okO e o) (hf : okF e (eK e o) f) (hd : eD e (eK e o) f ≤ 1) (hq : iv 0 1 q) (hK : ∀ S', Om S S' → oM S' (A ++ sgl e o f q) → K 0 S') : wX11_putValue o f (eK e o) q S K := by
  have hob := okO_b hV ho
  have hfb := okF_b hV hf
  have hkd := (hV.2.2.2.2.1 _ _ hf).1
  have hv := hV.2.2.2.2.2 o f ho hf
  unfold wX11_putValue
  intro _ _ _ _ x hx
  subst hx
  unfold sgl at hK
  rw [(hE.2.2.2.2.2.2.1 _ _ hf).1]
  refine ⟨by omega, by omega, fun _ => ⟨fun h => ⟨⟨by omega, by omega⟩, ?_⟩, fun h => ⟨by omega, by omega, fun _ => ?_⟩⟩⟩
  · rw [if_neg h] at hK
    exact m_text hE hV hO ho hf (by omega) hq hK
  · rw [if_pos (Classical.not_not.mp h)] at hK
    rw [hE.2.2.1 o f ho hf]
    exact m_number hv.1 hO hK
theorem m_end (hE : mE S e) (hO : oM S A) (hk : okN e k) (hk2 : iv 0 29 k) (hK : ∀ S', Om S S' → oM S' (A ++ eTg e k) → K 0 S') : wX11_end k S K := by
  unfold wX11_end
  intro _
  refine m_word2 hO (fun S1 f1 o1 => m_name (hE.om f1) o1 hk hk2 (fun S2 f2 o2 => m_put o2 (fun r S3 f3 o3 => hK S3 ((f1.tr f2).tr f3) ?_)))
  unfold eTg
  rw [← List.append_assoc, ← List.append_assoc]
  exact o3
end MO

