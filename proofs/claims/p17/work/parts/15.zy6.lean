/-! WHETHER TWO GRAPHS ARE THE SAME: the model's pairs -/
/-- the model's heap that was read (heap 1: objects 30 to 59) -/
def mH1 (S : St) (e : Env) (h : Hs) : Prop := S.2 67 1 = h.1 ∧ (∀ o, 0 ≤ o → o < h.1 → S.2 68 (30 + o) = h.2.1 o) ∧ (∀ o f, 0 ≤ o → o < h.1 → okF e (h.2.1 o) f → S.2 69 (4 * (30 + o) + f) = h.2.2.1 o f) ∧ ∀ o f i, 0 ≤ o → o < h.1 → okF e (h.2.1 o) f → (eD e (h.2.1 o) f = 1 ∨ eD e (h.2.1 o) f = 3) → 0 ≤ i → i < h.2.2.1 o f → S.2 70 (20 * (4 * (30 + o) + f) + i) = h.2.2.2 o f i
def LQm (S : St) (Q : Pq) : Prop := S.1 54 71 = Q.length ∧ ∀ k : Nat, k < Q.length → S.2 105 k = (Q.getD k (0, 0)).1 ∧ S.2 106 k = (Q.getD k (0, 0)).2
/-- only the model's pairs change -/
def LFm (S S' : St) : Prop := (∀ a j, ¬ (a = 54 ∧ j = 71) → S'.1 a j = S.1 a j) ∧ ∀ a, ¬ a = 105 → ¬ a = 106 → S'.2 a = S.2 a
theorem LFm.rf {S : St} : LFm S S := ⟨fun _ _ _ => rfl, fun _ _ _ => rfl⟩
theorem LFm.tr {S S1 S2 : St} (h : LFm S S1) (g : LFm S1 S2) : LFm S S2 := ⟨fun a j q => (g.1 a j q).trans (h.1 a j q), fun a q r => (g.2 a q r).trans (h.2 a q r)⟩
def LOm (S : St) (res : Option Pq) (r : Int) (S' : St) : Prop := LFm S S' ∧ ((r = 0 ∧ res = none) ∨ (r = 1 ∧ ∃ Q', res = some Q' ∧ LQm S' Q'))
section YG
variable {S S' : St} {K : Int → St → Prop} {e : Env} {h : Hs} {Q Q' : Pq} {a b f i o : Int}
theorem mE.lm (hE : mE S e) (g : LFm S S') : mE S' e := by
  unfold mE at hE ⊢
  rw [g.2 67 (by decide) (by decide), g.2 68 (by decide) (by decide), g.2 69 (by decide) (by decide), g.2 70 (by decide) (by decide), g.1 54 2 (by decide), g.2 56 (by decide) (by decide), g.2 59 (by decide) (by decide), g.2 60 (by decide) (by decide), g.2 57 (by decide) (by decide), g.2 58 (by decide) (by decide)]
  exact hE
theorem mH1.lm (hE : mH1 S e h) (g : LFm S S') : mH1 S' e h := by
  unfold mH1 at hE ⊢
  rw [g.2 67 (by decide) (by decide), g.2 68 (by decide) (by decide), g.2 69 (by decide) (by decide), g.2 70 (by decide) (by decide)]
  exact hE
theorem tg_rng {N v : Int} (hN : iv 0 30 N) (hv : tgV N v) : rng v := by
  rcases hv with y | y
  · rw [y]
    exact ⟨by decide, by decide⟩
  · have := hN.2
    exact ⟨by omega, by omega⟩
theorem n_pair (hN : iv 0 30 (eN e)) (hH : iv 0 30 h.1) (hL : LQm S Q) (hQ : QI e h Q) (ha : tgV (eN e) a) (hb : tgV h.1 b) (hK : ∀ r S', LOm S (prX false e h Q a b) r S' → K r S') : wX11_pair a b S K := by
  have ql := hQ.len hN.2
  obtain ⟨l1, l2⟩ := hL
  unfold prX at hK
  have t12 : (a = -2 ∨ b = -2) → wX11_pair_12 a b S K := fun w => by
    rw [if_pos w] at hK
    unfold wX11_pair_12
    refine ⟨tg_rng hN ha, tg_rng hH hb, fun y => ?_, fun y => ?_⟩
    · rw [if_neg y] at hK
      exact hK 0 S ⟨LFm.rf, Or.inl ⟨rfl, rfl⟩⟩
    · rw [if_pos (Classical.not_not.mp y)] at hK
      exact hK 1 S ⟨LFm.rf, Or.inr ⟨rfl, Q, rfl, l1, l2⟩⟩
  unfold wX11_pair
  refine fun _ _ => ⟨fun w => t12 (Or.inl w), fun w => ⟨fun w2 => ?_, fun w2 => t12 (Or.inr (Classical.not_not.mp w2))⟩⟩
  have ha := ha.resolve_left w
  have hb := hb.resolve_left w2
  have n2 := hN.2
  have h2 := hH.2
  rw [if_neg (fun z => z.elim w w2)] at hK
  refine ⟨fun x1 x2 x3 S' => x1 = a ∧ x2 = b ∧ S' = S ∧ 0 ≤ x3 ∧ x3 ≤ Q.length ∧ ∀ k : Nat, (k : Int) < x3 → ¬ ((Q.getD k (0, 0)).1 = a ∨ (Q.getD k (0, 0)).2 = b), fun _ _ x3 _ => ((Q.length : Int) - x3).toNat, ⟨rfl, rfl, rfl, by decide, by omega, fun k hk => absurd hk (by omega)⟩, ?_⟩
  rintro x1 x2 x3 S' ⟨rfl, rfl, rfl, c0, c1, hn⟩
  intro _
  rw [l1]
  have t53 : ∀ k : Nat, x3 = k → k < Q.length → ((Q.getD k (0, 0)).1 = x1 ∨ (Q.getD k (0, 0)).2 = x2) → wX11_pair_53 x1 x2 x3 S' K := fun k ek hk hor => by
    have hany : Q.any (fun q => decide (q.1 = x1 ∨ q.2 = x2)) = true := List.any_eq_true.mpr ⟨_, getD_mem (d := (0, 0)) hk, decide_eq_true hor⟩
    rw [if_pos hany] at hK
    obtain ⟨k1, k2⟩ := l2 k hk
    have hin : (x1, x2) ∈ Q → (Q.getD k (0, 0)).1 = x1 ∧ (Q.getD k (0, 0)).2 = x2 := fun z => by
      obtain ⟨j, hj, ej⟩ := mem_getD (d := ((0, 0) : Int × Int)) z
      have := hQ.2 k j hk hj (by rw [ej]; exact hor)
      rw [this, ej]
      exact ⟨rfl, rfl⟩
    unfold wX11_pair_53
    rw [ek, k1, k2]
    refine ⟨by omega, by omega, fun _ => ⟨⟨by omega, by omega⟩, fun y => ?_, fun y => ⟨by omega, by omega, fun _ => ⟨⟨by omega, by omega⟩, fun y2 => ?_, fun y2 => ?_⟩⟩⟩⟩
    · rw [if_neg (fun z => y (hin z).1)] at hK
      exact hK 0 S' ⟨LFm.rf, Or.inl ⟨rfl, rfl⟩⟩
    · rw [if_neg (fun z => y2 (hin z).2)] at hK
      exact hK 0 S' ⟨LFm.rf, Or.inl ⟨rfl, rfl⟩⟩
    · have y := Classical.not_not.mp y
      have y2 := Classical.not_not.mp y2
      have hm : (x1, x2) ∈ Q := by
        rw [← y, ← y2]
        exact getD_mem (d := ((0, 0) : Int × Int)) hk
      rw [if_pos hm] at hK
      exact hK 1 S' ⟨LFm.rf, Or.inr ⟨rfl, Q, rfl, l1, l2⟩⟩
  refine ⟨⟨by omega, by omega⟩, fun y => ?_, fun y => ?_⟩
  · have hany : ¬ Q.any (fun q => decide (q.1 = x1 ∨ q.2 = x2)) = true := fun z => by
      obtain ⟨q, hq, z⟩ := List.any_eq_true.mp z
      rw [decide_eq_true_eq] at z
      obtain ⟨j, hj, ej⟩ := mem_getD (d := ((0, 0) : Int × Int)) hq
      exact hn j (by omega) (by rw [ej]; exact z)
    rw [if_neg hany, if_neg (fun z => Bool.noConfusion z.1)] at hK
    have qn := (hQ.new ha hb hany).len hN.2
    rw [len1] at qn
    refine ⟨by omega, by omega, ⟨by omega, by omega⟩, fun S5 e5 _ => ?_⟩
    have q5 : S5.1 = S'.1 := by rw [e5]; rfl
    rw [q5, l1]
    refine ⟨by omega, by omega, ⟨by omega, by omega⟩, fun S9 e9 _ => ?_⟩
    have q9 : S9.1 = S'.1 := by rw [e9]; exact q5
    rw [q9, l1]
    refine ⟨⟨by omega, by omega⟩, fun S12 e12 => hK 1 S12 ⟨⟨fun c j q => ?_, fun c q r => ?_⟩, Or.inr ⟨rfl, _, rfl, ?_, fun k hk => ?_⟩⟩⟩
    · rw [e12, pI_j q, q9]
    · rw [e12]
      show S9.2 c = _
      rw [e9, (pA_ne c r).2, e5, (pA_ne c q).2]
    · rw [e12, pI_v, len1]
      omega
    · rw [len1] at hk
      rw [e12]
      show S9.2 105 k = _ ∧ S9.2 106 k = _
      rw [e9, (pA_ne 105 (by decide)).2, pA_if, e5, pA_if, (pA_ne 106 (by decide)).2]
      by_cases c : k = Q.length
      · rw [if_pos (by omega), if_pos (by omega), gD_r c]
        exact ⟨rfl, rfl⟩
      · rw [if_neg (by omega), if_neg (by omega), gD_l (by omega)]
        exact l2 k (by omega)
  · have hk : x3.toNat < Q.length := by omega
    have ek : x3 = (x3.toNat : Int) := by omega
    obtain ⟨k1, k2⟩ := l2 x3.toNat hk
    rw [← ek] at k1 k2
    rw [k1, k2]
    refine ⟨c0, by omega, fun _ => ⟨⟨by omega, by omega⟩, fun z => t53 _ ek hk (Or.inl z), fun z => ⟨c0, by omega, fun _ => ⟨⟨by omega, by omega⟩, fun z2 => ⟨⟨rfl, rfl, rfl, by omega, by omega, fun k hk2 => ?_⟩, ?_⟩, fun z2 => t53 _ ek hk (Or.inr (Classical.not_not.mp z2))⟩⟩⟩⟩
    · by_cases c : k = x3.toNat
      · rw [c]
        exact fun w => w.elim z z2
      · exact hn k (by omega)
    · show ((Q.length : Int) - (x3 + 1)).toNat < ((Q.length : Int) - x3).toNat
      omega
end YG

