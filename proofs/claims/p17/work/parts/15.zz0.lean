/-! WHAT IS ASKED: kind, value and count of the model -/
def hsE (e : Env) : Hs := (eN e, eK e, eV e, eP e)
/-- a heap of the model -/
def mHk (k : Int) (S : St) (e : Env) (g : Hs) : Prop := S.2 67 k = g.1 ∧ (∀ o, 0 ≤ o → o < g.1 → S.2 68 (30 * k + o) = g.2.1 o) ∧ (∀ o f, 0 ≤ o → o < g.1 → okF e (g.2.1 o) f → S.2 69 (4 * (30 * k + o) + f) = g.2.2.1 o f) ∧ ∀ o f i, 0 ≤ o → o < g.1 → okF e (g.2.1 o) f → (eD e (g.2.1 o) f = 1 ∨ eD e (g.2.1 o) f = 3) → 0 ≤ i → i < g.2.2.1 o f → S.2 70 (20 * (4 * (30 * k + o) + f) + i) = g.2.2.2 o f i
def kdH (g : Hs) (b : Int) : Int := if 0 ≤ b ∧ b < g.1 then g.2.1 b else -1
def vlH (e : Env) (g : Hs) (b f i : Int) : Int := if ¬ (0 ≤ b ∧ b < g.1) ∨ ¬ (0 ≤ f ∧ f < eF e (g.2.1 b)) then 0 else if eD e (g.2.1 b) f = 0 ∨ eD e (g.2.1 b) f = 2 then g.2.2.1 b f else if 0 ≤ i ∧ i < g.2.2.1 b f then g.2.2.2 b f i else -2
section ZA
variable {S : St} {K : Int → St → Prop} {e : Env} {g h : Hs} {k b f i a : Int}
theorem mHk0 (hE : mE S e) : mHk 0 S e (hsE e) := by
  refine ⟨hE.1, fun o o0 o1 => ?_, fun o f o0 o1 hf => ?_, fun o f i o0 o1 hf hd i0 i1 => ?_⟩
  · rw [show (30 : Int) * 0 + o = o by omega]
    exact hE.2.1 o ⟨o0, o1⟩
  · rw [show (30 : Int) * 0 + o = o by omega]
    exact hE.2.2.1 o f ⟨o0, o1⟩ hf
  · rw [show (30 : Int) * 0 + o = o by omega]
    exact hE.2.2.2.1 o f i ⟨o0, o1⟩ hf hd i0 i1
theorem mHk1 (hE : mH1 S e h) : mHk 1 S e h := by
  refine ⟨hE.1, fun o o0 o1 => ?_, fun o f o0 o1 hf => ?_, fun o f i o0 o1 hf hd i0 i1 => ?_⟩
  · rw [show (30 : Int) * 1 + o = 30 + o by omega]
    exact hE.2.1 o o0 o1
  · rw [show (30 : Int) * 1 + o = 30 + o by omega]
    exact hE.2.2.1 o f o0 o1 hf
  · rw [show (30 : Int) * 1 + o = 30 + o by omega]
    exact hE.2.2.2 o f i o0 o1 hf hd i0 i1
theorem ewE (hV : EV e) : EW e (hsE e) := by
  refine ⟨hV.1, fun o o0 o1 => hV.2.2.1 o ⟨o0, o1⟩, fun o f o0 o1 hf => ?_⟩
  obtain ⟨v1, v2, -, v4⟩ := hV.2.2.2.2.2 o f ⟨o0, o1⟩ hf
  exact ⟨v1, fun w => (v2 w).1, fun w => (v4 w).1⟩
theorem n_isK (hE : mHk k S e g) (hk : iv 0 1 k) (hK : ∀ r, (r = 1 ∧ 0 ≤ b ∧ b < g.1) ∨ (r = 0 ∧ ¬ (0 ≤ b ∧ b < g.1)) → K r S) : wX11_isObject k b S K := by
  have k0 := hk.1
  have k1 := hk.2
  unfold wX11_isObject
  intro _ _
  rw [hE.1]
  exact ⟨fun h => hK 0 (Or.inr ⟨rfl, by omega⟩), fun h => ⟨by omega, by omega, fun _ => ⟨fun h2 => hK 0 (Or.inr ⟨rfl, by omega⟩), fun h2 => hK 1 (Or.inl ⟨rfl, by omega, by omega⟩)⟩⟩⟩
theorem n_kdK (hE : mHk k S e g) (hW : EW e g) (hk : iv 0 1 k) (hK : K (kdH g b) S) : wX11_kind k b S K := by
  have k0 := hk.1
  have k1 := hk.2
  have g1 := hW.1.2
  unfold kdH at hK
  unfold wX11_kind
  refine fun _ _ => n_in (fun r hr => ?_)
  rcases hr with ⟨rfl, -⟩ | ⟨-, w⟩
  · refine ⟨⟨by decide, by decide⟩, fun w => absurd w (by decide), fun _ => n_isK hE hk (fun r hr => ?_)⟩
    rcases hr with ⟨rfl, b0, b1⟩ | ⟨rfl, w⟩
    · rw [if_pos ⟨b0, b1⟩, ← hE.2.1 b b0 b1] at hK
      exact ⟨⟨by decide, by decide⟩, fun w => absurd w (by decide), fun _ => ⟨by omega, by omega, fun _ => hK⟩⟩
    · rw [if_neg w] at hK
      exact ⟨⟨by decide, by decide⟩, fun _ => hK, fun w => absurd rfl w⟩
  · exact absurd ⟨k0, k1⟩ w
theorem n_kdN (hk : ¬ iv 0 1 k) (hK : K (-1) S) : wX11_kind k b S K := by
  unfold wX11_kind
  refine fun _ _ => n_in (fun r hr => ?_)
  rcases hr with ⟨-, w⟩ | ⟨rfl, -⟩
  · exact absurd w hk
  · exact ⟨⟨by decide, by decide⟩, fun _ => hK, fun w => absurd rfl w⟩
theorem n_kAt (hE : mHk k S e g) (hM : mE S e) (hV : EV e) (hW : EW e g) (hk : iv 0 1 k) (hK : ∀ r, (r = eD e (g.2.1 b) f ∧ (0 ≤ b ∧ b < g.1) ∧ okF e (g.2.1 b) f) ∨ (r = -1 ∧ (¬ (0 ≤ b ∧ b < g.1) ∨ ¬ (0 ≤ f ∧ f < eF e (g.2.1 b)))) → K r S) : wX11_kindAt k b f S K := by
  have k0 := hk.1
  have k1 := hk.2
  have g1 := hW.1.2
  have h6 := hV.2.1.2
  unfold wX11_kindAt
  refine fun _ _ _ => n_in (fun r hr => ?_)
  rcases hr with ⟨rfl, -⟩ | ⟨-, w⟩
  · refine ⟨⟨by decide, by decide⟩, fun w => absurd w (by decide), fun _ => n_isK hE hk (fun r hr => ?_)⟩
    rcases hr with ⟨rfl, b0, b1⟩ | ⟨rfl, w⟩
    · have hc := hW.2.1 b b0 b1
      have c0 := hc.1
      have c1 := hc.2
      have f4 := hV.2.2.2.1 _ hc
      have f41 := f4.2
      refine ⟨⟨by decide, by decide⟩, fun _ => ⟨by omega, by omega, fun _ x11 e11 => ?_⟩, fun w => absurd (by decide) w⟩
      rw [hE.2.1 b b0 b1] at e11
      rw [e11, hM.2.2.2.2.2.1 _ hc]
      refine ⟨c0, by omega, fun _ => ⟨⟨by omega, by omega⟩, n_in (fun r hr => ?_)⟩⟩
      rcases hr with ⟨rfl, f0, f1⟩ | ⟨rfl, w⟩
      · have hf : okF e (g.2.1 b) f := ⟨hc, f0, by omega⟩
        refine ⟨⟨by decide, by decide⟩, fun w => absurd w (by decide), fun _ => ⟨by omega, by omega, fun _ => ?_⟩⟩
        rw [(hM.2.2.2.2.2.2.1 _ _ hf).1]
        exact hK _ (Or.inl ⟨rfl, ⟨b0, b1⟩, hf⟩)
      · exact ⟨⟨by decide, by decide⟩, fun _ => hK _ (Or.inr ⟨rfl, Or.inr (fun z => w ⟨z.1, by omega⟩)⟩), fun w => absurd rfl w⟩
    · exact ⟨⟨by decide, by decide⟩, fun w => absurd rfl w, fun _ => hK _ (Or.inr ⟨rfl, Or.inl w⟩)⟩
  · exact absurd ⟨k0, k1⟩ w
theorem n_vlK (hE : mHk k S e g) (hM : mE S e) (hV : EV e) (hW : EW e g) (hk : iv 0 1 k) (hK : K (vlH e g b f i) S) : wX11_value k b f i S K := by
  have k0 := hk.1
  have k1 := hk.2
  have g1 := hW.1.2
  unfold vlH at hK
  unfold wX11_value
  refine fun _ _ _ _ => n_kAt hE hM hV hW hk (fun r hr => ?_)
  rcases hr with ⟨rfl, ⟨b0, b1⟩, hf⟩ | ⟨rfl, w⟩
  · have hD := (hV.2.2.2.2.1 _ _ hf).1
    have d0 := hD.1
    have d3 := hD.2
    have f4 := okF4 hV hf
    rw [if_neg (fun z => z.elim (fun y => y ⟨b0, b1⟩) (fun y => y hf.2))] at hK
    have e69 := hE.2.2.1 b f b0 b1 hf
    refine ⟨⟨by omega, by omega⟩, fun _ x5 e5 => ?_, fun w => absurd w (by omega)⟩
    rw [e5, e69]
    refine ⟨fun w => ?_, fun w => ⟨fun w2 => ?_, fun w2 => ?_⟩⟩
    · rw [if_pos (Or.inl w)] at hK
      exact ⟨by omega, by omega, fun _ => hK⟩
    · rw [if_neg (fun z => z.elim w w2)] at hK
      have hd : eD e (g.2.1 b) f = 1 ∨ eD e (g.2.1 b) f = 3 := by omega
      have c20 := hW.c20 b0 b1 hf hd
      have v0 : 0 ≤ g.2.2.1 b f := by
        obtain ⟨-, b2, b3⟩ := hW.2.2 b f b0 b1 hf
        rcases hd with z | z
        · exact (b2 z).1
        · exact (b3 z).1
      refine ⟨by omega, by omega, fun _ => ⟨⟨by omega, by omega⟩, n_in (fun r hr => ?_)⟩⟩
      rcases hr with ⟨rfl, i0, i1⟩ | ⟨rfl, w3⟩
      · rw [if_pos ⟨i0, by omega⟩, ← hE.2.2.2 b f i b0 b1 hf hd i0 (by omega)] at hK
        exact ⟨⟨by decide, by decide⟩, fun w => absurd w (by decide), fun _ => ⟨by omega, by omega, fun _ => hK⟩⟩
      · rw [if_neg (fun z => w3 ⟨z.1, by omega⟩)] at hK
        exact ⟨⟨by decide, by decide⟩, fun _ => hK, fun w => absurd rfl w⟩
    · rw [if_pos (Or.inr (Classical.not_not.mp w2))] at hK
      exact ⟨by omega, by omega, fun _ => hK⟩
  · rw [if_pos w] at hK
    exact ⟨⟨by decide, by decide⟩, fun w => absurd rfl w, fun _ => hK⟩
theorem n_vlN (hk : ¬ iv 0 1 k) (hK : K 0 S) : wX11_value k b f i S K := by
  unfold wX11_value
  refine fun _ _ _ _ => ?_
  unfold wX11_kindAt
  refine fun _ _ _ => n_in (fun r hr => ?_)
  rcases hr with ⟨-, w⟩ | ⟨rfl, -⟩
  · exact absurd w hk
  · exact ⟨⟨by decide, by decide⟩, fun _ => ⟨⟨by decide, by decide⟩, fun w => absurd rfl w, fun _ => hK⟩, fun w => absurd rfl w⟩
/-- how many classes are forbidden -/
def fbN (w : Int → Int) : Nat → Int
  | 0 => 0
  | k + 1 => fbN w k + (if w (k : Int) = 0 then 0 else 1)
def ctM (S : St) (a : Int) : Int := if a = 0 then S.1 54 2 else if a = 1 then S.2 67 0 else if a = 2 then S.2 67 1 else if a = 3 then S.1 54 20 else if a = 4 then S.1 54 0 else if a = 5 then fbN (S.2 61) (S.1 54 2).toNat else -1
theorem n_cnt (hc : iv 0 6 (S.1 54 2)) (hK : K (ctM S a) S) : wX11_count a S K := by
  have h0 := hc.1
  have h1 := hc.2
  unfold wX11_count
  refine fun ra => ⟨fun l1 l2 l3 S' => l1 = a ∧ S' = S ∧ 0 ≤ l3 ∧ l3 ≤ S.1 54 2 ∧ l2 = fbN (S.2 61) l3.toNat, fun _ _ l3 _ => (S.1 54 2 - l3).toNat, ⟨rfl, rfl, by decide, h0, rfl⟩, ?_⟩
  rintro l1 l2 l3 S' ⟨rfl, rfl, i0, i1, hl⟩
  unfold ctM at hK
  refine fun _ => ⟨⟨by omega, by omega⟩, fun w => ?_, fun w => ⟨i0, by omega, fun _ => ?_⟩⟩
  · have e3 : l3 = S'.1 54 2 := by omega
    refine ⟨ra, fun z => ?_, fun z => ?_, fun z => ⟨by decide, by decide, fun _ => ?_⟩, fun z => ⟨by decide, by decide, fun _ => ?_⟩, fun z _ => ?_, fun z _ => ?_, fun z => ?_⟩
    · rw [if_neg (by omega), if_neg (by omega), if_neg (by omega), if_neg (by omega), if_neg (by omega), if_neg (by omega)] at hK
      exact hK
    · rw [if_pos z] at hK
      exact hK
    · rw [if_neg (by omega), if_pos z] at hK
      exact hK
    · rw [if_neg (by omega), if_neg (by omega), if_pos z] at hK
      exact hK
    · rw [if_neg (by omega), if_neg (by omega), if_neg (by omega), if_pos z] at hK
      exact hK
    · rw [if_neg (by omega), if_neg (by omega), if_neg (by omega), if_neg (by omega), if_pos z] at hK
      exact hK
    · rw [if_neg (by omega), if_neg (by omega), if_neg (by omega), if_neg (by omega), if_neg (by omega), if_pos z, ← e3, ← hl] at hK
      exact hK
  · have es : (l3 + 1).toNat = l3.toNat + 1 := by omega
    have ec : ((l3.toNat : Nat) : Int) = l3 := by omega
    have mes : (S'.1 54 2 - (l3 + 1)).toNat < (S'.1 54 2 - l3).toNat := by omega
    refine ⟨fun z => ⟨⟨rfl, rfl, by omega, by omega, ?_⟩, mes⟩, fun z => ⟨⟨rfl, rfl, by omega, by omega, ?_⟩, mes⟩⟩
    · rw [es]
      unfold fbN
      rw [ec, if_pos z, hl]
      omega
    · rw [es]
      unfold fbN
      rw [ec, if_neg z, hl]
end ZA

