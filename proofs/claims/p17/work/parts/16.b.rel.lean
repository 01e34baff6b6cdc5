/-! WHAT HOLDS BETWEEN CALLS: the class and the model are alike -/
def Jc (c0 : List va_E) : St → List va_E → Prop := fun _ cs => cs.length = c0.length ∧ xZ cs = xZ c0 ∧ ∀ a, shM a = none → cs[a]? = c0[a]?
theorem Jc_stb (c0 : List va_E) : Stb shM (Jc c0) := by
  intro S S' cs a x e0 e h hs h0 hz hn
  refine ⟨by rw [List.length_set]; exact h.1, by rw [xZ_set h0 hz]; exact h.2.1, fun b hb => ?_⟩
  rw [List.getElem?_set_ne fun q => by subst q; rw [hs] at hb; cases hb]
  exact h.2.2 b hb
theorem Wd.toJ {G : xG} {S : St} {cs : List va_E} (h : Wd G shM mT (fun _ _ => True) S cs) : Wd G shM mT (Jc cs) S cs := ⟨h.1, h.2.1, rfl, rfl, fun _ _ => rfl⟩
theorem Wd.cl {G : xG} {S : St} {cs c1 : List va_E} (h : Wd G shM mT (fun _ _ => True) S cs) (k : ∀ a, 54 ≤ a → a < 107 → c1[a]? = cs[a]?) : Wd G shM mT (fun _ _ => True) S c1 := ⟨fun a x hs => by
    have q := shM_s hs
    rw [k a q.1 q.2]
    exact h.1 a x hs, h.2.1, trivial⟩
theorem B0_ok {k : Nat} (h : k ≤ 512) : (B0 k).1 + 6020 ≤ 600000 ∧ (B0 k).2 + 400000 ≤ 7302250 := by
  unfold B0
  exact ⟨by show _ + 20 * k + 6020 ≤ _; omega, by show _ + 1200 * k + 400000 ≤ _; omega⟩
theorem B0_s {k : Nat} : B0 (k + 1) = ((B0 k).1 + 20, (B0 k).2 + 1200) := by
  unfold B0
  rw [show 20 * (k + 1) = 20 * k + 20 by omega, show 1200 * (k + 1) = 1200 * k + 1200 by omega, ← Nat.add_assoc, ← Nat.add_assoc]
/-- before a call: k calls may have been made -/
def LR (G : xG) (k : Nat) (cs : List va_E) : Prop := ∃ (v : Nat → Nat) (S Sm : St), Wv G v shC (B0 k) cs S cs ∧ VV v ∧ QT G v cs ∧ Wd G shM mT (fun _ _ => True) Sm cs ∧ RR S Sm
/-- the class has made the call, the model not yet -/
def LM (G : xG) (k : Nat) (v : Nat → Nat) (S Sm : St) (cs : List va_E) : Prop := Wv G v shC (B0 (k + 1)) cs S cs ∧ VV v ∧ QT G v cs ∧ Wd G shM mT (fun _ _ => True) Sm cs
theorem Wv.mod {G : xG} {v : Nat → Nat} {B : Nat × Nat} {S : St} {c1 c2 : List va_E} (hW : Wv G v shC B c1 S c1) (j1 : c2.length = c1.length) (j2 : xZ c2 = xZ c1) (j3 : ∀ a, shM a = none → c2[a]? = c1[a]?) : Wv G v shC B c2 S c2 ∧ c2[3]? = c1[3]? := by
  obtain ⟨τ, hT, hA, hI, hO, hD, hE, hF, hFi, hH, hL, hQ, hZ⟩ := hW
  have ty : ∀ a t, τ a = some t → c2[a]? = c1[a]? := fun a t h => j3 a (shM_n (by
    by_cases q : a < 54 ∨ 107 ≤ a
    · exact q
    · rw [(hH a (by omega) (by omega)).1] at h
      cases h))
  refine ⟨⟨τ, hT.alter (by omega) ty (by omega) (by omega) hT.2.2.2.2.2.2.2.2.1 hT.2.2.2.2.2.2.2.2.2, fun a x h => ?_, hI, hO, hD, hE, fun a h => ?_, hFi, fun k k1 k2 => ⟨(hH k k1 k2).1, rfl⟩, by omega, hQ, fun h3 => ⟨rfl, (hZ h3).2⟩⟩, ?_⟩
  · have e : c2[v a]? = c1[v a]? := by
      cases x with
      | inl q =>
        obtain ⟨-, -, -, p, hp, -⟩ := hE a q.1 q.2 h
        exact ty _ _ hp
      | inr q => exact ty _ _ (hD a q.1 q.2 h)
    rw [e]
    exact hA a x h
  · obtain ⟨s1, m, r, t, ov, hS, hM⟩ := hF a h
    refine ⟨s1, m, r, t, ov, ?_, hM⟩
    obtain ⟨pp, hp⟩ := hQ (v a) s1
    obtain ⟨r', t', ov', hS2, hr'⟩ := hT.2.2.1 (v a) pp hp
    have e := (hS.uq hS2).1
    subst e
    obtain ⟨f, q1, q2, q3⟩ := hS
    exact ⟨f, (ty _ _ hp).trans q1, (ty _ _ hr').trans q2, q3⟩
  · obtain ⟨p3, z3⟩ := hT.2.1.2.1
    exact ty _ _ z3
theorem LR_m {G : xG} {k : Nat} {v : Nat → Nat} {S Sm Sm' : St} {c1 c2 : List va_E} (h : LM G k v S Sm c1) (hM : Wd G shM mT (Jc c1) Sm' c2) (hR : RR S Sm') : LR G (k + 1) c2 := by
  obtain ⟨hW, hV, hZ, -⟩ := h
  obtain ⟨j1, j2, j3⟩ := hM.2.2
  obtain ⟨hW2, fz⟩ := hW.mod j1 j2 j3
  exact ⟨v, S, Sm', hW2, hV, hZ.mv fz (fun _ _ _ => rfl), ⟨hM.1, hM.2.1, trivial⟩, hR⟩
theorem Wv.tl {G : xG} {v : Nat → Nat} {B : Nat × Nat} {c0 : List va_E} {S : St} {cs : List va_E} {a : Nat} (hW : Wv G v shC B c0 S cs) (ha : isS a) : iv 0 3000 (S.1 a 1) ∧ ∀ p : Int, 0 ≤ p → p < S.1 a 1 → iv 0 65535 (S.2 a p) := by
  obtain ⟨n, r, t, ov, -, -, hM, hl, -⟩ := hW.sg ha (fun b x h e => shC_nS b x h (e ▸ ha))
  obtain ⟨h1, -, h3⟩ := hM
  refine ⟨⟨by omega, by omega⟩, fun p p0 p1 => ?_⟩
  have q := (h3 p.toNat (by omega)).2
  rw [show ((p.toNat : Nat) : Int) = p by omega] at q
  exact q
/-- one step of the class's world to k + 1 calls -/
theorem LM_of {G : xG} {k : Nat} {v : Nat → Nat} {B : Nat × Nat} {S S' Sm : St} {cs c1 : List va_E} (hk : k ≤ 511) (hW : Wv G v shC B cs S' c1) (hB : B.1 ≤ (B0 k).1 + 20 ∧ B.2 ≤ (B0 k).2 + 1200) (hV : VV v) (hZ : QT G v cs) (hM : Wd G shM mT (fun _ _ => True) Sm cs) : LM G k v S' Sm c1 := by
  have b := B0_ok (k := k) (by omega)
  refine ⟨hW.base.up (by rw [B0_s]; exact hB.1) (by rw [B0_s]; exact hB.2) (by rw [B0_s]; show (B0 k).1 + 20 ≤ _; omega) (by rw [B0_s]; show (B0 k).2 + 1200 ≤ _; omega), hV, hZ.wv hW rfl, hM.cl (fun a q1 q2 => hW.fz ⟨q1, q2⟩)⟩
/-- what the class's call brings: the model's may follow -/
def CQ (G : xG) (k : Nat) (w : St → (Int → St → Prop) → Prop) : xP := fun r c1 => ∃ (x : Int) (v : Nat → Nat) (S' Sm : St), r = some (.int (Int32.ofInt x)) ∧ LM G k v S' Sm c1 ∧ w Sm (KK x S')
/-- the same where answers are not compared -/
def CN (G : xG) (k : Nat) (w : St → (Int → St → Prop) → Prop) : xP := fun r c1 => ∃ (x : Int) (v : Nat → Nat) (S' Sm : St), r = some (.int (Int32.ofInt x)) ∧ LM G k v S' Sm c1 ∧ w Sm (KN S')
theorem CQ_v {G : xG} {k : Nat} {v : Nat → Nat} {S Sm : St} {cs : List va_E} {w : St → (Int → St → Prop) → Prop} {r : Option Value} {c1 : List va_E} (hk : k ≤ 511) (hV : VV v) (hZ : QT G v cs) (hM : Wd G shM mT (fun _ _ => True) Sm cs) (h : vI G v shC (B0 k) cs (fun x S' => w Sm (KK x S')) r c1) : CQ G k w r c1 := by
  obtain ⟨x, S', e, hw, hW⟩ := h
  exact ⟨x, v, S', Sm, e, LM_of (S := S) hk hW ⟨Nat.le_add_right _ _, Nat.le_add_right _ _⟩ hV hZ hM, hw⟩
section CL
variable {G : xG} {k : Nat} {cs : List va_E} {a1 a2 a3 a4 : Int}
theorem cl_unit (hL : LR G k cs) (hk : k ≤ 511) (g1 : rng a1) : X G yX10_unit cX10_unit 2 (some .boolean) 2 [.ref (G.1 + 0), .int (Int32.ofInt a1)] cs (CQ G k (fun Sm K => wX11_unit a1 Sm K)) := by
  obtain ⟨v, S, Sm, hW, hV, hZ, hM, hR⟩ := hL
  have h := lX10_unit (K := fun x S' => wX11_unit a1 Sm (KK x S')) 2 (Nat.le_refl _) (fun _ _ h => h) shC_nS hW g1 (p_unit hR (hW.tl (by unfold isS; decide)).1)
  rw [hV.1] at h
  exact h.mono (fun r c1 hp => CQ_v (S := S) hk hV hZ hM hp)
theorem cl_make (hL : LR G k cs) (hk : k ≤ 511) (g1 : rng a1) : X G yX10_make cX10_make 2 (some .int) 2 [.ref (G.1 + 0), .int (Int32.ofInt a1)] cs (CQ G k (fun Sm K => wX11_make a1 Sm K)) := by
  obtain ⟨v, S, Sm, hW, hV, hZ, hM, hR⟩ := hL
  have h := lX10_make (K := fun x S' => wX11_make a1 Sm (KK x S')) 2 (Nat.le_refl _) (fun _ _ h => h) shC_nS hW g1 (p_make hR)
  rw [hV.1] at h
  exact h.mono (fun r c1 hp => CQ_v (S := S) hk hV hZ hM hp)
theorem cl_set (hL : LR G k cs) (hk : k ≤ 511) (g1 : rng a1) (g2 : rng a2) (g3 : rng a3) : X G yX10_set cX10_set 6 (some .boolean) 3 [.ref (G.1 + 0), .int (Int32.ofInt a1), .int (Int32.ofInt a2), .int (Int32.ofInt a3)] cs (CQ G k (fun Sm K => wX11_set a1 a2 a3 Sm K)) := by
  obtain ⟨v, S, Sm, hW, hV, hZ, hM, hR⟩ := hL
  have h := lX10_set (K := fun x S' => wX11_set a1 a2 a3 Sm (KK x S')) 3 (Nat.le_refl _) (fun _ _ h => h) shC_nS hW g1 g2 g3 (p_set hR g3)
  rw [hV.1] at h
  exact h.mono (fun r c1 hp => CQ_v (S := S) hk hV hZ hM hp)
theorem cl_text (hL : LR G k cs) (hk : k ≤ 511) (g1 : rng a1) (g2 : rng a2) : X G yX10_text cX10_text 3 (some .boolean) 3 [.ref (G.1 + 0), .int (Int32.ofInt a1), .int (Int32.ofInt a2)] cs (CQ G k (fun Sm K => wX11_text a1 a2 Sm K)) := by
  obtain ⟨v, S, Sm, hW, hV, hZ, hM, hR⟩ := hL
  have ht := hW.tl (a := 1) (by unfold isS; decide)
  have h := lX10_text (K := fun x S' => wX11_text a1 a2 Sm (KK x S')) 3 (Nat.le_refl _) (fun _ _ h => h) shC_nS hW g1 g2 (p_text hR ht.1 ht.2)
  rw [hV.1] at h
  exact h.mono (fun r c1 hp => CQ_v (S := S) hk hV hZ hM hp)
theorem cl_add (hL : LR G k cs) (hk : k ≤ 511) (g1 : rng a1) (g2 : rng a2) (g3 : rng a3) : X G yX10_add cX10_add 4 (some .int) 3 [.ref (G.1 + 0), .int (Int32.ofInt a1), .int (Int32.ofInt a2), .int (Int32.ofInt a3)] cs (CQ G k (fun Sm K => wX11_add a1 a2 a3 Sm K)) := by
  obtain ⟨v, S, Sm, hW, hV, hZ, hM, hR⟩ := hL
  have h := lX10_add (K := fun x S' => wX11_add a1 a2 a3 Sm (KK x S')) 3 (Nat.le_refl _) (fun _ _ h => h) shC_nS hW g1 g2 g3 (p_add hR)
  rw [hV.1] at h
  exact h.mono (fun r c1 hp => CQ_v (S := S) hk hV hZ hM hp)
theorem cl_sign (hL : LR G k cs) (hk : k ≤ 511) (g1 : rng a1) : X G yX10_sign cX10_sign 2 (some .int) 1 [.ref (G.1 + 0), .int (Int32.ofInt a1)] cs (CQ G k (fun Sm K => wX11_sign a1 Sm K)) := by
  obtain ⟨v, S, Sm, hW, hV, hZ, hM, hR⟩ := hL
  have h := lX10_sign (K := fun x S' => wX11_sign a1 Sm (KK x S')) 1 (Nat.le_refl _) (fun _ _ h => h) shC_nS hW g1 (p_sign hR (hW.tl (a := 20) (by unfold isS; decide)).1)
  rw [hV.1] at h
  exact h.mono (fun r c1 hp => CQ_v (S := S) hk hV hZ hM hp)
theorem cl_take (hL : LR G k cs) (hk : k ≤ 511) : X G yX10_take cX10_take 1 (some .int) 3 [.ref (G.1 + 0)] cs (CQ G k (fun Sm K => wX11_take Sm K)) := by
  obtain ⟨v, S, Sm, hW, hV, hZ, hM, hR⟩ := hL
  have h := lX10_take (K := fun x S' => wX11_take Sm (KK x S')) 3 (Nat.le_refl _) (fun _ _ h => h) shC_nS hW (p_take hR (hW.tl (a := 20) (by unfold isS; decide)).1)
  rw [hV.1] at h
  exact h.mono (fun r c1 hp => CQ_v (S := S) hk hV hZ hM hp)
theorem cl_forbid (hL : LR G k cs) (hk : k ≤ 511) (g1 : rng a1) (g2 : rng a2) (hb : iv 0 1 a2) : X G yX10_forbid cX10_forbid 4 (some .boolean) 2 [.ref (G.1 + 0), .int (Int32.ofInt a1), .int (Int32.ofInt a2)] cs (CQ G k (fun Sm K => wX11_forbid a1 a2 Sm K)) := by
  obtain ⟨v, S, Sm, hW, hV, hZ, hM, hR⟩ := hL
  have h := lX10_forbid (K := fun x S' => wX11_forbid a1 a2 Sm (KK x S')) 2 (Nat.le_refl _) (fun _ _ h => h) shC_nS hW g1 g2 (p_forbid hR hb (fun c => hW.iA 32 c))
  rw [hV.1] at h
  exact h.mono (fun r c1 hp => CQ_v (S := S) hk hV hZ hM hp)
theorem cl_limit (hL : LR G k cs) (hk : k ≤ 511) (g1 : rng a1) : X G yX10_limit cX10_limit 3 (some .int) 0 [.ref (G.1 + 0), .int (Int32.ofInt a1)] cs (CQ G k (fun Sm K => wX11_limit a1 Sm K)) := by
  obtain ⟨v, S, Sm, hW, hV, hZ, hM, hR⟩ := hL
  have h := c_limit 0 hW g1
  rw [hV.1] at h
  refine h.mono (fun r c1 hp => ?_)
  obtain ⟨x, S', e, hW1, hc⟩ := hp
  exact ⟨x, v, S', Sm, e, LM_of (S := S) hk hW1 ⟨Nat.le_add_right _ _, Nat.le_add_right _ _⟩ hV hZ hM, p_limit hR hc⟩
theorem cl_write (hL : LR G k cs) (hk : k ≤ 511) (g1 : rng a1) (g2 : rng a2) : X G yX10_write cX10_write 5 (some .int) 80 [.ref (G.1 + 0), .int (Int32.ofInt a1), .int (Int32.ofInt a2)] cs (CQ G k (fun Sm K => wX11_write a1 a2 Sm K)) := by
  obtain ⟨v, S, Sm, hW, hV, hZ, hM, hR⟩ := hL
  obtain ⟨⟨e, hRE, g, hx⟩, hC, hWr, hLi, s1, s20⟩ := hR
  have b := B0_ok (k := k) (by omega)
  have h := c_write (e := mo e a2) (m := S.1 0 9) (F := ElT (mo e a2) (S.1 0 9).toNat a1 (-2) (eK (mo e a2) a1) sT0) 80 (Nat.le_refl _) hW hRE.1 hRE.2.2.2.1 hRE.2.2.2.2.1 rfl g1 g2 rfl rfl ⟨by omega, by omega⟩
  rw [hV.1] at h
  refine h.mono (fun r c1 hp => ?_)
  obtain ⟨x, v', S', er, ⟨-, hv⟩, hW1, hc⟩ := hp
  have hV' : VV v' := by
    obtain ⟨b1, b2, b3, b4⟩ := hV
    refine ⟨?_, ?_, ?_, ?_⟩
    · rw [hv 0 (by decide) (by decide) (by decide)]; exact b1
    · rw [hv 1 (by decide) (by decide) (by decide)]; exact b2
    · rw [hv 3 (by decide) (by decide) (by decide)]; exact b3
    · rw [hv 4 (by decide) (by decide) (by decide)]; exact b4
  have hZ' : QT G v' cs := hZ.mv rfl (fun a a0 a1 => hv a (by omega) (by omega) (by omega))
  refine ⟨x, v', S', Sm, er, LM_of (S := S) hk hW1 ⟨by show (B0 k).1 + 7 ≤ _; omega, by show (B0 k).2 + 260 ≤ _; omega⟩ hV' hZ' hM, p_write hRE hx s1 s20 hC hWr hLi (hW.iI 0 9) rfl hc⟩
theorem cl_classes (hL : LR G k cs) (hk : k ≤ 511) : X G yX10_classes cX10_classes 3 (some .int) 12 [.ref (G.1 + 0)] cs (CQ G k (fun Sm K => wX11_classes Sm K)) := by
  obtain ⟨v, S, Sm, hW, hV, hZ, hM, hR⟩ := hL
  have ht := hW.tl (a := 1) (by unfold isS; decide)
  have hX : TX (fun p => if 0 ≤ p ∧ p < S.1 1 1 then S.2 1 p else -1) (S.1 1 1) := by
    refine ⟨ht.1, fun p p0 p1 => ?_, fun p p1 => ?_⟩
    · show 0 ≤ (if 0 ≤ p ∧ p < S.1 1 1 then S.2 1 p else -1) ∧ (if 0 ≤ p ∧ p < S.1 1 1 then S.2 1 p else -1) ≤ 65535
      rw [if_pos ⟨p0, p1⟩]
      exact ht.2 p p0 p1
    · exact if_neg (by omega)
  have hT : cTx S (fun p => if 0 ≤ p ∧ p < S.1 1 1 then S.2 1 p else -1) (S.1 1 1) := ⟨rfl, fun p p0 p1 => (if_pos ⟨p0, p1⟩).symm⟩
  have hTm : mTx Sm (fun p => if 0 ≤ p ∧ p < S.1 1 1 then S.2 1 p else -1) (S.1 1 1) := ⟨hR.2.1.1, fun p p0 p1 => (hR.2.1.2 p p0 p1).trans (if_pos ⟨p0, p1⟩).symm⟩
  have h := c_classes 12 (Nat.le_refl _) hW hV hZ hX hT ⟨(B0_ok (k := k) (by omega)).1, by have := (B0_ok (k := k) (by omega)).2; omega⟩
  rw [hV.1] at h
  refine h.mono (fun r c1 hp => ?_)
  obtain ⟨x, v', S', er, hV', hW1, hZ1, hc, fr⟩ := hp
  rw [← B0_s] at hW1
  exact ⟨x, v', S', Sm, er, ⟨hW1, hV', hZ1, hM.cl fr⟩, p_classes hR hX hTm hc⟩
theorem cl_read (hL : LR G k cs) (hk : k ≤ 511) : X G yX10_read cX10_read 4 (some .int) 14 [.ref (G.1 + 0)] cs (CN G k (fun Sm K => wX11_read Sm K)) := by
  obtain ⟨v, S, Sm, hW, hV, hZ, hM, hR⟩ := hL
  obtain ⟨⟨e, hRE, g, hx⟩, hC, hWr, hLi, s1, s20⟩ := hR
  have b := B0_ok (k := k) (by omega)
  have ht := hW.tl (a := 1) (by unfold isS; decide)
  have hX : TX (fun p => if 0 ≤ p ∧ p < S.1 1 1 then S.2 1 p else -1) (S.1 1 1) := by
    refine ⟨ht.1, fun p p0 p1 => ?_, fun p p1 => ?_⟩
    · show 0 ≤ (if 0 ≤ p ∧ p < S.1 1 1 then S.2 1 p else -1) ∧ (if 0 ≤ p ∧ p < S.1 1 1 then S.2 1 p else -1) ≤ 65535
      rw [if_pos ⟨p0, p1⟩]
      exact ht.2 p p0 p1
    · exact if_neg (by omega)
  have hT : rTx S (fun p => if 0 ≤ p ∧ p < S.1 1 1 then S.2 1 p else -1) (S.1 1 1) := ⟨rfl, fun p p0 p1 => (if_pos ⟨p0, p1⟩).symm⟩
  have hTm : mTx Sm (fun p => if 0 ≤ p ∧ p < S.1 1 1 then S.2 1 p else -1) (S.1 1 1) := ⟨hC.1, fun p p0 p1 => (hC.2 p p0 p1).trans (if_pos ⟨p0, p1⟩).symm⟩
  have hsn : TSn (fun p => if 0 ≤ p ∧ p < S.1 1 1 then S.2 1 p else -1) (S.1 1 1) := fun p p0 p1 => by
    show isSn (if 0 ≤ p ∧ p < S.1 1 1 then S.2 1 p else -1)
    rw [if_pos ⟨p0, p1⟩]
    exact s1 p p0 p1
  have hF : SF S e (Sm.2 61) := fun c hc => ⟨(hRE.2.2.2.2.2 c hc).1, (hRE.2.2.2.2.2 c hc).2, hx.2.1 c hc⟩
  have h := c_read 14 (Nat.le_refl _) hW hV hZ hRE.1 hRE.2.2.2.1 hF hX hT hsn ⟨by omega, by omega⟩
  rw [hV.1] at h
  refine h.mono (fun r c1 hp => ?_)
  obtain ⟨x, v', S', er, hV', hW1, hZ1, hc, fr⟩ := hp
  rw [← B0_s] at hW1
  exact ⟨x, v', S', Sm, er, ⟨hW1, hV', hZ1, hM.cl fr⟩, p_read hRE hx hC hWr hLi s1 s20 hX hTm hsn hc⟩
theorem VV.lo {v v' : Nat → Nat} (h : VV v) (e : ∀ b : Nat, b < 200 → v' b = v b) : VV v' := ⟨(e 0 (by decide)).trans h.1, (e 1 (by decide)).trans h.2.1, (e 3 (by decide)).trans h.2.2.1, (e 4 (by decide)).trans h.2.2.2⟩
theorem RR.lo {S S' Sm : St} (h : RR S Sm) (e : ∀ b, b < 200 → S'.1 b = S.1 b ∧ S'.2 b = S.2 b) : RR S' Sm := by
  obtain ⟨⟨e0, hR, g, hx⟩, hC, hWr, hL, s1, s20⟩ := h
  refine ⟨⟨e0, hR.mv (fun b q1 q2 => e b (by omega)) rfl (fun _ _ => rfl), g, hx.mv (fun b hb => e b (by omega)) rfl (fun _ _ _ => rfl)⟩, hC.mv (congrFun (e 1 (by decide)).1 1) (e 1 (by decide)).2 rfl rfl, hWr.mv (congrFun (e 20 (by decide)).1 1) (e 20 (by decide)).2 rfl rfl, (congrFun (e 0 (by decide)).1 9).trans hL, s1.mv (congrFun (e 1 (by decide)).1 1) (e 1 (by decide)).2, s20.mv (congrFun (e 20 (by decide)).1 1) (e 20 (by decide)).2⟩
theorem cl_same (hL : LR G k cs) (hk : k ≤ 511) (g1 : rng a1) : X G yX10_same cX10_same 2 (some .boolean) 8 [.ref (G.1 + 0), .int (Int32.ofInt a1)] cs (CQ G k (fun Sm K => wX11_same a1 Sm K)) := by
  obtain ⟨v, S, Sm, hW, hV, hZ, hM, hR⟩ := hL
  obtain ⟨e, hRE, g, hx⟩ := hR.1
  have b := B0_ok (k := k) (by omega)
  have h := c_same 8 (by decide) hW hRE.1 hRE.2.2.2.1 hx.2.2.2.2.1 hx.2.2.2.1 (VLq_of hRE.2.2.2.1 hx.2.2.2.1) g1 ⟨by omega, by omega⟩
  rw [hV.1] at h
  refine h.mono (fun r c1 hp => ?_)
  obtain ⟨x, v', S', er, ev, hW1, lo, hc⟩ := hp
  have hR' : RR S' Sm := hR.lo lo
  have hRE' : RE S' Sm e := hRE.mv (fun b q1 q2 => lo b (by omega)) rfl (fun _ _ => rfl)
  have hx' : RX S' Sm e g := hx.mv (fun b hb => lo b (by omega)) rfl (fun _ _ _ => rfl)
  exact ⟨x, v', S', Sm, er, LM_of (S := S) hk hW1 ⟨by show (B0 k).1 + 4 ≤ _; omega, by show (B0 k).2 + 97 ≤ _; omega⟩ (hV.lo ev) (hZ.mv rfl (fun a _ _ => ev a (by omega))) hM, p_same hR' hRE' hx' hc⟩
theorem cl_kind (hL : LR G k cs) (hk : k ≤ 511) (g1 : rng a1) (g2 : rng a2) : X G yX10_kind cX10_kind 3 (some .int) 3 [.ref (G.1 + 0), .int (Int32.ofInt a1), .int (Int32.ofInt a2)] cs (CQ G k (fun Sm K => wX11_kind a1 a2 Sm K)) := by
  obtain ⟨v, S, Sm, hW, hV, hZ, hM, hR⟩ := hL
  obtain ⟨e, hRE, g, hx⟩ := hR.1
  have h := c_kind 3 (Nat.le_refl _) hW hRE.1 hRE.2.2.2.1 hx.2.2.2.2.1 hx.2.2.2.1 g1 g2
  rw [hV.1] at h
  refine h.mono (fun r c1 hp => ?_)
  obtain ⟨er, hW1⟩ := hp
  exact ⟨_, v, S, Sm, er, LM_of (S := S) hk hW1 ⟨Nat.le_add_right _ _, Nat.le_add_right _ _⟩ hV hZ hM, p_kind hR hRE hx rfl⟩
theorem cl_value (hL : LR G k cs) (hk : k ≤ 511) (g1 : rng a1) (g2 : rng a2) (g3 : rng a3) (g4 : rng a4) : X G yX10_value cX10_value 7 (some .int) 4 [.ref (G.1 + 0), .int (Int32.ofInt a1), .int (Int32.ofInt a2), .int (Int32.ofInt a3), .int (Int32.ofInt a4)] cs (CQ G k (fun Sm K => wX11_value a1 a2 a3 a4 Sm K)) := by
  obtain ⟨v, S, Sm, hW, hV, hZ, hM, hR⟩ := hL
  obtain ⟨e, hRE, g, hx⟩ := hR.1
  have h := c_value 4 (Nat.le_refl _) hW hRE.1 hRE.2.2.2.1 hx.2.2.2.2.1 hx.2.2.2.1 g1 g2 g3 g4
  rw [hV.1] at h
  refine h.mono (fun r c1 hp => ?_)
  obtain ⟨er, hW1⟩ := hp
  exact ⟨_, v, S, Sm, er, LM_of (S := S) hk hW1 ⟨Nat.le_add_right _ _, Nat.le_add_right _ _⟩ hV hZ hM, p_value hR hRE hx rfl⟩
theorem cl_count (hL : LR G k cs) (hk : k ≤ 511) (g1 : rng a1) : X G yX10_count cX10_count 2 (some .int) 1 [.ref (G.1 + 0), .int (Int32.ofInt a1)] cs (CQ G k (fun Sm K => wX11_count a1 Sm K)) := by
  obtain ⟨v, S, Sm, hW, hV, hZ, hM, hR⟩ := hL
  have h := c_count 1 (Nat.le_refl _) hW g1
  rw [hV.1] at h
  refine h.mono (fun r c1 hp => ?_)
  obtain ⟨er, hW1⟩ := hp
  exact ⟨_, v, S, Sm, er, LM_of (S := S) hk hW1 ⟨Nat.le_add_right _ _, Nat.le_add_right _ _⟩ hV hZ hM, p_count hR⟩
end CL
/-! the fresh world -/
def S0c : St := (fun a j => if (a = 0 ∧ j = 9) ∨ (a = 210 ∧ j = 4) then 10 else 0, fun _ _ => 0)
theorem S0c_ok : okT cT S0c := by
  refine ⟨fun a j => ?_, fun a i => ?_⟩
  · show iv (cT.1 a j).1 (cT.1 a j).2 (if (a = 0 ∧ j = 9) ∨ (a = 210 ∧ j = 4) then 10 else 0)
    by_cases h : (a = 0 ∧ j = 9) ∨ (a = 210 ∧ j = 4)
    · rw [if_pos h]
      rcases h with ⟨rfl, rfl⟩ | ⟨rfl, rfl⟩ <;> exact ⟨by decide, by decide⟩
    · rw [if_neg h]
      unfold cT
      dsimp only
      split <;> (try split) <;> first | exact ⟨by decide, by decide⟩ | exact absurd (Or.inl ⟨rfl, rfl⟩) h | exact absurd (Or.inr ⟨rfl, rfl⟩) h
  · show iv (cT.2 a).1 (cT.2 a).2 0
    unfold cT
    dsimp only
    split <;> exact ⟨by decide, by decide⟩
set_option maxRecDepth 100000 in
set_option maxHeartbeats 4000000 in
theorem Wv0 (G : xG) : Wv G (fun a => a) shC (B0 0) (w0 G) S0c (w0 G) := by
  refine ⟨tau0, W0 G, fun a x h => ?_, fun a b x y _ _ q => q, S0c_ok, fun a k n h => ?_, fun a ci rf h => ?_, fun a h => ⟨h, ?_⟩, fun a b _ _ q => q, fun k k1 _ => ⟨tau0_n k k1, rfl⟩, by rw [w0_len]; exact Nat.le_refl _, fun a h => ?_, fun _ => ⟨rfl, fun a x h q => ?_⟩⟩
  · unfold shC at h
    split at h <;> first | (cases h; rfl) | cases h
  · unfold shC at h
    split at h <;> first | (cases h; rfl) | cases h
  · rcases shC_ci h with ⟨rfl, rfl⟩ | ⟨rfl, rfl⟩ | ⟨rfl, rfl⟩ | ⟨rfl, rfl⟩ | ⟨rfl, rfl⟩ | ⟨rfl, rfl⟩
    · exact ⟨by decide, by decide, by decide, 10, rfl, fun z => absurd rfl z⟩
    · cases h
      refine ⟨by decide, by decide, by decide, 0, rfl, fun _ k hk => ?_⟩
      rcases (show k = 0 ∨ k = 1 ∨ k = 2 ∨ k = 3 ∨ k = 4 ∨ k = 5 ∨ k = 6 ∨ k = 7 ∨ k = 8 ∨ 9 ≤ k by omega) with rfl | rfl | rfl | rfl | rfl | rfl | rfl | rfl | rfl | q
      all_goals first | rfl | (cases hk) | (rw [List.getElem?_eq_none_iff.mpr (by simpa using q)] at hk; cases hk)
    · cases h
      refine ⟨by decide, by decide, by decide, 0, rfl, fun _ k hk => ?_⟩
      rcases (show k = 0 ∨ k = 1 ∨ k = 2 ∨ k = 3 ∨ k = 4 ∨ k = 5 ∨ k = 6 ∨ k = 7 ∨ k = 8 ∨ 9 ≤ k by omega) with rfl | rfl | rfl | rfl | rfl | rfl | rfl | rfl | rfl | q
      all_goals first | rfl | (cases hk) | (rw [List.getElem?_eq_none_iff.mpr (by simpa using q)] at hk; cases hk)
    · cases h
      refine ⟨by decide, by decide, by decide, 0, rfl, fun _ k hk => ?_⟩
      rcases (show k = 0 ∨ k = 1 ∨ k = 2 ∨ k = 3 ∨ 4 ≤ k by omega) with rfl | rfl | rfl | rfl | q
      all_goals first | rfl | (cases hk) | (rw [List.getElem?_eq_none_iff.mpr (by simpa using q)] at hk; cases hk)
    · cases h
      refine ⟨by decide, by decide, by decide, 0, rfl, fun _ k hk => ?_⟩
      rcases (show k = 0 ∨ k = 1 ∨ k = 2 ∨ k = 3 ∨ 4 ≤ k by omega) with rfl | rfl | rfl | rfl | q
      all_goals first | rfl | (cases hk) | (rw [List.getElem?_eq_none_iff.mpr (by simpa using q)] at hk; cases hk)
    · cases h
      refine ⟨by decide, by decide, by decide, 0, rfl, fun _ k hk => ?_⟩
      rcases (show k = 0 ∨ k = 1 ∨ k = 2 ∨ k = 3 ∨ 4 ≤ k by omega) with rfl | rfl | rfl | rfl | q
      all_goals first | rfl | (cases hk) | (rw [List.getElem?_eq_none_iff.mpr (by simpa using q)] at hk; cases hk)
  · rcases h with rfl | rfl | rfl | rfl
    · exact ⟨64, 2, [], false, ⟨fun _ => 0, rfl, rfl, by decide, by decide, by decide, by decide, fun j h => absurd h (Nat.not_lt_zero _), fun x h => nomatch h⟩, rfl, rfl, fun i h => absurd h (Nat.not_lt_zero _)⟩
    · exact ⟨64, 5, [], false, ⟨fun _ => 0, rfl, rfl, by decide, by decide, by decide, by decide, fun j h => absurd h (Nat.not_lt_zero _), fun x h => nomatch h⟩, rfl, rfl, fun i h => absurd h (Nat.not_lt_zero _)⟩
    · exact ⟨64, 21, [], false, ⟨fun _ => 0, rfl, rfl, by decide, by decide, by decide, by decide, fun j h => absurd h (Nat.not_lt_zero _), fun x h => nomatch h⟩, rfl, rfl, fun i h => absurd h (Nat.not_lt_zero _)⟩
    · exact ⟨64, 23, [], false, ⟨fun _ => 0, rfl, rfl, by decide, by decide, by decide, by decide, fun j h => absurd h (Nat.not_lt_zero _), fun x h => nomatch h⟩, rfl, rfl, fun i h => absurd h (Nat.not_lt_zero _)⟩
  · rcases h with rfl | rfl | rfl | rfl <;> exact ⟨64, rfl⟩
  · have q : a = 3 := q
    rw [q] at h
    cases h
theorem QT0 (G : xG) : QT G (fun a => a) (w0 G) := ⟨_, _, _, rfl⟩
theorem RR0 : RR S0c S0m := by
  have noC : ∀ c, ¬ okC e0 c := fun c h => by
    have h1 := h.1
    have h2 : c < 0 := h.2
    omega
  have noO : ∀ o, ¬ okO e0 o := fun o h => by
    have h1 := h.1
    have h2 : o < 0 := h.2
    omega
  have noF : ∀ c f, ¬ okF e0 c f := fun c f h => noC c h.1
  have noN : ∀ k, ¬ okN e0 k := fun k h => by
    rcases h with h | ⟨c, f, h, -⟩
    · exact noC k h
    · exact noF c f h
  refine ⟨⟨e0, ⟨⟨rfl, fun o h => absurd h (noO o), fun o f h => absurd h (noO o), fun o f i h => absurd h (noO o), rfl, fun c h => absurd h (noC c), fun c f h => absurd h (noF c f), fun k h => absurd h (noN k)⟩, ⟨rfl, fun o h => absurd h (noO o), fun o f h => absurd h (noO o), fun o f i h => absurd h (noO o), rfl, fun c h => absurd h (noC c), fun c f h => absurd h (noF c f), fun k h => absurd h (noN k)⟩, fun k h => absurd h (noN k), ⟨⟨by decide, by decide⟩, ⟨by decide, by decide⟩, fun o h => absurd h (noO o), fun c h => absurd h (noC c), fun c f h => absurd h (noF c f), fun o f h => absurd h (noO o)⟩, ⟨fun c d h => absurd h (noC c), fun c f g h => absurd h (noF c f), fun c g f d h => absurd h (noF c g), fun c f g h => absurd h (noF c f)⟩, fun c h => absurd h (noC c)⟩, (0, fun _ => 0, fun _ _ => 0, fun _ _ _ => 0), ⟨fun k h => absurd h (noN k), fun c d h => absurd h (noC c), fun c f g h => absurd h (noF c f), fun c g f d h => absurd h (noF c g), fun c f g h => absurd h (noF c f), fun c f h => absurd h (noF c f), fun c f h => absurd h (noF c f)⟩, fun c h => absurd h (noC c), ⟨fun o f i h => absurd h (noO o), PWe_0.sg⟩, ⟨⟨by decide, by decide⟩, fun o o0 o1 => absurd o1 (by show ¬ o < 0; omega), fun o f o0 o1 => absurd o1 (by show ¬ o < 0; omega)⟩, ⟨rfl, fun o o0 o1 => absurd o1 (by show ¬ o < 0; omega), fun o f o0 o1 => absurd o1 (by show ¬ o < 0; omega), fun o f i o0 o1 => absurd o1 (by show ¬ o < 0; omega)⟩, ⟨rfl, fun o o0 o1 => absurd o1 (by show ¬ o < 0; omega), fun o f o0 o1 => absurd o1 (by show ¬ o < 0; omega), fun o f i o0 o1 => absurd o1 (by show ¬ o < 0; omega)⟩, Or.inl ⟨rfl, rfl⟩⟩, ⟨rfl, fun p p0 p1 => ?_⟩, ⟨rfl, fun p p0 p1 => ?_⟩, rfl, fun p p0 p1 => ?_, fun p p0 p1 => ?_⟩
  · have p1 : p < 0 := p1
    omega
  · have p1 : p < 0 := p1
    omega
  · have p1 : p < 0 := p1
    omega
  · have p1 : p < 0 := p1
    omega
theorem LR0 (G : xG) : LR G 0 (w0 G) := ⟨fun a => a, S0c, S0m, Wv0 G, ⟨rfl, rfl, rfl, rfl⟩, QT0 G, M0 G, RR0⟩

