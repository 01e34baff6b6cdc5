/-! WHAT ELEMENTS MEAN: the model: ways -/
section NU
variable {S S' : St} {K : Int → St → Prop} {T W : Int → Int} {n x y o f v u c r p a b d i k z w q fl N A B s P : Int} {X : Xs} {e : Env} {fb : Int → Int} {M M' M1 : Mm} {L : List Int} {h h' : Hs}
theorem nvL_dg : ∀ (L : List Int) (v w : Int), nvL L v = some w → ∀ u ∈ L, isDg u
  | [], _, _, _, u, hu => by cases hu
  | t :: l, v, w, q, u, hu => by
    unfold nvL at q
    by_cases ht : isDg t
    · rw [if_pos ht] at q
      rcases List.mem_cons.mp hu with rfl | hu
      · exact ht
      · exact nvL_dg l _ w q u hu
    · rw [if_neg ht] at q
      cases q
theorem sbT_mem (h0 : a ≤ i) (h1 : i < b) : W i ∈ sbT W a b := by
  have hd : (i - a).toNat < (b - a).toNat := by omega
  have := sbT_get (T := W) hd
  rw [show a + (((i - a).toNat : Nat) : Int) = i by omega] at this
  rw [← this, List.getD_eq_getElem?_getD, List.getElem?_eq_getElem (by rw [sbT_len]; exact hd)]
  exact List.getElem_mem _
/-- the rank behind a [, as the model reads it -/
theorem rk_mod {m : Int} (hse : P < s) (hsB : s ≤ B) (m0 : 0 ≤ m) (m5 : m ≤ 5) (hd : ∀ i, 0 ≤ i → i < m → P + 1 + i < B ∧ isDg (W (P + 1 + i))) (hst : m = 5 ∨ ¬ (P + 1 + m < B ∧ isDg (W (P + 1 + m)))) (hv : nvL (sbT W (P + 1) (P + 1 + m)) 0 = some r) : rkO W (P + 1) s = if 1 ≤ m ∧ m ≤ 3 ∧ ¬ W (P + 1) = 48 ∧ 2 ≤ r ∧ s = P + 2 + m ∧ W (P + 1 + m) = 93 then r else 0 := by
  by_cases c : 1 ≤ m ∧ m ≤ 3 ∧ ¬ W (P + 1) = 48 ∧ 2 ≤ r ∧ s = P + 2 + m ∧ W (P + 1 + m) = 93
  · obtain ⟨c1, c2, c3, c4, c5, c6⟩ := c
    rw [if_pos ⟨c1, c2, c3, c4, c5, c6⟩]
    unfold rkO
    have e1 : s - 1 = P + 1 + m := by omega
    rw [e1, if_neg (fun w => by rcases w with w | w | w | w; omega; omega; exact w c6; exact c3 w), hv]
    show (if r = 1 then 0 else r) = r
    rw [if_neg (by omega)]
  · rw [if_neg c]
    unfold rkO
    by_cases d1 : s - 1 ≤ P + 1 ∨ 3 < s - 1 - (P + 1) ∨ ¬ W (s - 1) = 93 ∨ W (P + 1) = 48
    · rw [if_pos d1]
    · rw [if_neg d1]
      cases hn : nvL (sbT W (P + 1) (s - 1)) 0 with
      | none => rfl
      | some t =>
        have all := nvL_dg _ 0 t hn
        have h93 : W (s - 1) = 93 := Classical.not_not.mp (fun w => d1 (Or.inr (Or.inr (Or.inl w))))
        have dg : ∀ i, P + 1 ≤ i → i < s - 1 → isDg (W i) := fun i i0 i1 => all _ (sbT_mem i0 i1)
        have e1 : m = s - 1 - (P + 1) := by
          rcases (show m = s - 1 - (P + 1) ∨ m < s - 1 - (P + 1) ∨ s - 1 - (P + 1) < m by omega) with w | w | w
          · exact w
          · rcases hst with w2 | w2
            · omega
            · exact absurd ⟨by omega, dg _ (by omega) (by omega)⟩ w2
          · have := (hd (s - 1 - (P + 1)) (by omega) w).2
            rw [show P + 1 + (s - 1 - (P + 1)) = s - 1 by omega, h93] at this
            have h2 : (93 : Int) ≤ 57 := this.2
            omega
        have e2 : P + 1 + m = s - 1 := by omega
        rw [e2, hn] at hv
        injection hv with hv
        have t0 := nvL_bd _ 0 t (by decide) hn
        have t2 : ¬ 2 ≤ r := fun w => c ⟨by omega, by omega, fun y => d1 (Or.inr (Or.inr (Or.inr y))), w, by omega, by rw [e2]; exact h93⟩
        show (if t = 1 then 0 else t) = 0
        by_cases t1 : t = 1
        · rw [if_pos t1]
        · rw [if_neg t1]
          omega
theorem chd_nm (hC : CNm T n X S) (h : ¬ chd T X y L r = -1) : ∃ k : Int, 0 ≤ k ∧ k < X.1.length ∧ xPr X k = y ∧ nmE T X k = L ∧ ord T X k = r := by
  unfold chd at h
  rcases fnd_or (P := fun k => decide (xPr X k = y ∧ nmE T X k = L ∧ ord T X k = r)) X.1.length 0 with ⟨w, -⟩ | ⟨w1, w2, w3, -⟩
  · exact absurd w h
  · rw [decide_eq_true_eq] at w3
    exact ⟨_, w1, by omega, w3⟩
/-- who has a name made of these signs -/
theorem chd_sg (hC : CNm T n X S) (ab : a ≤ b) (h : ¬ chd T X y (sbT W a b) r = -1) : a < b ∧ nBg (W a) ∧ (∀ i, a ≤ i → i < b → nIn (W i)) ∧ 1 ≤ r ∧ r ≤ 200 := by
  obtain ⟨k, k0, k1, -, k3, k4⟩ := chd_nm hC h
  have l := hC.len
  obtain ⟨-, g1, g2, g3, -⟩ := cn_e hC k0 k1
  have nb := hC.2.2.2.2.2.1 k.toNat (by omega)
  have nb : nBg (T ((gE X k).1 + 1)) := nb
  have ni := hC.2.2.2.2.2.2.2.2.2.1 k
  have ob := ord_b (T := T) (X := X) k0
  have hs : sbT T ((gE X k).1 + 1) (gE X k).2.1 = sbT W a b := k3
  rw [sbT_iff (by omega) ab] at hs
  refine ⟨by omega, ?_, fun i i0 i1 => ?_, by omega, by omega⟩
  · have := hs.2 0 (by decide) (by omega)
    rw [show (gE X k).1 + 1 + 0 = (gE X k).1 + 1 by omega, show a + 0 = a by omega] at this
    rw [← this]
    exact nb
  · have := hs.2 (i - a) (by omega) (by omega)
    rw [show a + (i - a) = i by omega] at this
    rw [← this]
    exact ni _ k0 k1 (by omega) (by omega)
theorem n_steps (hC : CNm T n X S) (hp : pcs S L) (hL : L = sbT (sgV X) A B) (A0 : 0 ≤ A) (hAB : A ≤ B) (hB : B ≤ X.2.2.length) (y0 : -1 ≤ y) (y1 : y < X.1.length) (a0 : 0 ≤ a) (a1 : A + a ≤ B) (hK : K (dwA T X y (A + a) B) S) : wX11_steps a (mNg y) S K := by
  have l := hC.len
  have hl : (L.length : Int) = B - A := by
    rw [hL, sbT_len]
    omega
  have h30 : L.length ≤ 3000 := by omega
  have vt := hC.2.2.1.2.2
  have sgb : ∀ i, iv (-1) 126 (sgV X i) := fun i => by
    by_cases w : 0 ≤ i ∧ i < X.2.2.length
    · have := isSn_b (cn_v hC w.1 w.2).2.2
      exact ⟨by omega, by omega⟩
    · rw [sgV_out w]
      exact ⟨by decide, by decide⟩
  have pAt : ∀ (i : Int) (K2 : Int → St → Prop), 0 ≤ i → (iv (-1) 126 (if A + i < B then sgV X (A + i) else -1) → K2 (if A + i < B then sgV X (A + i) else -1) S) → wX11_pieceAt i S K2 := fun i K2 i0 hk => n_pAt hp hL hAB h30 i0 (hk (by
    by_cases w : A + i < B
    · rw [if_pos w]
      exact sgb _
    · rw [if_neg w]
      exact ⟨by decide, by decide⟩))
  unfold wX11_steps
  refine fun _ _ => ⟨fun l3 l4 l5 S' => S' = S ∧ ((l5 = 1 ∧ ∃ (y' : Int) (k : Nat), l3 = mNg y' ∧ -1 ≤ y' ∧ y' < X.1.length ∧ 0 ≤ l4 ∧ A + l4 ≤ B ∧ B + 1 - (A + l4) ≤ k ∧ dwn T X B k y' (A + l4) = dwA T X y (A + a) B) ∨ (l5 = 0 ∧ l3 = dwA T X y (A + a) B)), fun l3 l4 l5 S' => if l5 = 1 then (B - A - l4).toNat + 1 else 0, ⟨rfl, Or.inl ⟨rfl, y, 3001, rfl, y0, y1, a0, a1, by omega, rfl⟩⟩, ?_⟩
  rintro l3 l4 l5 S' ⟨rfl, hI⟩
  rcases hI with ⟨rfl, y', k, rfl, h1, h2, h3, h4, hk, h5⟩ | ⟨rfl, h1⟩
  rotate_left
  · rw [h1]
    exact ⟨⟨by decide, by decide⟩, fun _ => hK, fun w => absurd rfl w⟩
  obtain ⟨k', rfl⟩ : ∃ k', k = k' + 1 := ⟨k - 1, by omega⟩
  rw [dwn_s (by omega)] at h5
  obtain ⟨se, hse⟩ : ∃ se, se = stE X (A + l4) B := ⟨_, rfl⟩
  obtain ⟨ne, hne⟩ : ∃ ne, ne = plO (sgV X) 91 (A + l4) se := ⟨_, rfl⟩
  obtain ⟨rk, hrk⟩ : ∃ rk, rk = (if ne = se then 1 else rkO (sgV X) (ne + 1) se) := ⟨_, rfl⟩
  have est : stC T X y' (A + l4) B = chd T X y' (sbT (sgV X) (A + l4) ne) rk := by
    unfold stC
    rw [← hse, ← hne, ← hrk]
  have q1 := plO_b (W := sgV X) (u := 47) (show A + l4 ≤ B by omega)
  have e1 : plO (sgV X) 47 (A + l4) B = se := hse.symm
  rw [e1] at q1
  have q2 := plO_b (W := sgV X) (u := 91) (show A + l4 ≤ se from q1.1)
  rw [← hne] at q2
  rw [est, ← hse] at h5
  have ry : rng (mNg y') := by
    unfold mNg
    by_cases w : y' = -1
    · rw [if_pos w]
      exact ⟨by decide, by decide⟩
    · rw [if_neg w]
      exact ⟨by omega, by omega⟩
  -- no child: nowhere
  have non : chd T X y' (sbT (sgV X) (A + l4) ne) rk = -1 → K (-2) S' := fun w => by
    rw [if_pos w] at h5
    rw [← h5] at hK
    exact hK
  have sg := fun w => chd_sg (W := sgV X) (y := y') (r := rk) hC q2.1 w
  -- behind a step
  have t180 : ∀ l6 l7 l8 : Int, l4 ≤ l6 → A + l6 ≤ B → 0 ≤ l7 → A + l4 + l7 ≤ B → rng l8 → ((A + l6 = se ∧ chd T X y' (sbT (sgV X) (A + l4) (A + l4 + l7)) l8 = chd T X y' (sbT (sgV X) (A + l4) ne) rk) ∨ (chd T X y' (sbT (sgV X) (A + l4) ne) rk = -1 ∧ ((A + l6 < B ∧ ¬ sgV X (A + l6) = 47) ∨ chd T X y' (sbT (sgV X) (A + l4) (A + l4 + l7)) l8 = -1))) → wX11_steps_180 (mNg y') l4 l6 l7 l8 S' K (fun ml3 ml4 ml5 T' => (T' = S' ∧ ((ml5 = 1 ∧ ∃ (y' : Int) (k : Nat), ml3 = mNg y' ∧ -1 ≤ y' ∧ y' < X.1.length ∧ 0 ≤ ml4 ∧ A + ml4 ≤ B ∧ B + 1 - (A + ml4) ≤ k ∧ dwn T X B k y' (A + ml4) = dwA T X y (A + a) B) ∨ (ml5 = 0 ∧ ml3 = dwA T X y (A + a) B))) ∧ (if ml5 = 1 then (B - A - ml4).toNat + 1 else 0) < (if (1 : Int) = 1 then (B - A - l4).toNat + 1 else 0)) := fun l6 l7 l8 b1 b2 b3 b4 b5 b6 => by
    unfold wX11_steps_180
    refine ⟨ry, ⟨by omega, by omega⟩, ⟨by omega, by omega⟩, b5, n_child hC hp hL hAB h30 h1 h2 h3 b3 b4 b5 ?_⟩
    have cb := chd_b (T := T) (X := X) (p := y') (r := l8) (L := sbT (sgV X) (A + l4) (A + l4 + l7))
    by_cases c0 : chd T X y' (sbT (sgV X) (A + l4) (A + l4 + l7)) l8 = -1
    · have em : mNg (chd T X y' (sbT (sgV X) (A + l4) (A + l4 + l7)) l8) = -2 := if_pos c0
      rw [em]
      refine ⟨⟨by decide, by decide⟩, fun w => absurd rfl w, fun _ => non ?_⟩
      rcases b6 with ⟨-, w⟩ | ⟨w, -⟩
      · rw [← w]
        exact c0
      · exact w
    · have em : mNg (chd T X y' (sbT (sgV X) (A + l4) (A + l4 + l7)) l8) = chd T X y' (sbT (sgV X) (A + l4) (A + l4 + l7)) l8 := if_neg c0
      rw [em]
      refine ⟨⟨by omega, by omega⟩, fun _ => ⟨⟨by omega, by omega⟩, pAt l6 _ (by omega) (fun hb => ?_)⟩, fun w => absurd (show ¬ chd T X y' (sbT (sgV X) (A + l4) (A + l4 + l7)) l8 = -2 by omega) w⟩
      rcases b6 with ⟨w1, w2⟩ | ⟨w1, w2⟩
      · rw [w2] at c0 cb ⊢
        rw [if_neg c0] at h5
        have eb : A + l6 = se := w1
        unfold wX11_steps_217 wX11_steps_242
        by_cases c1 : se < B
        · have c2 := q1.2.2.1 c1
          rw [eb, if_pos c1, c2]
          refine ⟨⟨by decide, by decide⟩, fun w => absurd rfl w, fun _ x1 ex => ⟨⟨by decide, by decide⟩, fun _ => ⟨⟨rfl, Or.inl ⟨rfl, _, k', (if_neg c0).symm, by omega, by omega, by omega, by omega, by omega, ?_⟩⟩, ?_⟩, fun w => absurd (by decide) w⟩⟩
          · rw [ex, show A + (l6 + 1) = se + 1 by omega]
            exact h5
          · rw [if_pos rfl, if_pos rfl]
            omega
        · have c2 : se = B := by omega
          rw [if_neg (by omega)]
          refine ⟨⟨by decide, by decide⟩, fun _ x1 ex => ⟨⟨by decide, by decide⟩, fun w => absurd rfl w, fun _ _ => ?_⟩, fun w => absurd (by decide) w⟩
          rw [hp.1]
          refine ⟨⟨by omega, by omega⟩, fun _ => ⟨⟨rfl, Or.inr ⟨rfl, ?_⟩⟩, ?_⟩, fun w => absurd (by omega) w⟩
          · rw [dwn_e (by omega)] at h5
            exact h5
          · rw [if_neg (by decide), if_pos rfl]
            omega
      · rcases w2 with ⟨w3, w4⟩ | w3
        · rw [if_pos w3]
          unfold wX11_steps_217 wX11_steps_242
          refine ⟨⟨by have := (sgb (A + l6)).1; omega, by have := (sgb (A + l6)).2; omega⟩, fun _ x1 ex => ⟨⟨by decide, by decide⟩, fun w => absurd rfl w, fun _ _ => ?_⟩, fun w => absurd w4 w⟩
          rw [hp.1]
          exact ⟨⟨by omega, by omega⟩, fun w => absurd w (by omega), fun _ => non w1⟩
        · exact absurd w3 c0
  refine ⟨⟨by decide, by decide⟩, fun w => absurd w (by decide), fun _ => ⟨⟨by omega, by omega⟩, pAt l4 _ h3 (fun hb => ⟨⟨by omega, by omega⟩, n_nBg (fun r hr => ?_)⟩)⟩⟩
  rcases hr with ⟨rfl, hg⟩ | ⟨rfl, hg⟩
  rotate_left
  · refine ⟨⟨by decide, by decide⟩, fun w => absurd rfl w, fun _ => non (Classical.not_not.mp (fun w => hg ?_))⟩
    have := sg w
    rw [if_pos (by omega)]
    exact this.2.1
  · have hP : A + l4 < B := by
      by_cases w : A + l4 < B
      · exact w
      · rw [if_neg w] at hg
        rcases hg with hg | hg
        · rcases hg with hg | hg <;> omega
        · omega
    refine ⟨⟨by decide, by decide⟩, fun _ => ⟨fun m3 m4 m6 S2 => m3 = mNg y' ∧ m4 = l4 ∧ S2 = S' ∧ l4 ≤ m6 ∧ A + m6 ≤ B ∧ ∀ i, A + l4 ≤ i → i < A + m6 → nIn (sgV X i), fun m3 m4 m6 S2 => (B - A - m6).toNat, ⟨rfl, rfl, rfl, Int.le_refl _, h4, fun i i0 i1 => by omega⟩, ?_⟩, fun w => absurd (by decide) w⟩
    rintro m3 m4 m6 S2 ⟨rfl, rfl, rfl, i0, i1, i2⟩
    refine ⟨⟨by omega, by omega⟩, pAt m6 _ (by omega) (fun hb => ⟨⟨by omega, by omega⟩, n_nIn (fun r hr => ?_)⟩)⟩
    rcases hr with ⟨rfl, hn⟩ | ⟨rfl, hn⟩
    · have hm : A + m6 < B := by
        by_cases w : A + m6 < B
        · exact w
        · rw [if_neg w] at hn
          rcases hn with hn | hn | hn | hn | hn
          · rcases hn with hn | hn <;> omega
          · omega
          · have := hn.1
            omega
          · omega
          · omega
      rw [if_pos hm] at hn
      refine ⟨⟨by decide, by decide⟩, fun w => absurd w (by decide), fun _ => ⟨⟨rfl, rfl, rfl, by omega, by omega, fun i j0 j1 => ?_⟩, ?_⟩⟩
      · by_cases w : i = A + m6
        · rw [w]
          exact hn
        · exact i2 i j0 (by omega)
      · show (B - A - (m6 + 1)).toNat < (B - A - m6).toNat
        omega
    · -- the name ends
      have qne : A + m6 ≤ ne := by
        rcases (show A + m6 ≤ ne ∨ ne < A + m6 by omega) with w | w
        · exact w
        · exfalso
          have hi := i2 ne q2.1 w
          by_cases c1 : ne < se
          · rw [q2.2.2.1 c1] at hi
            rcases hi with hi | hi | hi | hi | hi
            · rcases hi with hi | hi <;> omega
            · omega
            · have := hi.2
              omega
            · omega
            · omega
          · have : ne = se := by omega
            rw [this, q1.2.2.1 (by omega)] at hi
            rcases hi with hi | hi | hi | hi | hi
            · rcases hi with hi | hi <;> omega
            · omega
            · have := hi.1
              omega
            · omega
            · omega
      refine ⟨⟨by decide, by decide⟩, fun _ x9 e9 => pAt m6 _ (by omega) (fun hb2 => ⟨⟨by omega, by omega⟩, fun w => ?_, fun w => ?_⟩), fun w => absurd rfl w⟩
      · -- no [
        rw [e9]
        refine t180 m6 (m6 - m4) 1 i0 i1 (by omega) (by omega) ⟨by decide, by decide⟩ ?_
        rw [show A + m4 + (m6 - m4) = A + m6 by omega]
        by_cases c1 : A + m6 = ne
        · have c2 : ne = se := by
            rcases (show ne = se ∨ ne < se by omega) with c2 | c2
            · exact c2
            · rw [c1, if_pos (by omega), q2.2.2.1 c2] at w
              exact absurd rfl w
          refine Or.inl ⟨by omega, ?_⟩
          rw [c1, hrk, if_pos c2]
        · refine Or.inr ⟨Classical.not_not.mp (fun y2 => ?_), Or.inl ⟨by omega, q1.2.2.2 _ (by omega) (by omega)⟩⟩
          have := (sg y2).2.2.1 (A + m6) (by omega) (by omega)
          rw [if_pos (by omega)] at hn
          exact hn this
      · -- a rank
        have hm : A + m6 < B := by
          by_cases w2 : A + m6 < B
          · exact w2
          · rw [if_neg w2] at w
            exact absurd (by decide) w
        rw [if_pos hm] at w
        have w := Classical.not_not.mp w
        have cse : A + m6 < se := by
          rcases (show A + m6 < se ∨ se ≤ A + m6 by omega) with c2 | c2
          · exact c2
          · have : A + m6 = se := by omega
            rw [this, q1.2.2.1 (by omega)] at w
            omega
        have cne : ne = A + m6 := by
          rcases (show ne = A + m6 ∨ A + m6 < ne by omega) with c2 | c2
          · exact c2
          · exact absurd w (q2.2.2.2 _ (by omega) c2)
        have hrk' : rk = rkO (sgV X) (A + m6 + 1) se := by
          rw [hrk, if_neg (by omega), cne]
        have bad : rk = 0 → K (-2) S2 := fun c2 => non (Classical.not_not.mp (fun y2 => by
          have := (sg y2).2.2.2.1
          omega))
        rw [e9]
        refine ⟨fun n3 n4 n6 n7 n8 n9 S3 => n3 = mNg y' ∧ n4 = m4 ∧ n6 = m6 ∧ n7 = m6 - m4 ∧ S3 = S2 ∧ 0 ≤ n9 ∧ n9 ≤ 5 ∧ (∀ i, 0 ≤ i → i < n9 → A + m6 + 1 + i < B ∧ isDg (sgV X (A + m6 + 1 + i))) ∧ nvL (sbT (sgV X) (A + m6 + 1) (A + m6 + 1 + n9)) 0 = some n8, fun n3 n4 n6 n7 n8 n9 S3 => (5 - n9).toNat, ⟨rfl, rfl, rfl, rfl, rfl, by decide, by decide, fun i i0 i1 => by omega, by rw [sbT_nil (by omega)]; rfl⟩, ?_⟩
        rintro n3 n4 n6 n7 n8 n9 S3 ⟨rfl, rfl, rfl, rfl, rfl, j0, j1, j2, j3⟩
        have nb := nvL_bd _ 0 n8 (by decide) j3
        have nb2 : n8 < 100000 := by
          have q3 : (10 : Int) ^ (sbT (sgV X) (A + n6 + 1) (A + n6 + 1 + n9)).length ≤ 10 ^ 5 := by
            have := Nat.pow_le_pow_right (show 0 < 10 by decide) (show (sbT (sgV X) (A + n6 + 1) (A + n6 + 1 + n9)).length ≤ 5 by rw [sbT_len]; omega)
            exact_mod_cast this
          have q4 : ((10 : Int) ^ 5) = 100000 := by decide
          omega
        -- the figures end
        have t128 : (n9 = 5 ∨ ¬ (A + n6 + 1 + n9 < B ∧ isDg (sgV X (A + n6 + 1 + n9)))) → wX11_steps_128 (mNg y') n4 n6 (n6 - n4) n8 n9 S3 K (fun ml3 ml4 ml5 T' => (T' = S3 ∧ ((ml5 = 1 ∧ ∃ (y' : Int) (k : Nat), ml3 = mNg y' ∧ -1 ≤ y' ∧ y' < X.1.length ∧ 0 ≤ ml4 ∧ A + ml4 ≤ B ∧ B + 1 - (A + ml4) ≤ k ∧ dwn T X B k y' (A + ml4) = dwA T X y (A + a) B) ∨ (ml5 = 0 ∧ ml3 = dwA T X y (A + a) B))) ∧ (if ml5 = 1 then (B - A - ml4).toNat + 1 else 0) < (if (1 : Int) = 1 then (B - A - n4).toNat + 1 else 0)) := fun hst => by
          have rm := rk_mod (W := sgV X) (P := A + n6) (s := se) (B := B) cse q1.2.1 j0 j1 j2 hst j3
          rw [← hrk'] at rm
          unfold wX11_steps_128
          refine ⟨⟨by omega, by omega⟩, fun c2 => bad ?_, fun c2 => ⟨⟨by omega, by omega⟩, pAt (n6 + 1) _ (by omega) (fun hb3 => ⟨⟨by omega, by omega⟩, fun c3 => bad ?_, fun c3 => ⟨⟨by omega, by omega⟩, fun c4 => bad ?_, fun c4 => ⟨⟨by omega, by omega⟩, pAt (n6 + 1 + n9) _ (by omega) (fun hb4 => ⟨⟨by omega, by omega⟩, fun c5 x15 e15 => ?_, fun c5 => bad ?_⟩)⟩⟩⟩)⟩⟩
          · rw [rm, if_neg (fun y2 => by omega)]
          · rw [rm, if_neg (fun y2 => y2.2.2.1 (by
              have := j2 0 (by decide) (by omega)
              rw [show A + (n6 + 1) = A + n6 + 1 by omega, if_pos (by omega)] at c3
              exact c3))]
          · rw [rm, if_neg (fun y2 => by omega)]
          · have hbr : A + n6 + 1 + n9 < B := by
              by_cases w2 : A + (n6 + 1 + n9) < B
              · omega
              · rw [if_neg w2] at c5
                omega
            rw [show A + (n6 + 1 + n9) = A + n6 + 1 + n9 by omega, if_pos hbr] at c5
            have c3' : ¬ sgV X (A + n6 + 1) = 48 := fun y2 => c3 (by
              rw [show A + (n6 + 1) = A + n6 + 1 by omega, if_pos (by omega)]
              exact y2)
            -- there is no / before the ]
            have hsb : A + n6 + 1 + n9 < se := by
              rcases (show A + n6 + 1 + n9 < se ∨ se ≤ A + n6 + 1 + n9 by omega) with c6 | c6
              · exact c6
              · exfalso
                have c7 := q1.2.2.1 (by omega)
                by_cases c8 : se = A + n6 + 1 + n9
                · rw [c8] at c7
                  omega
                · have := (j2 (se - (A + n6 + 1)) (by omega) (by omega)).2
                  rw [show A + n6 + 1 + (se - (A + n6 + 1)) = se by omega, c7] at this
                  have h2 : (48 : Int) ≤ 47 := this.1
                  omega
            refine t180 x15 (n6 - n4) n8 (by omega) (by omega) (by omega) (by omega) ⟨by omega, by omega⟩ ?_
            rw [show A + n4 + (n6 - n4) = A + n6 by omega]
            by_cases c6 : se = A + n6 + 2 + n9
            · by_cases c7 : n9 ≤ 3
              · refine Or.inl ⟨by omega, ?_⟩
                rw [cne, rm, if_pos ⟨by omega, c7, c3', by omega, c6, c5⟩]
              · -- too many figures: there is no such child
                have r0 : rk = 0 := by
                  rw [rm, if_neg (fun y2 => c7 y2.2.1)]
                have n1 : chd T X y' (sbT (sgV X) (A + n4) ne) rk = -1 := Classical.not_not.mp (fun y2 => by
                  have := (sg y2).2.2.2.1
                  omega)
                refine Or.inr ⟨n1, Or.inr (Classical.not_not.mp (fun y2 => ?_))⟩
                have ub := (chd_sg (W := sgV X) (y := y') (r := n8) hC (show A + n4 ≤ A + n6 by omega) y2).2.2.2.2
                -- four figures, the first not 0
                have lo : 1000 ≤ n8 := by
                  have d0 := (j2 0 (by decide) (by omega)).2
                  have d1 := (j2 1 (by decide) (by omega)).2
                  have d2 := (j2 2 (by decide) (by omega)).2
                  have d3 := (j2 3 (by decide) (by omega)).2
                  rw [show A + n6 + 1 + 0 = A + n6 + 1 by omega] at d0
                  rw [sbT_cons (by omega), sbT_cons (by omega), sbT_cons (by omega), sbT_cons (by omega)] at j3
                  rw [show A + n6 + 1 + 1 + 1 + 1 = A + n6 + 1 + 3 by omega, show A + n6 + 1 + 1 + 1 = A + n6 + 1 + 2 by omega] at j3
                  have j3 : (if isDg (sgV X (A + n6 + 1)) then (if isDg (sgV X (A + n6 + 1 + 1)) then (if isDg (sgV X (A + n6 + 1 + 2)) then (if isDg (sgV X (A + n6 + 1 + 3)) then nvL (sbT (sgV X) (A + n6 + 1 + 3 + 1) (A + n6 + 1 + n9)) ((((0 * 10 + sgV X (A + n6 + 1) - 48) * 10 + sgV X (A + n6 + 1 + 1) - 48) * 10 + sgV X (A + n6 + 1 + 2) - 48) * 10 + sgV X (A + n6 + 1 + 3) - 48) else none) else none) else none) else none) = some n8 := j3
                  rw [if_pos d0, if_pos d1, if_pos d2, if_pos d3] at j3
                  have mono : ∀ (D : List Int) (s t : Int), 0 ≤ s → nvL D s = some t → s ≤ t := fun D => by
                    induction D with
                    | nil => intro s t _ q; injection q with q; omega
                    | cons u l ih =>
                      intro s t s0 q
                      unfold nvL at q
                      by_cases hu : isDg u
                      · rw [if_pos hu] at q
                        have hu1 : 48 ≤ u := hu.1
                        have := ih _ t (by omega) q
                        omega
                      · rw [if_neg hu] at q
                        cases q
                  have a0 : 48 ≤ sgV X (A + n6 + 1) := d0.1
                  have a1 : 48 ≤ sgV X (A + n6 + 1 + 1) := d1.1
                  have a2 : 48 ≤ sgV X (A + n6 + 1 + 2) := d2.1
                  have a3 : 48 ≤ sgV X (A + n6 + 1 + 3) := d3.1
                  have := mono _ _ n8 (by omega) j3
                  omega
                omega
            · have r0 : rk = 0 := by
                rw [rm, if_neg (fun y2 => c6 y2.2.2.2.2.1)]
              have n1 : chd T X y' (sbT (sgV X) (A + n4) ne) rk = -1 := Classical.not_not.mp (fun y2 => by
                have := (sg y2).2.2.2.1
                omega)
              exact Or.inr ⟨n1, Or.inl ⟨by omega, q1.2.2.2 _ (by omega) (by omega)⟩⟩
          · rw [rm, if_neg (fun y2 => c5 (by
              rw [show A + (n6 + 1 + n9) = A + n6 + 1 + n9 by omega, if_pos (by omega)]
              exact y2.2.2.2.2.2))]
        refine ⟨⟨by omega, by omega⟩, fun c2 => t128 (Or.inl (by omega)), fun c2 => ⟨⟨by omega, by omega⟩, pAt (n6 + 1 + n9) _ (by omega) (fun hb3 => ⟨⟨by omega, by omega⟩, n_isDg (fun r hr => ?_)⟩)⟩⟩
        rw [show A + (n6 + 1 + n9) = A + n6 + 1 + n9 by omega] at hr
        rcases hr with ⟨rfl, hd⟩ | ⟨rfl, hd⟩
        · have hbr : A + n6 + 1 + n9 < B := by
            by_cases w2 : A + n6 + 1 + n9 < B
            · exact w2
            · rw [if_neg w2] at hd
              have h2 : (48 : Int) ≤ -1 := hd.1
              omega
          rw [if_pos hbr] at hd
          refine ⟨⟨by decide, by decide⟩, fun w2 => absurd w2 (by decide), fun _ => pAt (n6 + 1 + n9) _ (by omega) (fun hb4 x13 e13 => ?_)⟩
          rw [show A + (n6 + 1 + n9) = A + n6 + 1 + n9 by omega, if_pos hbr] at e13
          refine ⟨⟨rfl, rfl, rfl, rfl, rfl, by omega, by omega, fun i c0 c1 => ?_, ?_⟩, ?_⟩
          · by_cases w2 : i = n9
            · rw [w2]
              exact ⟨hbr, hd⟩
            · exact j2 i c0 (by omega)
          · have snoc : ∀ (m : Nat) (p s t : Int), nvL (sbT (sgV X) p (p + m)) s = some t → isDg (sgV X (p + m)) → nvL (sbT (sgV X) p (p + m + 1)) s = some (t * 10 + sgV X (p + m) - 48) := fun m => by
              induction m with
              | zero =>
                intro p s t q1 q2
                rw [show p + ((0 : Nat) : Int) = p by omega] at q1 q2 ⊢
                rw [sbT_nil (by omega)] at q1
                injection q1 with q1
                rw [sbT_cons (by omega), sbT_nil (by omega), ← q1]
                exact if_pos q2
              | succ m ih =>
                intro p s t q1 q2
                rw [sbT_cons (by omega)] at q1
                rw [sbT_cons (by omega)]
                unfold nvL at q1 ⊢
                by_cases hu : isDg (sgV X p)
                · rw [if_pos hu] at q1 ⊢
                  have := ih (p + 1) _ t (by rw [show p + 1 + (m : Int) = p + ((m + 1 : Nat) : Int) by omega]; exact q1) (by rw [show p + 1 + (m : Int) = p + ((m + 1 : Nat) : Int) by omega]; exact q2)
                  rw [show p + 1 + (m : Int) = p + ((m + 1 : Nat) : Int) by omega] at this
                  exact this
                · rw [if_neg hu] at q1
                  cases q1
            have := snoc n9.toNat (A + n6 + 1) 0 n8 (by rw [show (((n9.toNat : Nat) : Int)) = n9 by omega]; exact j3) (by rw [show (((n9.toNat : Nat) : Int)) = n9 by omega]; exact hd)
            rw [show (((n9.toNat : Nat) : Int)) = n9 by omega] at this
            rw [e13, show A + n6 + 1 + (n9 + 1) = A + n6 + 1 + n9 + 1 by omega, show 10 * n8 + sgV X (A + n6 + 1 + n9) - 48 = n8 * 10 + sgV X (A + n6 + 1 + n9) - 48 by omega]
            exact this
          · show (5 - (n9 + 1)).toNat < (5 - n9).toNat
            omega
        · refine ⟨⟨by decide, by decide⟩, fun _ => t128 (Or.inr (fun y2 => hd ?_)), fun w2 => absurd rfl w2⟩
          rw [if_pos y2.1]
          exact y2.2
end NU

