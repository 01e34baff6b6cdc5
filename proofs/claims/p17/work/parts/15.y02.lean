/-! WHAT THE WRITER PUTS: names, numbers, texts -/
section WO
variable {S : St} {K : Int → St → Prop} {e : Env} {A : List Int} {o f c i k : Int}
theorem catF_succ {g : Int → List Int} {n : Int} {i : Int} (h : i < n) : catF g (n - i).toNat i = g i ++ catF g (n - (i + 1)).toNat (i + 1) := by
  rw [show (n - i).toNat = (n - (i + 1)).toNat + 1 by omega]
  rfl
theorem catF_end {g : Int → List Int} {n : Int} {i : Int} (h : n ≤ i) : catF g (n - i).toNat i = [] := by
  rw [show (n - i).toNat = 0 by omega]
  rfl
theorem o_spellTo (hE : cE S e) (hO : oC S 22 A) (hk : okN e k) (hk2 : iv 0 29 k) (hK : ∀ S', Of S S' → oC S' 22 (A ++ eL e k) → K 0 S') : wX4_spellTo k S K := by
  obtain ⟨h0, hL⟩ := hE.2.2.2.2.2.2.2 k hk
  unfold wX4_spellTo
  intro _
  refine ⟨fun h => absurd h (by omega), fun _ => ⟨fun _ => ?_, fun h => absurd hk2 (by omega)⟩⟩
  unfold wX4_spellTo_13
  refine ⟨fun l2 l3 T => l2 = k ∧ 0 ≤ l3 ∧ l3 ≤ S.2 26 k ∧ Of S T ∧ ∃ A', oC T 22 A' ∧ A' ++ catF (fun i => [S.2 25 (k * 16 + i)]) (S.2 26 k - l3).toNat l3 = A ++ eL e k, fun l2 l3 T => (17 - l3).toNat, ⟨rfl, by decide, h0, Of.rf, A, hO, by rw [hL]; simp⟩, fun l2 l3 T hI => ?_⟩
  obtain ⟨rfl, h3, h4, hF, A', hA, hc⟩ := hI
  unfold wX4_spellTo_13'
  have e26 : T.2 26 = S.2 26 := (hF 26 (by decide)).2
  have e25 : T.2 25 = S.2 25 := (hF 25 (by decide)).2
  rw [e26, e25]
  refine ⟨by omega, by omega, fun q => ?_⟩
  by_cases hl : S.2 26 l2 ≤ l3
  · refine ⟨by omega, fun _ => hK T hF ?_, fun h => absurd hl h⟩
    rw [catF_end hl, List.append_nil] at hc
    rw [← hc]
    exact hA
  · refine ⟨by omega, fun h => absurd h hl, fun _ => ⟨by omega, by omega, fun q2 => ?_⟩⟩
    refine t_put hA q2 (fun r S' h1 h2 => ⟨⟨rfl, by omega, by omega, hF.tr h1, _, h2, ?_⟩, by dsimp only; omega⟩)
    rw [catF_succ (by omega)] at hc
    rw [← hc, List.append_assoc]
theorem o_endTag (hE : cE S e) (hO : oC S 22 A) (hk : okN e k) (hk2 : iv 0 29 k) (hK : ∀ S', Of S S' → oC S' 22 (A ++ eTg e k) → K 0 S') : wX8_endTag k S K := by
  unfold wX8_endTag
  intro _
  refine t_spell hO str14 (fun S1 f1 o1 => ?_)
  refine o_spellTo (hE.of f1) o1 hk hk2 (fun S2 f2 o2 => ?_)
  refine t_put o2 ⟨by decide, by decide⟩ (fun r S3 f3 o3 => hK S3 ((f1.tr f2).tr f3) ?_)
  unfold eTg
  rw [← List.append_assoc, ← List.append_assoc]
  exact o3
theorem o_escaped {q : Int} (hO : oC S 22 A) (hc : iv 0 65535 c) (hq : iv 0 1 q) (hK : ∀ S', Of S S' → oC S' 22 (A ++ esc q c) → K 0 S') : wX8_escaped c q S K := by
  unfold wX8_escaped wX8_escaped_76
  intro g1 _
  unfold esc at hK
  by_cases h1 : c = 38
  · rw [if_pos h1] at hK
    exact ⟨fun h => absurd h1 h, fun _ => t_spell hO str9 hK⟩
  · rw [if_neg h1] at hK
    refine ⟨fun _ => ?_, fun h => absurd h1 h⟩
    by_cases h2 : c = 60
    · rw [if_pos h2] at hK
      exact ⟨fun h => absurd h2 h, fun _ => t_spell hO str10 hK⟩
    · rw [if_neg h2] at hK
      refine ⟨fun _ => ?_, fun h => absurd h2 h⟩
      by_cases h3 : c = 62
      · rw [if_pos h3] at hK
        exact ⟨fun h => absurd h3 h, fun _ => t_spell hO str11 hK⟩
      · rw [if_neg h3] at hK
        refine ⟨fun _ => ?_, fun h => absurd h3 h⟩
        by_cases h4 : c = 34
        · by_cases h5 : q = 0
          · rw [if_neg (by omega)] at hK
            exact ⟨fun h => absurd h4 h, fun _ => ⟨fun _ => ⟨g1, t_put hO hc (fun r S1 f1 o1 => hK S1 f1 o1)⟩, fun h => absurd h5 h⟩⟩
          · rw [if_pos ⟨h4, by omega⟩] at hK
            exact ⟨fun h => absurd h4 h, fun _ => ⟨fun h => absurd h h5, fun _ => t_spell hO str12 hK⟩⟩
        · rw [if_neg (fun h => h4 h.1)] at hK
          exact ⟨fun _ => ⟨g1, t_put hO hc (fun r S1 f1 o1 => hK S1 f1 o1)⟩, fun h => absurd h4 h⟩
theorem dgs_s (k : Nat) (p n : Int) : dgs (k + 1) p n = if p ≤ 0 then [] else (48 + (Int.tdiv n p - Int.tdiv (Int.tdiv n p) 10 * 10)) :: dgs k (Int.tdiv p 10) n := rfl
theorem pwf_s (k : Nat) (p n : Int) : pwf (k + 1) p n = if p * 10 ≤ n then pwf k (p * 10) n else p := rfl
theorem o_number {v : Int} (hv : rng v) (hO : oC S 22 A) (hK : ∀ S', Of S S' → oC S' 22 (A ++ num v) → K 0 S') : wX8_number v S K := by
  unfold wX8_number
  intro _
  refine ⟨⟨by omega, by omega⟩, ?_⟩
  obtain ⟨n, hn⟩ : ∃ n : Int, n = (if 0 < v then v else -v) := ⟨_, rfl⟩
  have n0 : 0 ≤ n ∧ n ≤ 2147483648 := by
    by_cases q : 0 < v
    · rw [if_pos q] at hn
      omega
    · rw [if_neg q] at hn
      omega
  rw [← hn]
  unfold num at hK
  rw [← hn] at hK
  clear hn
  unfold wX8_number_12
  refine ⟨fun l1 l2 l4 l6 T => l1 = v ∧ l2 = n ∧ 0 ≤ l6 ∧ l6 ≤ 9 ∧ 1 ≤ l4 ∧ l4 ≤ 2147483648 ∧ T = S ∧ pwf (9 - l6).toNat l4 n = pwf 9 1 n, fun l1 l2 l4 l6 T => (9 - l6).toNat, ⟨rfl, rfl, by decide, by decide, by decide, by decide, rfl, rfl⟩, fun l1 l2 l4 l6 T hI => ?_⟩
  obtain ⟨rfl, rfl, i1, i2, i3, i4, rfl, i5⟩ := hI
  unfold wX8_number_12'
  have done : pwf 9 1 l2 = l4 → wX8_number_44 l1 l2 l4 T K := fun e4 => by
    rw [e4] at hK
    unfold wX8_number_44
    have dig : ∀ (S1 : St) (A1 : List Int), Of T S1 → oC S1 22 A1 → A1 = A ++ (if l1 < 0 then [45] else []) → wX8_number_58 l2 l4 S1 K := fun S1 A1 f1 o1 ea => by
      subst ea
      unfold wX8_number_58 wX8_number_61
      refine ⟨fun m2 m4 m6 U => m2 = l2 ∧ 0 ≤ m6 ∧ m6 ≤ 10 ∧ 0 ≤ m4 ∧ m4 ≤ 2147483648 ∧ Of T U ∧ ∃ A', oC U 22 A' ∧ A' ++ dgs (10 - m6).toNat m4 l2 = A ++ ((if l1 < 0 then [45] else []) ++ dgs 10 l4 l2), fun m2 m4 m6 U => (10 - m6).toNat, ⟨rfl, by decide, by decide, by omega, i4, f1, _, o1, by rw [List.append_assoc]; rfl⟩, fun m2 m4 m6 U hJ => ?_⟩
      obtain ⟨rfl, j1, j2, j3, j4, f2, A', o2, hc⟩ := hJ
      unfold wX8_number_61'
      refine ⟨⟨by omega, by omega⟩, fun h => ?_, fun h => ⟨⟨by omega, by omega⟩, fun h2 => ?_, fun h2 => ?_⟩⟩
      · rw [show (10 - m6).toNat = 0 by omega] at hc
        refine hK U f2 ?_
        rw [← hc, show dgs 0 m4 m2 = [] from rfl, List.append_nil]
        exact o2
      · rw [show (10 - m6).toNat = (10 - (m6 + 1)).toNat + 1 by omega] at hc
        rw [dgs_s (10 - (m6 + 1)).toNat, if_pos h2, List.append_nil] at hc
        refine hK U f2 ?_
        rw [← hc]
        exact o2
      · have t1 : Int.tdiv m2 m4 = m2 / m4 := Int.tdiv_eq_ediv_of_nonneg n0.1
        have t2 : 0 ≤ m2 / m4 := Int.ediv_nonneg n0.1 (by omega)
        have t3 : m2 / m4 ≤ m2 := Int.ediv_le_self m4 n0.1
        have t4 : Int.tdiv (Int.tdiv m2 m4) 10 = m2 / m4 / 10 := by rw [t1]; exact Int.tdiv_eq_ediv_of_nonneg t2
        have t5 : Int.tdiv m4 10 = m4 / 10 := Int.tdiv_eq_ediv_of_nonneg j3
        rw [show (10 - m6).toNat = (10 - (m6 + 1)).toNat + 1 by omega] at hc
        rw [dgs_s (10 - (m6 + 1)).toNat, if_neg h2] at hc
        rw [t4, t1] at hc ⊢
        refine ⟨⟨by omega, by omega⟩, ⟨by omega, by omega⟩, by omega, ⟨by omega, by omega⟩, ⟨by omega, by omega⟩, ?_⟩
        refine t_put o2 ⟨by omega, by omega⟩ (fun r U1 f3 o3 => ⟨⟨by omega, by omega⟩, fun x hx => ⟨⟨rfl, by omega, by omega, by omega, by omega, f2.tr f3, _, o3, ?_⟩, by dsimp only; omega⟩⟩)
        subst hx
        rw [← hc, List.append_assoc]
        rfl
    refine ⟨⟨by omega, by omega⟩, fun h => ?_, fun h => ?_⟩
    · exact dig T A Of.rf hO (by rw [if_neg (by omega), List.append_nil])
    · exact t_put hO ⟨by decide, by decide⟩ (fun r S1 f1 o1 => dig S1 _ f1 o1 (by rw [if_pos (by omega)]))
  refine ⟨⟨by omega, by omega⟩, fun h => ?_, fun h => ⟨⟨by omega, by omega⟩, ⟨by omega, by omega⟩, fun h2 => ?_, fun h2 x hx => ?_⟩⟩
  · rw [show (9 - l6).toNat = 0 by omega] at i5
    exact done i5.symm
  · rw [show (9 - l6).toNat = (9 - (l6 + 1)).toNat + 1 by omega] at i5
    rw [pwf_s (9 - (l6 + 1)).toNat, if_neg (by omega)] at i5
    exact done i5.symm
  · rw [show (9 - l6).toNat = (9 - (l6 + 1)).toNat + 1 by omega] at i5
    rw [pwf_s (9 - (l6 + 1)).toNat, if_pos (by omega)] at i5
    subst hx
    exact ⟨⟨rfl, rfl, by omega, by omega, by omega, by omega, rfl, i5⟩, by dsimp only; omega⟩
theorem o_single {q : Int} (hE : cE S e) (hV : EV e) (hO : oC S 22 A) (ho : okO e o) (hf : okF e (eK e o) f) (hd : eD e (eK e o) f ≤ 1) (hq : iv 0 1 q) (hK : ∀ S', Of S S' → oC S' 22 (A ++ sgl e o f q) → K 0 S') : wX8_single o f q S K := by
  have hN := hV.1
  have o1 := ho.1
  have o2 := ho.2
  have hF := hV.2.2.2.1 _ hf.1
  have f1 := hf.2.1
  have f2 := hf.2.2
  have hv := hV.2.2.2.2.2 o f ho hf
  have hkd := (hV.2.2.2.2.1 _ _ hf).1
  have hkc := hV.2.2.1 o ho
  have hC := hV.2.1
  have c1 := hkc.1
  have c2 := hkc.2
  unfold wX8_single
  intro _ _ _
  refine r_cls hE hV ho ⟨⟨by omega, by omega⟩, r_shape hE hV hf ⟨⟨by omega, by omega⟩, fun h => ?_, fun h => ?_⟩⟩
  · have hd1 : eD e (eK e o) f = 1 := by omega
    have hv1 := hv.2.1 hd1
    unfold sgl at hK
    rw [if_neg (by omega)] at hK
    unfold wX8_single_37
    refine ⟨fun l1 l2 l3 l4 T => l1 = o ∧ l2 = f ∧ l3 = q ∧ 0 ≤ l4 ∧ l4 ≤ eV e o f ∧ Of S T ∧ ∃ A', oC T 22 A' ∧ A' ++ catF (fun i => esc q (eP e o f i)) (eV e o f - l4).toNat l4 = A ++ catF (fun i => esc q (eP e o f i)) (eV e o f).toNat 0, fun l1 l2 l3 l4 T => (21 - l4).toNat, ⟨rfl, rfl, rfl, by decide, hv1.1.1, Of.rf, A, hO, by simp⟩, fun l1 l2 l3 l4 T hI => ?_⟩
    obtain ⟨rfl, rfl, rfl, i1, i2, hF1, A', hA, hc⟩ := hI
    have hE1 := hE.of hF1
    unfold wX8_single_37'
    refine ⟨⟨by omega, by omega⟩, fun h => ?_, fun h => ⟨⟨by omega, by omega⟩, ⟨by omega, by omega⟩, r_head hE1 hV ho hf ⟨hv.1, fun h2 => ?_, fun h2 => ?_⟩⟩⟩
    · rw [catF_end (by omega), List.append_nil] at hc
      exact hK T hF1 (by rw [← hc]; exact hA)
    · rw [catF_end (by omega), List.append_nil] at hc
      exact hK T hF1 (by rw [← hc]; exact hA)
    · have hp := hv1.2 l4 i1 (by omega)
      refine r_cell hE1 hV ho hf (Or.inl hd1) i1 (by omega) ⟨⟨by omega, by omega⟩, ⟨by omega, by omega⟩, o_escaped hA hp hq (fun S' g1 g2 => ⟨⟨rfl, rfl, rfl, by omega, by omega, hF1.tr g1, _, g2, ?_⟩, by dsimp only; omega⟩)⟩
      rw [catF_succ (by omega)] at hc
      rw [← hc, List.append_assoc]
  · have hd0 : eD e (eK e o) f = 0 := by omega
    unfold sgl at hK
    rw [if_pos hd0] at hK
    exact r_head hE hV ho hf ⟨hv.1, o_number hv.1 hO hK⟩
end WO

