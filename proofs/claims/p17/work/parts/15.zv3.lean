/-! WHAT ELEMENTS MEAN: the class: what fills a field, ids -/
section QF
variable {S : St} {K : Int → St → Prop} {W : Int → Int} {n a b o f v : Int} {e : Env} {h : Hs} {m : Nat}
theorem b_isFT (hX : TX W n) (hC : rTc S 4 W n) (a0 : 0 ≤ a) (ab : a ≤ b) (bn : b ≤ n) (hK : ∀ r, (r = 1 ∧ (sbT W a b).length ≤ 20 ∧ ∀ u ∈ sbT W a b, 32 ≤ u) ∨ (r = 0 ∧ ¬ ((sbT W a b).length ≤ 20 ∧ ∀ u ∈ sbT W a b, 32 ≤ u)) → K r S) : wX10_isFieldText_b a b S K := by
  have hn := hX.1
  unfold wX10_isFieldText_b
  refine fun _ _ => ⟨⟨by omega, by omega⟩, fun z => ?_, fun z => hK 0 (Or.inr ⟨rfl, fun w => by have := w.1; rw [sbT_len] at this; omega⟩)⟩
  refine ⟨fun l2 l3 S' => l2 = b ∧ S' = S ∧ a ≤ l3 ∧ l3 ≤ b ∧ ((∀ u ∈ sbT W l3 b, 32 ≤ u) ↔ ∀ u ∈ sbT W a b, 32 ≤ u), fun l2 l3 S' => (b - l3).toNat, ⟨rfl, rfl, by omega, ab, Iff.rfl⟩, ?_⟩
  rintro l2 l3 S' ⟨rfl, rfl, h0, h1, h2⟩
  refine ⟨⟨by omega, by omega⟩, ⟨by omega, by omega⟩, fun z2 => hK 1 (Or.inl ⟨rfl, by rw [sbT_len]; omega, h2.mp (by rw [sbT_nil z2]; intro u hu; cases hu)⟩), fun z2 => q_at hX hC (by omega) ?_⟩
  have bb := tx_rng hX (show 0 ≤ l3 by omega)
  rw [sbT_cons (show l3 < l2 by omega)] at h2
  refine ⟨⟨by omega, by omega⟩, fun w => ⟨⟨rfl, rfl, by omega, by omega, ?_⟩, ?_⟩, fun w => hK 0 (Or.inr ⟨rfl, fun q => w (h2.mpr q.2 _ (List.mem_cons_self ..))⟩)⟩
  · rw [← h2]
    refine ⟨fun q u hu => ?_, fun q u hu => q u (List.mem_cons_of_mem _ hu)⟩
    rcases List.mem_cons.mp hu with rfl | hu
    · exact w
    · exact q u hu
  · show (l2 - (l3 + 1)).toNat < (l2 - l3).toNat
    omega
theorem b_putText (hX : TX W n) (hC : rTc S 4 W n) (g : cH S e h) (hH : EH e h) (ho : 0 ≤ o ∧ o < h.1) (hf : 0 ≤ f ∧ f < 4) (a0 : 0 ≤ a) (ab : a ≤ b) (bn : b ≤ n) (h20 : b - a ≤ 20) (hK : ∀ T, TtB S T W (o * 4 + f) a (b - a) (b - a) → K 0 T) : wX1_putText_b o f a b S K := by
  have hn := hX.1
  have h30 := hH.1
  unfold wX1_putText_b
  refine fun _ _ _ _ => b_hasF g ho hf ⟨⟨by decide, by decide⟩, fun _ x5 e5 => ?_, fun z => absurd (by decide) z⟩
  rw [if_neg (by omega)]
  refine ⟨⟨by omega, by omega⟩, by omega, by omega, ⟨by omega, by omega⟩, fun S8 e8 => ?_⟩
  refine ⟨fun l4 l6 l7 T => l4 = a ∧ l6 = x5 ∧ 0 ≤ l7 ∧ l7 ≤ b - a ∧ TtB S T W x5 a (b - a) l7, fun l4 l6 l7 T => (b - a - l7).toNat, ⟨rfl, rfl, by decide, by omega, ?_⟩, ?_⟩
  · rw [e8]
    refine ⟨⟨fun _ _ _ => rfl, fun b q => (pA_ne b (by omega)).2⟩, rfl, (pA_ne 51 (by decide)).2, fun y => pA_if, fun y => ?_⟩
    rw [if_neg (by omega), (pA_ne 53 (by decide)).2]
  · rintro l4 l6 l7 T ⟨rfl, rfl, i0, i1, t1, t2, t3, t4, t5⟩
    have hC' : rTc T 4 W n := by
      refine ⟨(t1.1 4 1 (by decide)).trans hC.1, fun p p0 p1 => ?_⟩
      rw [t1.2 4 (by decide)]
      exact hC.2 p p0 p1
    have e52 : T.2 52 l6 = b - l4 := by rw [t4, if_pos rfl]
    have fin : l7 = b - l4 → K 0 T := fun q => by
      rw [q] at t5
      rw [e5] at t4 t5
      exact hK T ⟨t1, t2, t3, t4, t5⟩
    refine ⟨⟨by omega, by omega⟩, fun q => fin (by omega), fun q => ⟨by omega, by omega, fun _ => ?_⟩⟩
    rw [e52]
    refine ⟨fun q2 => fin (by omega), fun q2 => ⟨⟨by omega, by omega⟩, q_at hX hC' (by omega) ?_⟩⟩
    have bb := tx_rng hX (show 0 ≤ l4 + l7 by omega)
    refine ⟨by omega, by omega, ⟨by omega, by omega⟩, fun S10 e10 => ⟨⟨rfl, rfl, by omega, by omega, ⟨fun b j z => ?_, fun b z => ?_⟩, ?_, ?_, fun y => ?_, fun y => ?_⟩, by show (b - l4 - (l7 + 1)).toNat < (b - l4 - l7).toNat; omega⟩⟩
    · rw [e10]
      exact t1.1 b j z
    · rw [e10, (pA_ne b (by omega)).2]
      exact t1.2 b z
    · rw [e10]
      exact t2
    · rw [e10, (pA_ne 51 (by decide)).2]
      exact t3
    · rw [e10, (pA_ne 52 (by decide)).2]
      exact t4 y
    · rw [e10, pA_if, t5 y]
      by_cases hy : y = l6 * 20 + l7
      · rw [if_pos hy, if_pos (by omega), show y - l6 * 20 = l7 by omega]
      · rw [if_neg hy]
        by_cases hz : l6 * 20 ≤ y ∧ y < l6 * 20 + l7
        · rw [if_pos hz, if_pos (by omega)]
        · rw [if_neg hz, if_neg (by omega)]
theorem tI_rng {x : Int} : rng (tI x) := ⟨Int32.le_toInt _, by have := Int32.toInt_lt (Int32.ofInt x); unfold tI; omega⟩
theorem tI_id {x : Int} (hx : rng x) : tI x = x := by
  unfold tI
  exact Int32.toInt_ofInt_of_le (by have := hx.1; omega) (by have := hx.2; omega)
theorem tI_iff {x : Int} : x = tI x ↔ rng x := ⟨fun q => by rw [q]; exact tI_rng, fun q => (tI_id q).symm⟩
theorem nvL_bd : ∀ (L : List Int) (v w : Int), 0 ≤ v → nvL L v = some w → 0 ≤ w ∧ w < (v + 1) * 10 ^ L.length
  | [], v, w, h0, h => by
    have h : some v = some w := h
    injection h with h
    rw [← h]
    refine ⟨h0, ?_⟩
    show v < (v + 1) * 1
    omega
  | u :: l, v, w, h0, h => by
    unfold nvL at h
    by_cases hu : isDg u
    · rw [if_pos hu] at h
      have hu1 : 48 ≤ u := hu.1
      have hu2 : u ≤ 57 := hu.2
      obtain ⟨q1, q2⟩ := nvL_bd l _ w (by omega) h
      refine ⟨q1, Int.lt_of_lt_of_le q2 ?_⟩
      rw [List.length_cons, Int.pow_succ, Int.mul_comm (10 ^ l.length) 10, ← Int.mul_assoc]
      exact Int.mul_le_mul_of_nonneg_right (by omega) (Int.le_of_lt (Int.pow_pos (by decide)))
    · rw [if_neg hu] at h
      cases h
/-- a number's figures -/
theorem b_num62 {neg : Bool} {l5 : Int} (h5 : (neg = true ∧ l5 = 1) ∨ (neg = false ∧ l5 = 0)) (hX : TX W n) (hC : rTc S 4 W n) (g : cH S e h) (hH : EH e h) (ho : 0 ≤ o ∧ o < h.1) (hf : 0 ≤ f ∧ f < 4) (a0 : 0 ≤ a) (ab : a ≤ b) (bn : b ≤ n) (h10 : b - a ≤ 10) (hK0 : (match nvL (sbT W a b) 0 with | none => none | some v => if rng (if neg = true then -v else v) then some (if neg = true then -v else v) else none) = none → K 0 S) (hK : ∀ v, (match nvL (sbT W a b) 0 with | none => none | some v => if rng (if neg = true then -v else v) then some (if neg = true then -v else v) else none) = some v → K 1 (pA S 52 (o * 4 + f) v)) : wX3_fillsNumber_62 m o f b l5 0 a S K := by
  have hn := hX.1
  have h30 := hH.1
  have hlen : (sbT W a b).length ≤ 10 := by rw [sbT_len]; omega
  have big : ∀ v, nvL (sbT W a b) 0 = some v → 0 ≤ v ∧ v < 10000000000 := fun v hv => by
    obtain ⟨q1, q2⟩ := nvL_bd _ 0 v (by decide) hv
    have q3 : (10 : Int) ^ (sbT W a b).length ≤ 10 ^ 10 := by
      have := Nat.pow_le_pow_right (show 0 < 10 by decide) hlen
      exact_mod_cast this
    have q4 : ((10 : Int) ^ 10) = 10000000000 := by decide
    exact ⟨q1, by omega⟩
  refine ⟨fun l1 l2 l4 l5' l7 l9 S' => l1 = o ∧ l2 = f ∧ l4 = b ∧ l5' = l5 ∧ S' = S ∧ a ≤ l9 ∧ l9 ≤ b ∧ nvL (sbT W l9 b) l7 = nvL (sbT W a b) 0, fun l1 l2 l4 l5' l7 l9 S' => (b - l9).toNat, ⟨rfl, rfl, rfl, rfl, rfl, by omega, ab, rfl⟩, ?_⟩
  rintro l1 l2 l4 l5' l7 l9 S' ⟨rfl, rfl, rfl, rfl, rfl, h0, h1, h3⟩
  have fin : ∀ s0 : Int, s0 = (if neg = true then -l7 else l7) → nvL (sbT W a l4) 0 = some l7 → wX3_fillsNumber_128 m l1 l2 s0 S' K := fun s0 hs hv => by
    have bv := big l7 hv
    have bs : -10000000000 < s0 ∧ s0 < 10000000000 := by
      rw [hs]
      by_cases q : neg = true
      · rw [if_pos q]
        omega
      · rw [if_neg q]
        omega
    have bt := tI_rng (x := s0)
    rw [hv] at hK0 hK
    dsimp only at hK0 hK
    rw [← hs] at hK0 hK
    unfold wX3_fillsNumber_128
    refine ⟨bt, ⟨by omega, by omega⟩, ⟨by have := bt.1; omega, by have := bt.2; omega⟩, fun q => ⟨⟨by omega, by omega⟩, ⟨by omega, by omega⟩, ?_⟩, fun q => hK0 (if_neg (fun z => q (tI_iff.mpr z)))⟩
    rw [← q]
    have hr := tI_iff.mp q
    exact b_putHead g hH ho hf hr (hK s0 (if_pos hr))
  refine ⟨⟨by omega, by omega⟩, ⟨by omega, by omega⟩, fun z => ⟨⟨by omega, by omega⟩, fun q => ?_, fun q => ?_⟩, fun z => q_at hX hC (by omega) ?_⟩
  · rw [sbT_nil z] at h3
    refine fin l7 ?_ h3.symm
    rcases h5 with ⟨-, w⟩ | ⟨w, -⟩
    · omega
    · rw [w]
      exact (if_neg (by decide)).symm
  · rw [sbT_nil z] at h3
    refine fin (-l7) ?_ h3.symm
    rcases h5 with ⟨w, -⟩ | ⟨-, w⟩
    · rw [w]
      exact (if_pos rfl).symm
    · omega
  · have bb := tx_rng hX (show 0 ≤ l9 by omega)
    rw [sbT_cons (show l9 < l4 by omega)] at h3
    refine ⟨⟨by omega, by omega⟩, k_isDg (fun r hr => ?_)⟩
    rcases hr with ⟨rfl, hd⟩ | ⟨rfl, hd⟩
    · have h3' : nvL (sbT W (l9 + 1) l4) (l7 * 10 + W l9 - 48) = nvL (sbT W a l4) 0 := (if_pos hd).symm.trans h3
      have hd1 : 48 ≤ W l9 := hd.1
      have hd2 : W l9 ≤ 57 := hd.2
      refine ⟨⟨by decide, by decide⟩, fun _ => q_at hX hC (by omega) ⟨⟨by omega, by omega⟩, fun x16 e16 => ?_⟩, fun q => absurd (by decide) q⟩
      refine ⟨⟨rfl, rfl, rfl, rfl, rfl, by omega, by omega, ?_⟩, ?_⟩
      · rw [e16]
        exact h3'
      · show (l4 - (l9 + 1)).toNat < (l4 - l9).toNat
        omega
    · have h3' : nvL (sbT W a l4) 0 = none := ((if_neg hd).symm.trans h3).symm
      refine ⟨⟨by decide, by decide⟩, fun q => absurd rfl q, fun _ => hK0 ?_⟩
      rw [h3']
theorem b_num (hX : TX W n) (hC : rTc S 4 W n) (g : cH S e h) (hH : EH e h) (ho : 0 ≤ o ∧ o < h.1) (hf : 0 ≤ f ∧ f < 4) (a0 : 0 ≤ a) (ab : a ≤ b) (bn : b ≤ n) (hK0 : nmV (sbT W a b) = none → K 0 S) (hK : ∀ v, nmV (sbT W a b) = some v → K 1 (pA S 52 (o * 4 + f) v)) : wX3_fillsNumber m o f a b S K := by
  have hn := hX.1
  have bb := tx_rng hX a0
  have t32 : ∀ (neg : Bool) (l5 q : Int), ((neg = true ∧ l5 = 1) ∨ (neg = false ∧ l5 = 0)) → a ≤ q → q ≤ a + 1 → (q ≤ b → nmV (sbT W a b) = nm2 (sbT W q b) neg) → (b < q → nmV (sbT W a b) = none) → wX3_fillsNumber_32 m o f b l5 q S K := fun neg l5 q h5 q0 q1 e1 e2 => by
    unfold wX3_fillsNumber_32
    by_cases hq : q ≤ b
    · rw [e1 hq] at hK0 hK
      unfold nm2 at hK0 hK
      rw [sbT_len] at hK0 hK
      refine ⟨⟨by omega, by omega⟩, fun z => hK0 (if_pos (by omega)), fun z => ⟨fun z2 => ?_, fun z2 => hK0 (if_pos (by omega))⟩⟩
      rw [if_neg (by omega)] at hK0 hK
      exact b_num62 h5 hX hC g hH ho hf (by omega) hq bn z2 hK0 hK
    · exact ⟨⟨by omega, by omega⟩, fun z => hK0 (e2 (by omega)), fun z => absurd (by omega) z⟩
  have hcons : a < b → sbT W a b = W a :: sbT W (a + 1) b := fun q => sbT_cons q
  unfold wX3_fillsNumber wX3_fillsNumber_18
  refine fun _ _ _ _ => q_at hX hC a0 ⟨⟨by omega, by omega⟩, fun z => ⟨⟨by decide, by decide⟩, fun _ => ?_, fun w => absurd rfl w⟩, fun z => ⟨⟨by decide, by decide⟩, fun w => absurd w (by decide), fun _ => ?_⟩⟩
  · refine t32 false 0 a (Or.inr ⟨rfl, rfl⟩) (by omega) (by omega) (fun _ => ?_) (fun q => absurd q (by omega))
    by_cases q : a < b
    · rw [hcons q]
      show (if W a = 45 then _ else _) = _
      rw [if_neg z]
    · rw [sbT_nil (by omega)]
      exact ((if_pos (Or.inl rfl)).symm : (none : Option Int) = nm2 [] false)
  · refine t32 true 1 (a + 1) (Or.inl ⟨rfl, rfl⟩) (by omega) (by omega) (fun q => ?_) (fun q => ?_)
    · rw [hcons (by omega)]
      show (if W a = 45 then _ else _) = _
      rw [if_pos (Classical.not_not.mp z)]
    · rw [sbT_nil (by omega)]
      rfl
theorem b_fills (hE : cE S e) (hV : EV e) (hX : TX W n) (hC : rTc S 4 W n) (g : cH S e h) (hH : EH e h) (ho : 0 ≤ o ∧ o < h.1) (hf : okF e (h.2.1 o) f) (hk : eD e (h.2.1 o) f ≤ 1) (a0 : 0 ≤ a) (ab : a ≤ b) (bn : b ≤ n) (hW : ∀ u ∈ sbT W a b, isSn u) (hK0 : fil e h o f (sbT W a b) = none → K 0 S) (hK : ∀ h' S', fil e h o f (sbT W a b) = some h' → HF S S' → cH S' e h' → EH e h' → K 1 S') : wX3_fills m o f a b S K := by
  have hn := hX.1
  have h30 := hH.1
  have f4 := okF4 hV hf
  have hc := hH.2.1 o ho.1 ho.2
  have h6 := hV.2.1
  have hD := (hV.2.2.2.2.1 _ _ hf).1
  unfold wX3_fills
  refine fun _ _ _ _ => b_cls g hH ho ⟨⟨by have := hc.1; omega, by have := hc.2; omega⟩, r_shape hE hV hf ⟨⟨by omega, by omega⟩, fun z => ?_, fun z => ?_⟩⟩
  · have hk1 : eD e (h.2.1 o) f = 1 := by omega
    unfold fil at hK0 hK
    rw [if_neg (by omega)] at hK0 hK
    refine b_isFT hX hC a0 ab bn (fun r hr => ?_)
    rcases hr with ⟨rfl, hw⟩ | ⟨rfl, hw⟩
    · rw [if_pos hw] at hK
      have hl := hw.1
      rw [sbT_len] at hl
      refine ⟨⟨by decide, by decide⟩, fun _ => b_putText hX hC g hH ho f4 a0 ab bn (by omega) (fun T hT => hK _ T rfl hT.1 (cH_T g hV hH hf hk1 rfl rfl (by omega) (by omega) hT) (EH_T hH hk1 hw.1 (fun u hu => ?_))), fun w => absurd (by decide) w⟩
      have q1 := hW u hu
      have q2 := hw.2 u hu
      exact ⟨q2, by omega⟩
    · rw [if_neg hw] at hK0
      exact ⟨⟨by decide, by decide⟩, fun w => absurd rfl w, fun _ => hK0 rfl⟩
  · have hk1 : eD e (h.2.1 o) f = 0 := by omega
    unfold fil at hK0 hK
    rw [if_pos hk1] at hK0 hK
    refine b_num hX hC g hH ho f4 a0 ab bn (fun q => ⟨⟨by decide, by decide⟩, hK0 (by rw [q])⟩) (fun v q => ⟨⟨by decide, by decide⟩, ?_⟩)
    have hr : rng v := by
      have two : ∀ D neg, nm2 D neg = some v → rng v := fun D neg w => by
        unfold nm2 at w
        by_cases c1 : D.length = 0 ∨ 10 < D.length
        · rw [if_pos c1] at w
          cases w
        · rw [if_neg c1] at w
          cases hv : nvL D 0 with
          | none =>
            rw [hv] at w
            cases w
          | some y =>
            rw [hv] at w
            dsimp only at w
            by_cases c2 : rng (if neg = true then -y else y)
            · rw [if_pos c2] at w
              injection w with w
              rw [← w]
              exact c2
            · rw [if_neg c2] at w
              cases w
      unfold nmV at q
      cases hl : sbT W a b with
      | nil =>
        rw [hl] at q
        cases q
      | cons u l =>
        rw [hl] at q
        dsimp only at q
        by_cases c : u = 45
        · rw [if_pos c] at q
          exact two _ _ q
        · rw [if_neg c] at q
          exact two _ _ q
    exact hK _ _ (by rw [q]) HF.p52 (cH_V g hV hf (Or.inl hk1)) (EH_V hH ho (Or.inl ⟨hk1, hr⟩))
theorem b_idAt (hX : TX W n) (hC : rTc S 4 W n) (a0 : 0 ≤ a) (ab : a ≤ b) (bn : b ≤ n) (hK : iv 0 9999 (idV (sbT W a b)) → K (idV (sbT W a b)) S) : wX3_idAt m a b S K := by
  have hn := hX.1
  have bb := tx_rng hX a0
  unfold idV at hK
  rw [sbT_len] at hK
  unfold wX3_idAt
  refine fun _ _ => ⟨⟨by omega, by omega⟩, fun z => ?_, fun z => ⟨fun z2 => ?_, fun z2 => q_at hX hC a0 ⟨⟨by omega, by omega⟩, fun z3 => ?_, fun z3 => ?_⟩⟩⟩
  · rw [if_pos (by omega)] at hK
    exact hK ⟨by decide, by decide⟩
  · rw [if_pos (by omega)] at hK
    exact hK ⟨by decide, by decide⟩
  · have hh : (sbT W a b).headD 0 = W a := by
      rw [sbT_cons (by omega)]
      rfl
    rw [if_neg (by rw [hh]; omega)] at hK
    refine ⟨fun l2 l3 l4 S' => l2 = b ∧ S' = S ∧ a ≤ l4 ∧ l4 ≤ b ∧ nvL (sbT W l4 b) l3 = nvL (sbT W a b) 0, fun l2 l3 l4 S' => (b - l4).toNat, ⟨rfl, rfl, by omega, ab, rfl⟩, ?_⟩
    rintro l2 l3 l4 S' ⟨rfl, rfl, h0, h1, h2⟩
    refine ⟨⟨by omega, by omega⟩, ⟨by omega, by omega⟩, fun q => ?_, fun q => q_at hX hC (by omega) ?_⟩
    · rw [sbT_nil q] at h2
      have h2' : nvL (sbT W a l2) 0 = some l3 := h2.symm
      obtain ⟨q1, q2⟩ := nvL_bd _ 0 l3 (by decide) h2'
      have q3 : (10 : Int) ^ (sbT W a l2).length ≤ 10 ^ 4 := by
        have := Nat.pow_le_pow_right (show 0 < 10 by decide) (show (sbT W a l2).length ≤ 4 by rw [sbT_len]; omega)
        exact_mod_cast this
      have q4 : ((10 : Int) ^ 4) = 10000 := by decide
      rw [h2'] at hK
      exact hK ⟨q1, by show l3 ≤ 9999; omega⟩
    · have b2 := tx_rng hX (show 0 ≤ l4 by omega)
      rw [sbT_cons (show l4 < l2 by omega)] at h2
      refine ⟨⟨by omega, by omega⟩, k_isDg (fun r hr => ?_)⟩
      rcases hr with ⟨rfl, hd⟩ | ⟨rfl, hd⟩
      · refine ⟨⟨by decide, by decide⟩, fun _ => q_at hX hC (by omega) (fun x13 e13 => ⟨⟨rfl, rfl, by omega, by omega, ?_⟩, ?_⟩), fun w => absurd (by decide) w⟩
        · rw [e13]
          exact (if_pos hd).symm.trans h2
        · show (l2 - (l4 + 1)).toNat < (l2 - l4).toNat
          omega
      · have h3' : nvL (sbT W a l2) 0 = none := ((if_neg hd).symm.trans h2).symm
        rw [h3'] at hK
        exact ⟨⟨by decide, by decide⟩, fun w => absurd rfl w, fun _ => hK ⟨by decide, by decide⟩⟩
  · have hh : (sbT W a b).headD 0 = W a := by
      rw [sbT_cons (by omega)]
      rfl
    rw [if_pos (Or.inr (Or.inr (hh.trans (Classical.not_not.mp z3))))] at hK
    exact hK ⟨by decide, by decide⟩
theorem b_withId {M : Mm} (h200 : m ≤ 200) (ht : ∀ x : Int, 0 ≤ x → x < m → S.2 235 x = M.2 4 x) (hv : iv 0 9999 v) (hK : K (wId M m v) S) : wX3_elementWithId m v S K := by
  unfold wX3_elementWithId
  refine fun _ => ⟨fun l1 l2 S' => l1 = v ∧ S' = S ∧ 0 ≤ l2 ∧ l2 ≤ m ∧ (¬ v = 0 → fnd (fun k => decide (M.2 4 k = v)) ((m : Int) - l2).toNat l2 = wId M m v), fun l1 l2 S' => ((m : Int) - l2).toNat, ⟨rfl, rfl, by decide, by omega, fun z => ?_⟩, ?_⟩
  · unfold wId
    rw [if_neg z, show ((m : Int) - 0).toNat = m by omega]
  · rintro l1 l2 S' ⟨rfl, rfl, h0, h1, h2⟩
    have next : l2 < m → ¬ (S'.2 235 l2 = l1 ∧ ¬ l1 = 0) → wX3_elementWithId_27 m l1 l2 S' K (fun ml1 ml2 T => (ml1 = l1 ∧ T = S' ∧ 0 ≤ ml2 ∧ ml2 ≤ m ∧ (¬ l1 = 0 → fnd (fun k => decide (M.2 4 k = l1)) ((m : Int) - ml2).toNat ml2 = wId M m l1)) ∧ ((m : Int) - ml2).toNat < ((m : Int) - l2).toNat) := fun q w => by
      unfold wX3_elementWithId_27
      refine ⟨⟨rfl, rfl, by omega, by omega, fun z => ?_⟩, by omega⟩
      have h3 := h2 z
      rw [fnd_at q, if_neg (by rw [decide_eq_true_eq, ← ht l2 h0 q]; exact fun y => w ⟨y, z⟩)] at h3
      exact h3
    refine ⟨⟨by omega, by omega⟩, fun q => ?_, fun q => ⟨h0, by omega, fun _ => ⟨⟨by omega, by omega⟩, fun w => next (by omega) (fun y => w y.1), fun w => ⟨fun w2 => next (by omega) (fun y => y.2 w2), fun w2 => ?_⟩⟩⟩⟩
    · by_cases z : l1 = 0
      · unfold wId at hK
        rw [if_pos z] at hK
        exact hK
      · have h3 := h2 z
        rw [fnd_end q] at h3
        rw [h3]
        exact hK
    · have h3 := h2 w2
      rw [fnd_at (by omega), if_pos (decide_eq_true ((ht l2 h0 (by omega)).symm.trans (Classical.not_not.mp w)))] at h3
      rw [h3]
      exact hK
end QF

