/-! READING XML: the class's signs -/
theorem cm_tl {T : Int → Int} {p x : Int} {l : List Int} (h : T p = x) : cm T p (x :: l) = cm T (p + 1) l := by
  show (decide (T p = x) && cm T (p + 1) l) = _
  rw [decide_eq_true h]
  rfl
section YD
variable {S : St} {K : Int → St → Prop} {T : Int → Int} {n p u b : Int}
theorem k_dig {hex : Bool} (hb : b = if hex = true then 16 else 10) (hK : K (dgV hex u) S) : wX9_digit u b S K := by
  unfold wX9_digit
  intro gu gb
  unfold dgV at hK
  have low : ¬ isDg u → wX9_digit_17 u b S K := fun hd => by
    rw [if_neg hd] at hK
    cases hex with
    | false =>
      have hb : b = 10 := hb
      rw [if_neg (fun z => absurd z.1 (by decide)), if_neg (fun z => absurd z.1 (by decide))] at hK
      exact ⟨gb, fun _ => ⟨gb, fun _ => hK, fun z => absurd (by omega) z⟩, fun z => absurd (by omega) z⟩
    | true =>
      have hb : b = 16 := hb
      have up : ¬ (97 ≤ u ∧ u ≤ 102) → wX9_digit_43 u b S K := fun h9 => by
        rw [if_neg (fun z => h9 z.2)] at hK
        refine ⟨gb, fun z => absurd hb z, fun _ => ⟨gu, fun z => ?_, fun z => ⟨fun z2 => ?_, fun z2 => ?_⟩⟩⟩
        · rw [if_neg (fun w => by omega)] at hK
          exact hK
        · rw [if_neg (fun w => by omega)] at hK
          exact hK
        · rw [if_pos ⟨rfl, by omega, by omega⟩, show u - 55 = u - 65 + 10 by omega] at hK
          exact hK
      refine ⟨gb, fun z => absurd hb z, fun _ => ⟨gu, fun z => up (by omega), fun z => ⟨fun z2 => up (by omega), fun z2 => ?_⟩⟩⟩
      rw [if_pos ⟨rfl, by omega, by omega⟩, show u - 87 = u - 97 + 10 by omega] at hK
      exact hK
  refine ⟨fun h => low (by omega), fun h => ⟨fun h2 => low (by omega), fun h2 => ?_⟩⟩
  rw [if_pos ⟨by omega, by omega⟩] at hK
  exact hK
theorem k_named (hX : TX T n) (hC : rTx S T n) (hp : S.1 220 3 = p) (p0 : 0 ≤ p) (p1 : p < n) (h38 : T p = 38) (h35 : ¬ T (p + 1) = 35) (hK : (∀ u q, ent T p = some (u, q) → K u (pI S 220 3 q)) ∧ (ent T p = none → K (-1) S)) : wX9_named S K := by
  have hn := hX.1
  have hent : ent T p = if cm T (p + 1) [97, 109, 112, 59] then some (38, p + 5) else if cm T (p + 1) [108, 116, 59] then some (60, p + 4) else if cm T (p + 1) [103, 116, 59] then some (62, p + 4) else if cm T (p + 1) [113, 117, 111, 116, 59] then some (34, p + 6) else if cm T (p + 1) [97, 112, 111, 115, 59] then some (39, p + 6) else none := by
    unfold ent
    rw [if_neg h35]
  unfold wX9_named
  refine k_X9_comes_c hX hC hp p0 (by omega) (fun r hr => ?_)
  rw [cm_tl h38] at hr
  rcases hr with ⟨rfl, hc⟩ | ⟨rfl, hc⟩
  · refine ⟨⟨by decide, by decide⟩, fun z => absurd z (by decide), fun _ => ?_⟩
    rw [hp]
    refine fun _ => ⟨⟨by omega, by omega⟩, fun S2 e2 => ?_⟩
    rw [e2]
    exact hK.1 38 _ (by rw [hent, if_pos hc])
  rw [if_neg (by rw [hc]; decide)] at hent
  refine ⟨⟨by decide, by decide⟩, fun _ => k_X9_comes_d hX hC hp p0 (by omega) (fun r hr => ?_), fun z => absurd rfl z⟩
  rw [cm_tl h38] at hr
  rcases hr with ⟨rfl, hc⟩ | ⟨rfl, hc⟩
  · refine ⟨⟨by decide, by decide⟩, fun z => absurd z (by decide), fun _ => ?_⟩
    rw [hp]
    refine fun _ => ⟨⟨by omega, by omega⟩, fun S2 e2 => ?_⟩
    rw [e2]
    exact hK.1 60 _ (by rw [hent, if_pos hc])
  rw [if_neg (by rw [hc]; decide)] at hent
  refine ⟨⟨by decide, by decide⟩, fun _ => k_X9_comes_e hX hC hp p0 (by omega) (fun r hr => ?_), fun z => absurd rfl z⟩
  rw [cm_tl h38] at hr
  rcases hr with ⟨rfl, hc⟩ | ⟨rfl, hc⟩
  · refine ⟨⟨by decide, by decide⟩, fun z => absurd z (by decide), fun _ => ?_⟩
    rw [hp]
    refine fun _ => ⟨⟨by omega, by omega⟩, fun S2 e2 => ?_⟩
    rw [e2]
    exact hK.1 62 _ (by rw [hent, if_pos hc])
  rw [if_neg (by rw [hc]; decide)] at hent
  refine ⟨⟨by decide, by decide⟩, fun _ => k_X9_comes_f hX hC hp p0 (by omega) (fun r hr => ?_), fun z => absurd rfl z⟩
  rw [cm_tl h38] at hr
  rcases hr with ⟨rfl, hc⟩ | ⟨rfl, hc⟩
  · refine ⟨⟨by decide, by decide⟩, fun z => absurd z (by decide), fun _ => ?_⟩
    rw [hp]
    refine fun _ => ⟨⟨by omega, by omega⟩, fun S2 e2 => ?_⟩
    rw [e2]
    exact hK.1 34 _ (by rw [hent, if_pos hc])
  rw [if_neg (by rw [hc]; decide)] at hent
  refine ⟨⟨by decide, by decide⟩, fun _ => k_X9_comes_g hX hC hp p0 (by omega) (fun r hr => ?_), fun z => absurd rfl z⟩
  rw [cm_tl h38] at hr
  rcases hr with ⟨rfl, hc⟩ | ⟨rfl, hc⟩
  · refine ⟨⟨by decide, by decide⟩, fun z => absurd z (by decide), fun _ => ?_⟩
    rw [hp]
    refine fun _ => ⟨⟨by omega, by omega⟩, fun S2 e2 => ?_⟩
    rw [e2]
    exact hK.1 39 _ (by rw [hent, if_pos hc])
  rw [if_neg (by rw [hc]; decide)] at hent
  exact ⟨⟨by decide, by decide⟩, fun _ => hK.2 hent, fun z => absurd rfl z⟩
theorem k_numb (hX : TX T n) (hC : rTx S T n) (hp : S.1 220 3 = p) (p0 : 0 ≤ p) (p1 : p < n) (h35 : T (p + 1) = 35) (hK : (∀ u q, ent T p = some (u, q) → K u (pI S 220 3 q)) ∧ (ent T p = none → K (-1) S)) : wX9_numbered S K := by
  have hn := hX.1
  have b2 := tx_rng hX (show 0 ≤ p + 2 by omega)
  have num : ∀ (hex : Bool) (f b : Int), (hex = true ↔ T (p + 2) = 120) → (f = p + if hex = true then 3 else 2) → (b = if hex = true then 16 else 10) → wX9_numbered_60 b f f 0 0 S K := fun hex f b hx hf hb => by
    have hex2 : decide (T (p + 2) = 120) = hex := by
      cases hex with
      | true => exact decide_eq_true (hx.mp rfl)
      | false => exact decide_eq_false (fun z => absurd (hx.mpr z) (by decide))
    have hf2 : p + (if T (p + 2) = 120 then 3 else 2) = f := by
      rw [hf]
      cases hex with
      | true => rw [if_pos (hx.mp rfl), if_pos rfl]
      | false => rw [if_neg (fun z => absurd (hx.mpr z) (by decide)), if_neg (by decide)]
    have hf3 : p + 2 ≤ f ∧ f ≤ p + 3 := by
      rw [hf]
      split <;> exact ⟨by omega, by omega⟩
    have hb3 : b ≤ 16 ∧ 0 ≤ b := by
      rw [hb]
      split <;> exact ⟨by decide, by decide⟩
    have hent : ent T p = if f < (dgR T hex 6 0 f).2 ∧ T (dgR T hex 6 0 f).2 = 59 ∧ isSn (dgR T hex 6 0 f).1 then some ((dgR T hex 6 0 f).1, (dgR T hex 6 0 f).2 + 1) else none := by
      unfold ent
      rw [if_pos h35, hex2, hf2]
    refine ⟨fun l2 l3 l4 l5 l6 S' => l2 = b ∧ l3 = f ∧ S' = S ∧ 0 ≤ l6 ∧ l6 ≤ 6 ∧ l4 = f + l6 ∧ 0 ≤ l5 ∧ l5 < ((16 ^ l6.toNat : Nat) : Int) ∧ dgR T hex (6 - l6).toNat l5 l4 = dgR T hex 6 0 f, fun l2 l3 l4 l5 l6 S' => (6 - l6).toNat, ⟨rfl, rfl, rfl, by decide, by decide, by omega, by decide, by decide, rfl⟩, ?_⟩
    rintro l2 l3 l4 l5 l6 S' ⟨rfl, rfl, rfl, i0, i1, i2, i3, i4, i5⟩
    have hpw : (16 ^ l6.toNat : Nat) ≤ 16777216 := Nat.pow_le_pow_right (n := 16) (by decide) (show l6.toNat ≤ 6 by omega)
    have bt := tx_rng hX (show 0 ≤ l4 by omega)
    have fin : dgR T hex 6 0 l3 = (l5, l4) → wX9_numbered_112 l3 l4 l5 S' K := fun hr => by
      rw [hr] at hent
      have no : ¬ (l3 < l4 ∧ T l4 = 59 ∧ isSn l5) → K (-1) S' := fun hq => hK.2 (by rw [hent]; exact if_neg hq)
      refine ⟨⟨by omega, by omega⟩, ⟨by omega, by omega⟩, fun z => no (fun w => by have := w.1; omega), fun z => k_at hX hC (by omega) ⟨⟨by omega, by omega⟩, fun z2 => no (fun w => z2 w.2.1), fun z2 => ⟨⟨by omega, by omega⟩, k_isSn (fun r hr => ?_)⟩⟩⟩
      rcases hr with ⟨rfl, h1⟩ | ⟨rfl, h1⟩
      · refine ⟨⟨by decide, by decide⟩, fun _ => ⟨⟨by omega, by omega⟩, fun S2 e2 => ?_⟩, fun w => absurd (by decide) w⟩
        rw [e2]
        refine hK.1 l5 (l4 + 1) ?_
        rw [hent]
        exact if_pos ⟨by show l3 < l4; omega, Classical.not_not.mp z2, h1⟩
      · exact ⟨⟨by decide, by decide⟩, fun w => absurd rfl w, fun _ => no (fun w => h1 w.2.2)⟩
    have hs : l6 < 6 → (6 - l6).toNat = (6 - (l6 + 1)).toNat + 1 := fun _ => by omega
    refine ⟨⟨by omega, by omega⟩, fun q6 => fin ?_, fun q6 => ⟨⟨by omega, by omega⟩, k_at hX hC (by omega) ⟨⟨by omega, by omega⟩, ⟨by omega, by omega⟩, k_dig hb ⟨?_, fun z => fin ?_, fun z => k_at hX hC (by omega) ⟨⟨by omega, by omega⟩, k_dig hb (fun x17 e17 => ?_)⟩⟩⟩⟩⟩
    · rw [← i5, show (6 - l6).toNat = 0 by omega]
      rfl
    · have hd := dgV_lt hex (T l4)
      exact ⟨by omega, by omega⟩
    · rw [← i5, hs (by omega)]
      show (if 0 ≤ dgV hex (T l4) then dgR T hex (6 - (l6 + 1)).toNat (l5 * (if hex = true then 16 else 10) + dgV hex (T l4)) (l4 + 1) else (l5, l4)) = _
      rw [if_neg (show ¬ 0 ≤ dgV hex (T l4) by omega)]
    · have hd := dgV_lt hex (T l4)
      have pw : (16 ^ (l6 + 1).toNat : Nat) = 16 ^ l6.toNat * 16 := by
        rw [show (l6 + 1).toNat = l6.toNat + 1 by omega, Nat.pow_succ]
      have m1 : l5 * l2 ≤ l5 * 16 := Int.mul_le_mul_of_nonneg_left hb3.1 i3
      have m0 : 0 ≤ l5 * l2 := Int.mul_nonneg i3 hb3.2
      refine ⟨⟨rfl, rfl, rfl, by omega, by omega, by omega, by omega, ?_, ?_⟩, ?_⟩
      · rw [pw, Int.natCast_mul]
        omega
      · rw [← i5, hs (by omega), e17, hb]
        show _ = (if 0 ≤ dgV hex (T l4) then dgR T hex (6 - (l6 + 1)).toNat (l5 * (if hex = true then 16 else 10) + dgV hex (T l4)) (l4 + 1) else (l5, l4))
        rw [if_pos (show 0 ≤ dgV hex (T l4) by omega)]
      · show (6 - (l6 + 1)).toNat < (6 - l6).toNat
        omega
  unfold wX9_numbered
  intro _
  rw [hp]
  refine ⟨⟨by omega, by omega⟩, k_at hX hC (by omega) ⟨⟨by omega, by omega⟩, fun z => ?_, fun z => ?_⟩⟩
  · refine ⟨⟨by decide, by decide⟩, fun _ => ?_, fun w => absurd rfl w⟩
    unfold wX9_numbered_35 wX9_numbered_49
    rw [hp]
    refine fun _ => ⟨⟨by decide, by decide⟩, fun _ x1 e1 => ?_, fun w => absurd rfl w⟩
    exact num false x1 10 ⟨fun w => absurd w (by decide), fun w => absurd w z⟩ e1 rfl
  · refine ⟨⟨by decide, by decide⟩, fun w => absurd w (by decide), fun _ => ?_⟩
    unfold wX9_numbered_35 wX9_numbered_49
    rw [hp]
    refine fun _ => ⟨⟨by decide, by decide⟩, fun w => absurd w (by decide), fun _ x1 e1 => ?_⟩
    exact num true x1 16 ⟨fun _ => Classical.not_not.mp z, fun _ => rfl⟩ e1 rfl
/-- the next sign -/
theorem k_dec (hX : TX T n) (hC : rTx S T n) (hp : S.1 220 3 = p) (p0 : 0 ≤ p) (p1 : p < n) (hK : (∀ u q, dec T p = some (u, q) → iv 0 65535 u → p < q → q ≤ n → K u (pI S 220 3 q)) ∧ (dec T p = none → K (-1) (pI S 220 6 p))) : wX9_decoded S K := by
  have hn := hX.1
  have b0 := hX.2.1 p p0 p1
  have b1 := tx_rng hX (show 0 ≤ p + 1 by omega)
  unfold wX9_decoded
  intro _
  rw [hp]
  refine k_at hX hC p0 ⟨⟨by omega, by omega⟩, fun z => ?_, fun z => ?_⟩
  · have hd : dec T p = ent T p := if_pos z
    rw [hd] at hK
    have fin : ∀ u q, ent T p = some (u, q) → wX9_decoded_59 u (pI S 220 3 q) K := fun u q he => by
      have eb := ent_b hX p0 he
      have eu : iv 0 65535 u := ⟨by omega, by omega⟩
      exact ⟨⟨by omega, by omega⟩, fun _ => hK.1 u q he eu (by omega) eb.2.1, fun w => absurd (by omega) w⟩
    have bad : ent T p = none → wX9_decoded_59 (-1) S K := fun he => by
      refine ⟨⟨by decide, by decide⟩, fun w => absurd rfl w, fun _ => ?_⟩
      rw [hp]
      refine fun _ S2 e2 => ?_
      rw [e2]
      exact hK.2 he
    rw [hp]
    refine fun _ => ⟨⟨by omega, by omega⟩, k_at hX hC (by omega) ⟨⟨by omega, by omega⟩, fun z2 => k_named hX hC hp p0 p1 z z2 ⟨fin, bad⟩, fun z2 => k_numb hX hC hp p0 p1 (Classical.not_not.mp z2) ⟨fin, bad⟩⟩⟩
  · rw [hp]
    refine fun _ => ⟨⟨by omega, by omega⟩, fun S2 e2 => ?_⟩
    rw [e2]
    exact hK.1 _ _ (if_neg z) b0 (by omega) (by omega)
end YD

