/-! WHAT IS ASKED: count of the class -/
def ctC (S : St) (a : Int) : Int := if a = 0 then S.1 24 8 else if a = 1 then S.1 42 3 else if a = 2 then S.1 46 3 else if a = 3 then S.1 20 1 else if a = 4 then S.1 1 1 else if a = 5 then fbN (S.2 32) (S.1 24 8).toNat else -1
section ZD
variable {S : St} {K : Int → St → Prop} {a : Int}
theorem k_fbs (h8 : iv 0 6 (S.1 24 8)) (hK : K (fbN (S.2 32) (S.1 24 8).toNat) S) : wX4_forbiddenSize S K := by
  have h0 := h8.1
  have h1 := h8.2
  unfold wX4_forbiddenSize
  refine ⟨fun l1 l2 S' => S' = S ∧ 0 ≤ l2 ∧ l2 ≤ S.1 24 8 ∧ l1 = fbN (S.2 32) l2.toNat, fun _ l2 _ => (S.1 24 8 - l2).toNat, ⟨rfl, by decide, h0, rfl⟩, ?_⟩
  rintro l1 l2 S' ⟨rfl, i0, i1, hl⟩
  refine fun _ => ⟨⟨by omega, by omega⟩, fun w => ?_, fun w => ⟨i0, by omega, fun _ => ?_⟩⟩
  · rw [show (S'.1 24 8).toNat = l2.toNat by omega, ← hl] at hK
    exact hK
  · have es : (l2 + 1).toNat = l2.toNat + 1 := by omega
    have ec : ((l2.toNat : Nat) : Int) = l2 := by omega
    have mes : (S'.1 24 8 - (l2 + 1)).toNat < (S'.1 24 8 - l2).toNat := by omega
    refine ⟨fun z => ⟨⟨rfl, by omega, by omega, ?_⟩, mes⟩, fun z => ⟨⟨rfl, by omega, by omega, ?_⟩, mes⟩⟩
    · rw [es]
      unfold fbN
      rw [ec, if_pos z, hl]
      omega
    · rw [es]
      unfold fbN
      rw [ec, if_neg z, hl]
theorem k_cnt (h8 : iv 0 6 (S.1 24 8)) (hK : K (ctC S a) S) : wX10_count a S K := by
  unfold ctC at hK
  unfold wX10_count
  refine fun _ => ⟨fun z => ?_, fun z _ => ?_, fun z _ => ?_, fun z _ => ?_, fun z _ => ?_, fun z _ => ?_, fun z => ?_⟩
  · rw [if_neg (by omega), if_neg (by omega), if_neg (by omega), if_neg (by omega), if_neg (by omega), if_neg (by omega)] at hK
    exact hK
  · rw [if_pos z] at hK
    exact hK
  · rw [if_neg (by omega), if_pos z] at hK
    exact hK
  · rw [if_neg (by omega), if_neg (by omega), if_pos z] at hK
    exact hK
  · rw [if_neg (by omega), if_neg (by omega), if_neg (by omega), if_pos z] at hK
    exact hK
  · rw [if_neg (by omega), if_neg (by omega), if_neg (by omega), if_neg (by omega), if_pos z] at hK
    exact hK
  · rw [if_neg (by omega), if_neg (by omega), if_neg (by omega), if_neg (by omega), if_neg (by omega), if_pos z] at hK
    exact k_fbs h8 hK
end ZD

