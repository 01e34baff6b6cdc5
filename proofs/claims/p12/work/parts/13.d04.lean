set_option maxRecDepth 100000 in
set_option maxHeartbeats 4000000 in
theorem tX11_blanksFrom {a1 : Int} {S : St} {K : Int → St → Prop} (p1 : 0 ≤ a1) (p2 : a1 ≤ (S.1 54 41)) (p3 : (S.1 54 41) ≤ 3000) (hK : ∀ (r : Int), (a1 ≤ r) → (r ≤ (S.1 54 41)) → K r S) : wX11_blanksFrom a1 S K := by
  unfold wX11_blanksFrom
  intro g1
  unfold wX11_blanksFrom_2
  refine ⟨fun u2 Sx => S = Sx ∧ (a1 ≤ u2) ∧ (u2 ≤ (S.1 54 41)), fun u2 Sx => ((S.1 54 41) + 1 - u2).toNat, ?_, fun v2_2 S2h hI => ?_⟩
  · exact ⟨rfl, by omega, by omega⟩
  obtain ⟨rfl, i2_0, i2_1⟩ := hI
  unfold wX11_blanksFrom_2'
  refine ⟨by omega, ?_⟩
  refine tX11_docAt (by omega) (fun r4 n4_0 n4_1 n4_2 => ?_)
  refine ⟨by omega, ?_⟩
  refine tX11_isBlank  (fun r7 n7_0 => ?_)
  refine ⟨by omega, ?_⟩
  refine ⟨fun h10 => ?_, fun h10 => ?_⟩
  · exact hK (v2_2) (by omega) (by omega)
  · exact ⟨⟨rfl, by omega, by omega⟩, show ((S.1 54 41) + 1 - ((v2_2 + 1))).toNat < ((S.1 54 41) + 1 - v2_2).toNat by omega⟩

