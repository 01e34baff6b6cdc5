set_option maxRecDepth 100000 in
set_option maxHeartbeats 4000000 in
theorem tX11_write {a1 a2 : Int} {S : St} {K : Int → St → Prop} (p1 : OK0 S) (p2 : OL0 S) (p3 : NMS S) (p4 : (S.2 67) 0 ≤ 30) (p5 : iv 1 20 (S.1 54 19)) (hK : ∀ (r : Int) (S' : St), Ch [20, 25, 30, 32, 39] [71, 72, 73, 74, 75, 76, 77, 78, 79, 80, 81, 82, 83] S S' → (rng r) → K r S') : wX11_write a1 a2 S K := by
  unfold wX11_write
  intro g1 g2
  refine tX11_isObject (by omega) (fun r3 n3_0 => ?_)
  refine ⟨by omega, ?_⟩
  refine ⟨fun h6 => ?_, fun h6 => ?_⟩
  · exact hK ((-1)) S (Ch.wk Ch.rf (by decide) (by decide)) (by omega)
  · refine tX11_in  (fun r12 n12_0 => ?_)
    refine ⟨by omega, ?_⟩
    refine ⟨fun h15 => ?_, fun h15 => ?_⟩
    · intro S22 hS22e
      have hS22 : Ch [39] [] S S22 := Ch_I hS22e
      have hS22v : S22.1 54 39 = 0 := pI_at hS22e
      intro S27 hS27e
      have hS27 : Ch [25] [] S22 S27 := Ch_I hS27e
      have hS27v : S27.1 54 25 = 0 := pI_at hS27e
      intro S32 hS32e
      have hS32 : Ch [30] [] S27 S32 := Ch_I hS32e
      have hS32v : S32.1 54 30 = 0 := pI_at hS32e
      intro S37 hS37e
      have hS37 : Ch [32] [] S32 S37 := Ch_I hS37e
      have hS37v : S37.1 54 32 = 0 := pI_at hS37e
      unfold wX11_write_42
      refine ⟨fun u1 u2 u3 Sx => Ch [] [75] S37 Sx ∧ a1 = u1 ∧ a2 = u2 ∧ (iv 0 30 u3) ∧ (∀ x, x < 0 ∨ u3 ≤ x ∨ (Sx.2 75) x = -2), fun u1 u2 u3 Sx => (31 - u3).toNat, ?_, fun v42_1 v42_2 v42_3 S42h hI => ?_⟩
      · exact ⟨Ch.re, rfl, rfl, by omega, (by
            intro x
            omega)⟩
      obtain ⟨hS42h, rfl, rfl, i42_0, i42_1⟩ := hI
      unfold wX11_write_42'
      refine ⟨by omega, ?_⟩
      refine ⟨fun h45 => ?_, fun h45 => ?_⟩
      · refine ⟨by omega, by omega, ?_⟩
        intro q1
        have e2 : S42h.2 68 (a1) = S37.2 68 (a1) := congrFun (hS42h.2 68 (by decide)) _
        have e3 : S37.2 68 (a1) = S32.2 68 (a1) := congrFun (hS37.2 68 (by decide)) _
        have e4 : S32.2 68 (a1) = S27.2 68 (a1) := congrFun (hS32.2 68 (by decide)) _
        have e5 : S27.2 68 (a1) = S22.2 68 (a1) := congrFun (hS27.2 68 (by decide)) _
        have e6 : S22.2 68 (a1) = S.2 68 (a1) := congrFun (hS22.2 68 (by decide)) _
        have hs0 := p3 a1 0
        have hs : 1 ≤ S42h.2 57 (S42h.2 68 (a1)) := by
          rw [(show S42h.2 57 = S.2 57 from ((Ch.tr (Ch.tr (Ch.tr (Ch.tr hS22 hS27) hS32) hS37) hS42h)).2 57 (by decide)), (show S42h.2 68 = S.2 68 from ((Ch.tr (Ch.tr (Ch.tr (Ch.tr hS22 hS27) hS32) hS37) hS42h)).2 68 (by decide))]
          omega
        refine ⟨by omega, ?_⟩
        refine ⟨by omega, ?_⟩
        have e7 : S42h.1 54 25 = S37.1 54 25 := hS42h.1 25 (by decide)
        have e8 : S37.1 54 25 = S32.1 54 25 := hS37.1 25 (by decide)
        have e9 : S32.1 54 25 = S27.1 54 25 := hS32.1 25 (by decide)
        have e10 : S42h.2 57 (S42h.2 68 (a1)) = S37.2 57 (S42h.2 68 (a1)) := congrFun (hS42h.2 57 (by decide)) _
        have e11 : S37.2 57 (S42h.2 68 (a1)) = S32.2 57 (S42h.2 68 (a1)) := congrFun (hS37.2 57 (by decide)) _
        have e12 : S32.2 57 (S42h.2 68 (a1)) = S27.2 57 (S42h.2 68 (a1)) := congrFun (hS32.2 57 (by decide)) _
        have e13 : S27.2 57 (S42h.2 68 (a1)) = S22.2 57 (S42h.2 68 (a1)) := congrFun (hS27.2 57 (by decide)) _
        have e14 : S22.2 57 (S42h.2 68 (a1)) = S.2 57 (S42h.2 68 (a1)) := congrFun (hS22.2 57 (by decide)) _
        have e15 : S42h.1 54 32 = S37.1 54 32 := hS42h.1 32 (by decide)
        have e16 : S42h.1 54 25 = S37.1 54 25 := hS42h.1 25 (by decide)
        have e17 : S37.1 54 25 = S32.1 54 25 := hS37.1 25 (by decide)
        have e18 : S32.1 54 25 = S27.1 54 25 := hS32.1 25 (by decide)
        have e19 : S42h.1 54 30 = S37.1 54 30 := hS42h.1 30 (by decide)
        have e20 : S37.1 54 30 = S32.1 54 30 := hS37.1 30 (by decide)
        have e21 : S42h.1 54 25 = S37.1 54 25 := hS42h.1 25 (by decide)
        have e22 : S37.1 54 25 = S32.1 54 25 := hS37.1 25 (by decide)
        have e23 : S32.1 54 25 = S27.1 54 25 := hS32.1 25 (by decide)
        have e24 : S42h.2 67 0 = S37.2 67 0 := congrFun (hS42h.2 67 (by decide)) _
        have e25 : S37.2 67 0 = S32.2 67 0 := congrFun (hS37.2 67 (by decide)) _
        have e26 : S32.2 67 0 = S27.2 67 0 := congrFun (hS32.2 67 (by decide)) _
        have e27 : S27.2 67 0 = S22.2 67 0 := congrFun (hS27.2 67 (by decide)) _
        have e28 : S22.2 67 0 = S.2 67 0 := congrFun (hS22.2 67 (by decide)) _
        have e29 : S42h.1 54 39 = S37.1 54 39 := hS42h.1 39 (by decide)
        have e30 : S37.1 54 39 = S32.1 54 39 := hS37.1 39 (by decide)
        have e31 : S32.1 54 39 = S27.1 54 39 := hS32.1 39 (by decide)
        have e32 : S27.1 54 39 = S22.1 54 39 := hS27.1 39 (by decide)
        have e33 : S42h.1 54 25 = S37.1 54 25 := hS42h.1 25 (by decide)
        have e34 : S37.1 54 25 = S32.1 54 25 := hS37.1 25 (by decide)
        have e35 : S32.1 54 25 = S27.1 54 25 := hS32.1 25 (by decide)
        have e36 : S42h.1 54 30 = S37.1 54 30 := hS42h.1 30 (by decide)
        have e37 : S37.1 54 30 = S32.1 54 30 := hS37.1 30 (by decide)
        have e38 : S42h.1 54 32 = S37.1 54 32 := hS42h.1 32 (by decide)
        have e39 : S42h.1 54 39 = S37.1 54 39 := hS42h.1 39 (by decide)
        have e40 : S37.1 54 39 = S32.1 54 39 := hS37.1 39 (by decide)
        have e41 : S32.1 54 39 = S27.1 54 39 := hS32.1 39 (by decide)
        have e42 : S27.1 54 39 = S22.1 54 39 := hS27.1 39 (by decide)
        have e43 : S42h.1 54 25 = S37.1 54 25 := hS42h.1 25 (by decide)
        have e44 : S37.1 54 25 = S32.1 54 25 := hS37.1 25 (by decide)
        have e45 : S32.1 54 25 = S27.1 54 25 := hS32.1 25 (by decide)
        have e46 : S42h.1 54 39 = S37.1 54 39 := hS42h.1 39 (by decide)
        have e47 : S37.1 54 39 = S32.1 54 39 := hS37.1 39 (by decide)
        have e48 : S32.1 54 39 = S27.1 54 39 := hS32.1 39 (by decide)
        have e49 : S27.1 54 39 = S22.1 54 39 := hS27.1 39 (by decide)
        have e50 : S42h.1 54 32 = S37.1 54 32 := hS42h.1 32 (by decide)
        have e51 : S42h.1 54 32 = S37.1 54 32 := hS42h.1 32 (by decide)
        have e52 : S42h.1 54 32 = S37.1 54 32 := hS42h.1 32 (by decide)
        have e53 : S42h.1 54 32 = S37.1 54 32 := hS42h.1 32 (by decide)
        have e54 : S42h.1 54 32 = S37.1 54 32 := hS42h.1 32 (by decide)
        have e55 : S42h.1 54 32 = S37.1 54 32 := hS42h.1 32 (by decide)
        have e56 : S42h.2 56 ((S42h.2 68) (a1)) = S37.2 56 ((S42h.2 68) (a1)) := congrFun (hS42h.2 56 (by decide)) _
        have e57 : S37.2 56 ((S42h.2 68) (a1)) = S32.2 56 ((S42h.2 68) (a1)) := congrFun (hS37.2 56 (by decide)) _
        have e58 : S32.2 56 ((S42h.2 68) (a1)) = S27.2 56 ((S42h.2 68) (a1)) := congrFun (hS32.2 56 (by decide)) _
        have e59 : S27.2 56 ((S42h.2 68) (a1)) = S22.2 56 ((S42h.2 68) (a1)) := congrFun (hS27.2 56 (by decide)) _
        have e60 : S22.2 56 ((S42h.2 68) (a1)) = S.2 56 ((S42h.2 68) (a1)) := congrFun (hS22.2 56 (by decide)) _
        have e61 : S42h.2 68 (a1) = S37.2 68 (a1) := congrFun (hS42h.2 68 (by decide)) _
        have e62 : S37.2 68 (a1) = S32.2 68 (a1) := congrFun (hS37.2 68 (by decide)) _
        have e63 : S32.2 68 (a1) = S27.2 68 (a1) := congrFun (hS32.2 68 (by decide)) _
        have e64 : S27.2 68 (a1) = S22.2 68 (a1) := congrFun (hS27.2 68 (by decide)) _
        have e65 : S22.2 68 (a1) = S.2 68 (a1) := congrFun (hS22.2 68 (by decide)) _
        refine tX11_begin (by omega) (by omega) (by omega) (by omega) (by omega) (by omega) (by omega) (by omega) (by omega) (by unfold PW; intro x; omega) (by unfold BW; intro x; have := i42_1 x; omega) (OK0.mv p1  (((Ch.tr (Ch.tr (Ch.tr (Ch.tr hS22 hS27) hS32) hS37) hS42h)).2 59 (by decide)) (((Ch.tr (Ch.tr (Ch.tr (Ch.tr hS22 hS27) hS32) hS37) hS42h)).2 67 (by decide)) (((Ch.tr (Ch.tr (Ch.tr (Ch.tr hS22 hS27) hS32) hS37) hS42h)).2 68 (by decide)) (((Ch.tr (Ch.tr (Ch.tr (Ch.tr hS22 hS27) hS32) hS37) hS42h)).2 69 (by decide))) (by omega) (by omega) (fun r74 S74 hS74 n74_0 n74_1 n74_2 n74_3 n74_4 n74_5 n74_6 n74_7 n74_8 n74_9 n74_10 n74_11 n74_12 n74_13 n74_14 => ?_)
        have e66 : S42h.1 54 39 = S37.1 54 39 := hS42h.1 39 (by decide)
        have e67 : S37.1 54 39 = S32.1 54 39 := hS37.1 39 (by decide)
        have e68 : S32.1 54 39 = S27.1 54 39 := hS32.1 39 (by decide)
        have e69 : S27.1 54 39 = S22.1 54 39 := hS27.1 39 (by decide)
        have e70 : S42h.1 54 32 = S37.1 54 32 := hS42h.1 32 (by decide)
        have e71 : S42h.1 54 25 = S37.1 54 25 := hS42h.1 25 (by decide)
        have e72 : S37.1 54 25 = S32.1 54 25 := hS37.1 25 (by decide)
        have e73 : S32.1 54 25 = S27.1 54 25 := hS32.1 25 (by decide)
        have hop : S42h.1 54 32 = 0 := by omega
        rw [hop] at n74_5
        have wEWI : EWI S74 := EWI_1 (by omega) (by omega)
        have wOWI : OWI S74 := by
          intro x
          by_cases h0 : x < 0
          · exact Or.inl h0
          rcases n74_5 with ⟨k1, k2⟩ | ⟨k1, k2, m1, m2, m3, m4, m5, m6⟩
          · exact Or.inr (Or.inl (by omega))
          · by_cases h1 : x = 0
            · subst h1
              refine Or.inr (Or.inr (owi_new (Ch.wk (Ch.tr (Ch.tr (Ch.tr (Ch.tr (Ch.tr hS22 hS27) hS32) hS37) hS42h) hS74) (by decide) (by decide)) (by omega) (by omega) ?_ (by omega) ?_ (by omega) (by omega) (by omega)))
              · rw [m3]
                have hs2 := hs
                rw [(show S42h.2 57 = S.2 57 from ((Ch.tr (Ch.tr (Ch.tr (Ch.tr hS22 hS27) hS32) hS37) hS42h)).2 57 (by decide))] at hs2
                exact hs2
              · rw [m1]
                have hs2 := n74_13
                rw [(show S42h.2 56 = S.2 56 from ((Ch.tr (Ch.tr (Ch.tr (Ch.tr hS22 hS27) hS32) hS37) hS42h)).2 56 (by decide)), (show S42h.2 68 = S.2 68 from ((Ch.tr (Ch.tr (Ch.tr (Ch.tr hS22 hS27) hS32) hS37) hS42h)).2 68 (by decide))] at hs2
                exact hs2
            · exact Or.inr (Or.inl (by omega))
        unfold wX11_write_79
        have e74 : S74.1 54 19 = S42h.1 54 19 := hS74.1 19 (by decide)
        have e75 : S42h.1 54 19 = S37.1 54 19 := hS42h.1 19 (by decide)
        have e76 : S37.1 54 19 = S32.1 54 19 := hS37.1 19 (by decide)
        have e77 : S32.1 54 19 = S27.1 54 19 := hS32.1 19 (by decide)
        have e78 : S27.1 54 19 = S22.1 54 19 := hS27.1 19 (by decide)
        have e79 : S22.1 54 19 = S.1 54 19 := hS22.1 19 (by decide)
        have e80 : S74.1 54 19 = S42h.1 54 19 := hS74.1 19 (by decide)
        have e81 : S42h.1 54 19 = S37.1 54 19 := hS42h.1 19 (by decide)
        have e82 : S37.1 54 19 = S32.1 54 19 := hS37.1 19 (by decide)
        have e83 : S32.1 54 19 = S27.1 54 19 := hS32.1 19 (by decide)
        have e84 : S27.1 54 19 = S22.1 54 19 := hS27.1 19 (by decide)
        have e85 : S22.1 54 19 = S.1 54 19 := hS22.1 19 (by decide)
        refine ⟨fun u2 u3 Sx => Ch [25, 30, 32, 39] [72, 73, 74, 75, 76, 77, 78, 79, 80, 81, 82, 83] S74 Sx ∧ a2 = u2 ∧ (iv 0 1 u3) ∧ ((Sx.1 54 30) ≤ (Sx.1 54 25)) ∧ ((Sx.1 54 32) ≤ (Sx.1 54 19)) ∧ (PW Sx) ∧ (BW Sx) ∧ (OWI Sx) ∧ (EWI Sx) ∧ ((Sx.1 54 19) = (S.1 54 19)) ∧ ((Sx.1 54 39) ≤ 3001), fun u2 u3 Sx => ((1 - u3) * 100000 + (3001 - (Sx.1 54 39)) * 10 + min 4 (max 0 (4 - (Sx.2 80) ((Sx.1 54 32) - 1)))).toNat, ?_, fun v79_2 v79_3 S79h hI => ?_⟩
        · exact ⟨Ch.re, rfl, by omega, by omega, by omega, n74_2, n74_3, wOWI, wEWI, by omega, by omega⟩
        obtain ⟨hS79h, rfl, i79_0, i79_1, i79_2, i79_3, i79_4, i79_5, i79_6, i79_7, i79_8⟩ := hI
        unfold wX11_write_79'
        intro q86
        refine ⟨fun h83 => ?_, fun h83 => ?_⟩
        · unfold wX11_write_117
          intro q87
          refine ⟨fun h124 => ?_, fun h124 => ?_⟩
          · refine ⟨by omega, ?_⟩
            refine ⟨fun h131 => ?_, fun h131 => ?_⟩
            · refine ⟨by omega, ?_⟩
              intro S142 hS142e
              have hS142 : Ch [20] [] S79h S142 := Ch_I hS142e
              have hS142v : S142.1 54 20 = S79h.1 54 39 := pI_at hS142e
              unfold wX11_write_148
              refine ⟨fun u4 Sx => Ch [] [71] S142 Sx ∧ (iv 0 3000 u4), fun u4 Sx => (3001 - u4).toNat, ?_, fun v148_4 S148h hI => ?_⟩
              · exact ⟨Ch.re, by omega⟩
              obtain ⟨hS148h, i148_0⟩ := hI
              unfold wX11_write_148'
              intro q88
              have e89 : S148h.1 54 20 = S142.1 54 20 := hS148h.1 20 (by decide)
              refine ⟨by omega, ?_⟩
              refine ⟨fun h154 => ?_, fun h154 => ?_⟩
              · exact hK (S148h.1 54 20) S148h (Ch.wk (Ch.tr (Ch.tr (Ch.tr (Ch.tr (Ch.tr (Ch.tr (Ch.tr (Ch.tr hS22 hS27) hS32) hS37) hS42h) hS74) hS79h) hS142) hS148h) (by decide) (by decide)) (by omega)
              · refine ⟨by omega, by omega, ?_⟩
                intro q90
                have e91 : S148h.2 83 (v148_4) = S142.2 83 (v148_4) := congrFun (hS148h.2 83 (by decide)) _
                have e92 : S142.2 83 (v148_4) = S79h.2 83 (v148_4) := congrFun (hS142.2 83 (by decide)) _
                refine ⟨by omega, by omega, ?_⟩
                intro S170 hS170e
                have hS170 : Ch [] [71] S148h S170 := Ch_A hS170e
                have hS170v : ∀ x, (x = v148_4 ∧ S170.2 71 x = S148h.2 83 (v148_4)) ∨ (¬ x = v148_4 ∧ S170.2 71 x = S148h.2 71 x) := pA_at hS170e
                exact ⟨⟨(Ch.wk (Ch.tr hS148h hS170) (by decide) (by decide)), by omega⟩, show (3001 - ((v148_4 + 1))).toNat < (3001 - v148_4).toNat by omega⟩
            · exact hK ((-3)) S79h (Ch.wk (Ch.tr (Ch.tr (Ch.tr (Ch.tr (Ch.tr (Ch.tr hS22 hS27) hS32) hS37) hS42h) hS74) hS79h) (by decide) (by decide)) (by omega)
          · exact hK ((-4)) S79h (Ch.wk (Ch.tr (Ch.tr (Ch.tr (Ch.tr (Ch.tr (Ch.tr hS22 hS27) hS32) hS37) hS42h) hS74) hS79h) (by decide) (by decide)) (by omega)
        · refine ⟨by omega, ?_⟩
          refine ⟨fun h87 => ?_, fun h87 => ?_⟩
          · unfold wX11_write_117
            intro q93
            refine ⟨fun h124 => ?_, fun h124 => ?_⟩
            · refine ⟨by omega, ?_⟩
              refine ⟨fun h131 => ?_, fun h131 => ?_⟩
              · refine ⟨by omega, ?_⟩
                intro S142 hS142e
                have hS142 : Ch [20] [] S79h S142 := Ch_I hS142e
                have hS142v : S142.1 54 20 = S79h.1 54 39 := pI_at hS142e
                unfold wX11_write_148
                refine ⟨fun u4 Sx => Ch [] [71] S142 Sx ∧ (iv 0 3000 u4), fun u4 Sx => (3001 - u4).toNat, ?_, fun v148_4 S148h hI => ?_⟩
                · exact ⟨Ch.re, by omega⟩
                obtain ⟨hS148h, i148_0⟩ := hI
                unfold wX11_write_148'
                intro q94
                have e95 : S148h.1 54 20 = S142.1 54 20 := hS148h.1 20 (by decide)
                refine ⟨by omega, ?_⟩
                refine ⟨fun h154 => ?_, fun h154 => ?_⟩
                · exact hK (S148h.1 54 20) S148h (Ch.wk (Ch.tr (Ch.tr (Ch.tr (Ch.tr (Ch.tr (Ch.tr (Ch.tr (Ch.tr hS22 hS27) hS32) hS37) hS42h) hS74) hS79h) hS142) hS148h) (by decide) (by decide)) (by omega)
                · refine ⟨by omega, by omega, ?_⟩
                  intro q96
                  have e97 : S148h.2 83 (v148_4) = S142.2 83 (v148_4) := congrFun (hS148h.2 83 (by decide)) _
                  have e98 : S142.2 83 (v148_4) = S79h.2 83 (v148_4) := congrFun (hS142.2 83 (by decide)) _
                  refine ⟨by omega, by omega, ?_⟩
                  intro S170 hS170e
                  have hS170 : Ch [] [71] S148h S170 := Ch_A hS170e
                  have hS170v : ∀ x, (x = v148_4 ∧ S170.2 71 x = S148h.2 83 (v148_4)) ∨ (¬ x = v148_4 ∧ S170.2 71 x = S148h.2 71 x) := pA_at hS170e
                  exact ⟨⟨(Ch.wk (Ch.tr hS148h hS170) (by decide) (by decide)), by omega⟩, show (3001 - ((v148_4 + 1))).toNat < (3001 - v148_4).toNat by omega⟩
              · exact hK ((-3)) S79h (Ch.wk (Ch.tr (Ch.tr (Ch.tr (Ch.tr (Ch.tr (Ch.tr hS22 hS27) hS32) hS37) hS42h) hS74) hS79h) (by decide) (by decide)) (by omega)
            · exact hK ((-4)) S79h (Ch.wk (Ch.tr (Ch.tr (Ch.tr (Ch.tr (Ch.tr (Ch.tr hS22 hS27) hS32) hS37) hS42h) hS74) hS79h) (by decide) (by decide)) (by omega)
          · intro q99
            refine ⟨fun h97 => ?_, fun h97 => ?_⟩
            · unfold wX11_write_117
              intro q100
              refine ⟨fun h124 => ?_, fun h124 => ?_⟩
              · refine ⟨by omega, ?_⟩
                refine ⟨fun h131 => ?_, fun h131 => ?_⟩
                · refine ⟨by omega, ?_⟩
                  intro S142 hS142e
                  have hS142 : Ch [20] [] S79h S142 := Ch_I hS142e
                  have hS142v : S142.1 54 20 = S79h.1 54 39 := pI_at hS142e
                  unfold wX11_write_148
                  refine ⟨fun u4 Sx => Ch [] [71] S142 Sx ∧ (iv 0 3000 u4), fun u4 Sx => (3001 - u4).toNat, ?_, fun v148_4 S148h hI => ?_⟩
                  · exact ⟨Ch.re, by omega⟩
                  obtain ⟨hS148h, i148_0⟩ := hI
                  unfold wX11_write_148'
                  intro q101
                  have e102 : S148h.1 54 20 = S142.1 54 20 := hS148h.1 20 (by decide)
                  refine ⟨by omega, ?_⟩
                  refine ⟨fun h154 => ?_, fun h154 => ?_⟩
                  · exact hK (S148h.1 54 20) S148h (Ch.wk (Ch.tr (Ch.tr (Ch.tr (Ch.tr (Ch.tr (Ch.tr (Ch.tr (Ch.tr hS22 hS27) hS32) hS37) hS42h) hS74) hS79h) hS142) hS148h) (by decide) (by decide)) (by omega)
                  · refine ⟨by omega, by omega, ?_⟩
                    intro q103
                    have e104 : S148h.2 83 (v148_4) = S142.2 83 (v148_4) := congrFun (hS148h.2 83 (by decide)) _
                    have e105 : S142.2 83 (v148_4) = S79h.2 83 (v148_4) := congrFun (hS142.2 83 (by decide)) _
                    refine ⟨by omega, by omega, ?_⟩
                    intro S170 hS170e
                    have hS170 : Ch [] [71] S148h S170 := Ch_A hS170e
                    have hS170v : ∀ x, (x = v148_4 ∧ S170.2 71 x = S148h.2 83 (v148_4)) ∨ (¬ x = v148_4 ∧ S170.2 71 x = S148h.2 71 x) := pA_at hS170e
                    exact ⟨⟨(Ch.wk (Ch.tr hS148h hS170) (by decide) (by decide)), by omega⟩, show (3001 - ((v148_4 + 1))).toNat < (3001 - v148_4).toNat by omega⟩
                · exact hK ((-3)) S79h (Ch.wk (Ch.tr (Ch.tr (Ch.tr (Ch.tr (Ch.tr (Ch.tr hS22 hS27) hS32) hS37) hS42h) hS74) hS79h) (by decide) (by decide)) (by omega)
              · exact hK ((-4)) S79h (Ch.wk (Ch.tr (Ch.tr (Ch.tr (Ch.tr (Ch.tr (Ch.tr hS22 hS27) hS32) hS37) hS42h) hS74) hS79h) (by decide) (by decide)) (by omega)
            · refine ⟨by omega, ?_⟩
              have e106 : S79h.1 54 19 = S74.1 54 19 := hS79h.1 19 (by decide)
              have e107 : S74.1 54 19 = S42h.1 54 19 := hS74.1 19 (by decide)
              have e108 : S42h.1 54 19 = S37.1 54 19 := hS42h.1 19 (by decide)
              have e109 : S37.1 54 19 = S32.1 54 19 := hS37.1 19 (by decide)
              have e110 : S32.1 54 19 = S27.1 54 19 := hS32.1 19 (by decide)
              have e111 : S27.1 54 19 = S22.1 54 19 := hS27.1 19 (by decide)
              have e112 : S22.1 54 19 = S.1 54 19 := hS22.1 19 (by decide)
              have e113 : S79h.2 67 0 = S74.2 67 0 := congrFun (hS79h.2 67 (by decide)) _
              have e114 : S74.2 67 0 = S42h.2 67 0 := congrFun (hS74.2 67 (by decide)) _
              have e115 : S42h.2 67 0 = S37.2 67 0 := congrFun (hS42h.2 67 (by decide)) _
              have e116 : S37.2 67 0 = S32.2 67 0 := congrFun (hS37.2 67 (by decide)) _
              have e117 : S32.2 67 0 = S27.2 67 0 := congrFun (hS32.2 67 (by decide)) _
              have e118 : S27.2 67 0 = S22.2 67 0 := congrFun (hS27.2 67 (by decide)) _
              have e119 : S22.2 67 0 = S.2 67 0 := congrFun (hS22.2 67 (by decide)) _
              have e120 : S79h.1 54 19 = S74.1 54 19 := hS79h.1 19 (by decide)
              have e121 : S74.1 54 19 = S42h.1 54 19 := hS74.1 19 (by decide)
              have e122 : S42h.1 54 19 = S37.1 54 19 := hS42h.1 19 (by decide)
              have e123 : S37.1 54 19 = S32.1 54 19 := hS37.1 19 (by decide)
              have e124 : S32.1 54 19 = S27.1 54 19 := hS32.1 19 (by decide)
              have e125 : S27.1 54 19 = S22.1 54 19 := hS27.1 19 (by decide)
              have e126 : S22.1 54 19 = S.1 54 19 := hS22.1 19 (by decide)
              have e127 : S79h.1 54 19 = S74.1 54 19 := hS79h.1 19 (by decide)
              have e128 : S74.1 54 19 = S42h.1 54 19 := hS74.1 19 (by decide)
              have e129 : S42h.1 54 19 = S37.1 54 19 := hS42h.1 19 (by decide)
              have e130 : S37.1 54 19 = S32.1 54 19 := hS37.1 19 (by decide)
              have e131 : S32.1 54 19 = S27.1 54 19 := hS32.1 19 (by decide)
              have e132 : S27.1 54 19 = S22.1 54 19 := hS27.1 19 (by decide)
              have e133 : S22.1 54 19 = S.1 54 19 := hS22.1 19 (by decide)
              refine tX11_goesOn (by omega) (by omega) (by omega) (by omega) (i79_3) (i79_4) (OK0.mv p1  (((Ch.tr (Ch.tr (Ch.tr (Ch.tr (Ch.tr (Ch.tr hS22 hS27) hS32) hS37) hS42h) hS74) hS79h)).2 59 (by decide)) (((Ch.tr (Ch.tr (Ch.tr (Ch.tr (Ch.tr (Ch.tr hS22 hS27) hS32) hS37) hS42h) hS74) hS79h)).2 67 (by decide)) (((Ch.tr (Ch.tr (Ch.tr (Ch.tr (Ch.tr (Ch.tr hS22 hS27) hS32) hS37) hS42h) hS74) hS79h)).2 68 (by decide)) (((Ch.tr (Ch.tr (Ch.tr (Ch.tr (Ch.tr (Ch.tr hS22 hS27) hS32) hS37) hS42h) hS74) hS79h)).2 69 (by decide))) (OL0.mv p2  (((Ch.tr (Ch.tr (Ch.tr (Ch.tr (Ch.tr (Ch.tr hS22 hS27) hS32) hS37) hS42h) hS74) hS79h)).2 59 (by decide)) (((Ch.tr (Ch.tr (Ch.tr (Ch.tr (Ch.tr (Ch.tr hS22 hS27) hS32) hS37) hS42h) hS74) hS79h)).2 67 (by decide)) (((Ch.tr (Ch.tr (Ch.tr (Ch.tr (Ch.tr (Ch.tr hS22 hS27) hS32) hS37) hS42h) hS74) hS79h)).2 68 (by decide)) (((Ch.tr (Ch.tr (Ch.tr (Ch.tr (Ch.tr (Ch.tr hS22 hS27) hS32) hS37) hS42h) hS74) hS79h)).2 69 (by decide)) (((Ch.tr (Ch.tr (Ch.tr (Ch.tr (Ch.tr (Ch.tr hS22 hS27) hS32) hS37) hS42h) hS74) hS79h)).2 70 (by decide))) (NMS.mv p3  (((Ch.tr (Ch.tr (Ch.tr (Ch.tr (Ch.tr (Ch.tr hS22 hS27) hS32) hS37) hS42h) hS74) hS79h)).2 56 (by decide)) (((Ch.tr (Ch.tr (Ch.tr (Ch.tr (Ch.tr (Ch.tr hS22 hS27) hS32) hS37) hS42h) hS74) hS79h)).2 57 (by decide)) (((Ch.tr (Ch.tr (Ch.tr (Ch.tr (Ch.tr (Ch.tr hS22 hS27) hS32) hS37) hS42h) hS74) hS79h)).2 67 (by decide)) (((Ch.tr (Ch.tr (Ch.tr (Ch.tr (Ch.tr (Ch.tr hS22 hS27) hS32) hS37) hS42h) hS74) hS79h)).2 68 (by decide))) (i79_5) (i79_6) (by omega) (by omega) (by omega) (fun r102 S102 hS102 n102_0 n102_1 n102_2 n102_3 n102_4 n102_5 n102_6 n102_7 n102_8 n102_9 => ?_)
              have hmu : S102.1 54 39 = 3001 ∨ S79h.1 54 39 < S102.1 54 39 ∨ r102 = 0 ∨ (S102.1 54 39 = S79h.1 54 39 ∧ S102.2 80 (S102.1 54 32 - 1) = S79h.2 80 (S79h.1 54 32 - 1) + 1 ∧ 0 ≤ S79h.2 80 (S79h.1 54 32 - 1) ∧ S79h.2 80 (S79h.1 54 32 - 1) ≤ 3) := by
                rcases n102_7 with h | h | h | ⟨h1, h2, h3⟩
                · exact Or.inl h
                · exact Or.inr (Or.inl h)
                · exact Or.inr (Or.inr (Or.inl h))
                · refine Or.inr (Or.inr (Or.inr ⟨h1, ?_⟩))
                  rw [h2]
                  exact h3
              refine ⟨by omega, ?_⟩
              refine ⟨fun h105 => ?_, fun h105 => ?_⟩
              · unfold wX11_write_113
                have e134 : S102.1 54 19 = S79h.1 54 19 := hS102.1 19 (by decide)
                have e135 : S79h.1 54 19 = S74.1 54 19 := hS79h.1 19 (by decide)
                have e136 : S74.1 54 19 = S42h.1 54 19 := hS74.1 19 (by decide)
                have e137 : S42h.1 54 19 = S37.1 54 19 := hS42h.1 19 (by decide)
                have e138 : S37.1 54 19 = S32.1 54 19 := hS37.1 19 (by decide)
                have e139 : S32.1 54 19 = S27.1 54 19 := hS32.1 19 (by decide)
                have e140 : S27.1 54 19 = S22.1 54 19 := hS27.1 19 (by decide)
                have e141 : S22.1 54 19 = S.1 54 19 := hS22.1 19 (by decide)
                have e142 : S102.1 54 19 = S79h.1 54 19 := hS102.1 19 (by decide)
                have e143 : S79h.1 54 19 = S74.1 54 19 := hS79h.1 19 (by decide)
                have e144 : S74.1 54 19 = S42h.1 54 19 := hS74.1 19 (by decide)
                have e145 : S42h.1 54 19 = S37.1 54 19 := hS42h.1 19 (by decide)
                have e146 : S37.1 54 19 = S32.1 54 19 := hS37.1 19 (by decide)
                have e147 : S32.1 54 19 = S27.1 54 19 := hS32.1 19 (by decide)
                have e148 : S27.1 54 19 = S22.1 54 19 := hS27.1 19 (by decide)
                have e149 : S22.1 54 19 = S.1 54 19 := hS22.1 19 (by decide)
                exact ⟨⟨(Ch.wk (Ch.tr hS79h hS102) (by decide) (by decide)), rfl, by omega, by omega, by omega, n102_3, n102_4, n102_5, n102_6, by omega, by omega⟩, show ((1 - (((0)))) * 100000 + (3001 - (S102.1 54 39)) * 10 + min 4 (max 0 (4 - (S102.2 80) ((S102.1 54 32) - 1)))).toNat < ((1 - v79_3) * 100000 + (3001 - (S79h.1 54 39)) * 10 + min 4 (max 0 (4 - (S79h.2 80) ((S79h.1 54 32) - 1)))).toNat by omega⟩
              · unfold wX11_write_113
                have e150 : S102.1 54 19 = S79h.1 54 19 := hS102.1 19 (by decide)
                have e151 : S79h.1 54 19 = S74.1 54 19 := hS79h.1 19 (by decide)
                have e152 : S74.1 54 19 = S42h.1 54 19 := hS74.1 19 (by decide)
                have e153 : S42h.1 54 19 = S37.1 54 19 := hS42h.1 19 (by decide)
                have e154 : S37.1 54 19 = S32.1 54 19 := hS37.1 19 (by decide)
                have e155 : S32.1 54 19 = S27.1 54 19 := hS32.1 19 (by decide)
                have e156 : S27.1 54 19 = S22.1 54 19 := hS27.1 19 (by decide)
                have e157 : S22.1 54 19 = S.1 54 19 := hS22.1 19 (by decide)
                have e158 : S102.1 54 19 = S79h.1 54 19 := hS102.1 19 (by decide)
                have e159 : S79h.1 54 19 = S74.1 54 19 := hS79h.1 19 (by decide)
                have e160 : S74.1 54 19 = S42h.1 54 19 := hS74.1 19 (by decide)
                have e161 : S42h.1 54 19 = S37.1 54 19 := hS42h.1 19 (by decide)
                have e162 : S37.1 54 19 = S32.1 54 19 := hS37.1 19 (by decide)
                have e163 : S32.1 54 19 = S27.1 54 19 := hS32.1 19 (by decide)
                have e164 : S27.1 54 19 = S22.1 54 19 := hS27.1 19 (by decide)
                have e165 : S22.1 54 19 = S.1 54 19 := hS22.1 19 (by decide)
                exact ⟨⟨(Ch.wk (Ch.tr hS79h hS102) (by decide) (by decide)), rfl, by omega, by omega, by omega, n102_3, n102_4, n102_5, n102_6, by omega, by omega⟩, show ((1 - (((1)))) * 100000 + (3001 - (S102.1 54 39)) * 10 + min 4 (max 0 (4 - (S102.2 80) ((S102.1 54 32) - 1)))).toNat < ((1 - v79_3) * 100000 + (3001 - (S79h.1 54 39)) * 10 + min 4 (max 0 (4 - (S79h.2 80) ((S79h.1 54 32) - 1)))).toNat by omega⟩
      · refine ⟨by omega, by omega, ?_⟩
        intro S55 hS55e
        have hS55 : Ch [] [75] S42h S55 := Ch_A hS55e
        have hS55v : ∀ x, (x = v42_3 ∧ S55.2 75 x = (-2)) ∨ (¬ x = v42_3 ∧ S55.2 75 x = S42h.2 75 x) := pA_at hS55e
        exact ⟨⟨(Ch.wk (Ch.tr hS42h hS55) (by decide) (by decide)), rfl, rfl, by omega, (by
              intro x
              have e166 := hS55v x
              have e167 := i42_1 x
              omega)⟩, show (31 - ((v42_3 + 1))).toNat < (31 - v42_3).toNat by omega⟩
    · exact hK ((-1)) S (Ch.wk Ch.rf (by decide) (by decide)) (by omega)
