set_option maxRecDepth 100000 in
set_option maxHeartbeats 4000000 in
theorem tX11_hasMeaning {a1 : Int} {S : St} {K : Int → St → Prop} (p1 : iv 0 199 a1) (p2 : a1 < (S.1 54 43)) (p3 : (S.1 54 43) ≤ 200) (p4 : PR S) (p5 : PA S) (p6 : OKg S 2 60) (p7 : OLg S 2 60) (p8 : (S.1 54 51) ≤ 600) (p9 : iv 0 30 ((S.2 67) 2)) (p10 : (S.1 54 56) ≤ 3000) (p11 : PO S) (p12 : EA S a1) (hK : ∀ (r : Int) (S' : St), Ch [67] [67, 68, 69, 70, 98, 99, 100, 101, 102, 103, 104] S S' → (iv 0 1 r) → (r = 0 ∨ (OKg S' 2 60 ∧ OLg S' 2 60 ∧ EA S' (a1 + 1))) → (FR S S') → (∀ x, x = a1 ∨ (S'.2 98) x = (S.2 98) x) → (r = 0 ∨ ¬ (S.2 88) a1 = -2 ∨ (S'.2 98) a1 = 4 ∨ (S'.2 98) a1 = 5) → (iv 0 30 ((S'.2 67) 2)) → K r S') : wX11_hasMeaning a1 S K := by
  sorry
