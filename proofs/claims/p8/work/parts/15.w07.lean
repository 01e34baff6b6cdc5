set_option maxRecDepth 100000 in
set_option maxHeartbeats 4000000 in
theorem tX11_write {a1 a2 : Int} {S : St} {K : Int → St → Prop} (p1 : OK0 S) (p2 : OL0 S) (p3 : NMS S) (p4 : (S.2 67) 0 ≤ 30) (p5 : iv 1 20 (S.1 54 19)) (hK : ∀ (r : Int) (S' : St), Ch [20, 25, 30, 32, 39] [71, 72, 73, 74, 75, 76, 77, 78, 79, 80, 81, 82, 83] S S' → (rng r) → K r S') : wX11_write a1 a2 S K := by
  sorry
