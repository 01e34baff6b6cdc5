set_option maxRecDepth 100000 in
set_option maxHeartbeats 4000000 in
theorem tX11_begin_143 {a1 a2 a3 a4 a5 l1 l3 l6 l7 l8 : Int} {S S1c : St} {K : Int → St → Prop} (g1 : rng a1) (g2 : rng a2) (g3 : rng a3) (g4 : rng a4) (g5 : rng a5) (p1 : iv 0 29 a1) (p2 : iv (-2) 899 a2) (p3 : a2 < (S.1 54 25)) (p4 : iv 0 29 a3) (p5 : 1 ≤ (S.2 57) a3) (p6 : iv 0 1 a4) (p7 : (S.1 54 32) ≤ 19) (p8 : (S.1 54 25) ≤ 899) (p9 : (S.1 54 30) ≤ (S.1 54 25)) (p10 : PW S) (p11 : BW S) (p12 : OK0 S) (p13 : a1 < (S.2 67) 0) (p14 : (S.1 54 39) ≤ 3001) (hS1c : Ch [25, 30, 39] [72, 73, 74, 75, 76, 83] S S1c) (c1 : a1 = l1) (c2 : a3 = l3) (c3 : (S.2 68) a1 = l6) (c4 : (S.1 54 25) = l7) (c5 : l8 = 0) (c6 : (S1c.1 54 25) = (S.1 54 25) + 1) (c7 : (S1c.1 54 30) = (S.1 54 30) + 1) (c8 : PW S1c) (c9 : BW S1c) (c10 : 0 ≤ (S1c.2 75) a1) (c11 : (S1c.1 54 39) = 3001 ∨ (S.1 54 39) + 2 ≤ (S1c.1 54 39)) (c12 : iv 0 5 l6) (c13 : iv 0 899 l7) (c14 : (S1c.1 54 39) ≤ 3001) (hK : ∀ (r : Int) (S' : St), Ch [25, 30, 32, 39] [72, 73, 74, 75, 76, 77, 78, 79, 80, 81, 82, 83] S S' → ((S'.1 54 25) = (S.1 54 25) + 1) → ((S'.1 54 30) = (S.1 54 30) + 1) → (PW S') → (BW S') → (0 ≤ (S'.2 75) a1) → (((S'.1 54 32) = (S.1 54 32) ∧ ((S'.1 54 39) = 3001 ∨ (S.1 54 39) + 4 ≤ (S'.1 54 39))) ∨ ((S'.1 54 32) = (S.1 54 32) + 1 ∧ ((S'.1 54 39) = 3001 ∨ (S.1 54 39) + 3 ≤ (S'.1 54 39)) ∧ (S'.2 77) ((S.1 54 32)) = a1 ∧ (S'.2 78) ((S.1 54 32)) = (S.1 54 25) ∧ (S'.2 79) ((S.1 54 32)) = a3 ∧ (S'.2 80) ((S.1 54 32)) = 0 ∧ (S'.2 81) ((S.1 54 32)) = 0 ∧ (S'.2 82) ((S.1 54 32)) = -2)) → ((S.1 54 39) ≤ (S'.1 54 39)) → (∀ x, x = (S.1 54 32) ∨ (S'.2 77) x = (S.2 77) x) → (∀ x, x = (S.1 54 32) ∨ (S'.2 78) x = (S.2 78) x) → (∀ x, x = (S.1 54 32) ∨ (S'.2 79) x = (S.2 79) x) → (∀ x, x = (S.1 54 32) ∨ (S'.2 80) x = (S.2 80) x) → (∀ x, x = (S.1 54 32) ∨ (S'.2 81) x = (S.2 81) x) → (∀ x, x = (S.1 54 32) ∨ (S'.2 82) x = (S.2 82) x) → (0 ≤ (S.2 56) ((S.2 68) a1)) → ((S'.1 54 39) ≤ 3001) → K r S') : wX11_begin_143 l1 l3 l6 l7 l8 S1c K := by
  subst c1
  subst c2
  subst c3
  subst c4
  unfold wX11_begin_143
  refine ⟨fun u1 u3 u6 u7 u8 Sx => Ch [39] [83] S1c Sx ∧ (a1) = u1 ∧ (a3) = u3 ∧ ((S.2 68) a1) = u6 ∧ ((S.1 54 25)) = u7 ∧ (iv 0 4 u8) ∧ ((S.1 54 39) + 2 ≤ (Sx.1 54 39) ∨ (Sx.1 54 39) = 3001) ∧ ((S1c.1 54 39) ≤ (Sx.1 54 39)) ∧ ((Sx.1 54 39) ≤ 3001), fun u1 u3 u6 u7 u8 Sx => (5 - u8).toNat, ?_, fun v143_1 v143_3 v143_6 v143_7 v143_8 S143h hI => ?_⟩
  · exact ⟨Ch.re, rfl, rfl, rfl, rfl, by omega, by omega, by omega, by omega⟩
  obtain ⟨hS143h, rfl, rfl, rfl, rfl, i143_0, i143_1, i143_2, i143_3⟩ := hI
  unfold wX11_begin_143'
  refine ⟨by omega, by omega, ?_⟩
  intro q1
  have e2 : S143h.2 56 (((S.2 68) a1)) = S1c.2 56 (((S.2 68) a1)) := congrFun (hS143h.2 56 (by decide)) _
  have e3 : S1c.2 56 (((S.2 68) a1)) = S.2 56 (((S.2 68) a1)) := congrFun (hS1c.2 56 (by decide)) _
  refine ⟨by omega, ?_⟩
  refine ⟨fun h152 => ?_, fun h152 => ?_⟩
  · refine ⟨by omega, ?_⟩
    refine ⟨by omega, ?_⟩
    refine tX11_hasContent (by omega) (by omega) (fun r242 n242_0 => ?_)
    refine ⟨by omega, ?_⟩
    refine ⟨fun h245 => ?_, fun h245 => ?_⟩
    · refine tX11_put  (fun r262 S262 hS262 n262_0 n262_1 => ?_)
      intro q4
      have e5 : S262.1 54 32 = S143h.1 54 32 := hS262.1 32 (by decide)
      have e6 : S143h.1 54 32 = S1c.1 54 32 := hS143h.1 32 (by decide)
      have e7 : S1c.1 54 32 = S.1 54 32 := hS1c.1 32 (by decide)
      refine ⟨by omega, by omega, ?_⟩
      refine ⟨by omega, ?_⟩
      intro S274 hS274e
      have hS274 : Ch [] [77] S262 S274 := Ch_A hS274e
      have hS274v : ∀ x, (x = S262.1 54 32 ∧ S274.2 77 x = (a1)) ∨ (¬ x = S262.1 54 32 ∧ S274.2 77 x = S262.2 77 x) := pA_at hS274e
      intro q8
      have e9 : S274.1 54 32 = S262.1 54 32 := hS274.1 32 (by decide)
      have e10 : S262.1 54 32 = S143h.1 54 32 := hS262.1 32 (by decide)
      have e11 : S143h.1 54 32 = S1c.1 54 32 := hS143h.1 32 (by decide)
      have e12 : S1c.1 54 32 = S.1 54 32 := hS1c.1 32 (by decide)
      refine ⟨by omega, by omega, ?_⟩
      refine ⟨by omega, ?_⟩
      intro S285 hS285e
      have hS285 : Ch [] [78] S274 S285 := Ch_A hS285e
      have hS285v : ∀ x, (x = S274.1 54 32 ∧ S285.2 78 x = ((S.1 54 25))) ∨ (¬ x = S274.1 54 32 ∧ S285.2 78 x = S274.2 78 x) := pA_at hS285e
      intro q13
      have e14 : S285.1 54 32 = S274.1 54 32 := hS285.1 32 (by decide)
      have e15 : S274.1 54 32 = S262.1 54 32 := hS274.1 32 (by decide)
      have e16 : S262.1 54 32 = S143h.1 54 32 := hS262.1 32 (by decide)
      have e17 : S143h.1 54 32 = S1c.1 54 32 := hS143h.1 32 (by decide)
      have e18 : S1c.1 54 32 = S.1 54 32 := hS1c.1 32 (by decide)
      refine ⟨by omega, by omega, ?_⟩
      refine ⟨by omega, ?_⟩
      intro S295 hS295e
      have hS295 : Ch [] [79] S285 S295 := Ch_A hS295e
      have hS295v : ∀ x, (x = S285.1 54 32 ∧ S295.2 79 x = (a3)) ∨ (¬ x = S285.1 54 32 ∧ S295.2 79 x = S285.2 79 x) := pA_at hS295e
      intro q19
      have e20 : S295.1 54 32 = S285.1 54 32 := hS295.1 32 (by decide)
      have e21 : S285.1 54 32 = S274.1 54 32 := hS285.1 32 (by decide)
      have e22 : S274.1 54 32 = S262.1 54 32 := hS274.1 32 (by decide)
      have e23 : S262.1 54 32 = S143h.1 54 32 := hS262.1 32 (by decide)
      have e24 : S143h.1 54 32 = S1c.1 54 32 := hS143h.1 32 (by decide)
      have e25 : S1c.1 54 32 = S.1 54 32 := hS1c.1 32 (by decide)
      refine ⟨by omega, by omega, ?_⟩
      intro S305 hS305e
      have hS305 : Ch [] [80] S295 S305 := Ch_A hS305e
      have hS305v : ∀ x, (x = S295.1 54 32 ∧ S305.2 80 x = 0) ∨ (¬ x = S295.1 54 32 ∧ S305.2 80 x = S295.2 80 x) := pA_at hS305e
      intro q26
      have e27 : S305.1 54 32 = S295.1 54 32 := hS305.1 32 (by decide)
      have e28 : S295.1 54 32 = S285.1 54 32 := hS295.1 32 (by decide)
      have e29 : S285.1 54 32 = S274.1 54 32 := hS285.1 32 (by decide)
      have e30 : S274.1 54 32 = S262.1 54 32 := hS274.1 32 (by decide)
      have e31 : S262.1 54 32 = S143h.1 54 32 := hS262.1 32 (by decide)
      have e32 : S143h.1 54 32 = S1c.1 54 32 := hS143h.1 32 (by decide)
      have e33 : S1c.1 54 32 = S.1 54 32 := hS1c.1 32 (by decide)
      refine ⟨by omega, by omega, ?_⟩
      intro S315 hS315e
      have hS315 : Ch [] [81] S305 S315 := Ch_A hS315e
      have hS315v : ∀ x, (x = S305.1 54 32 ∧ S315.2 81 x = 0) ∨ (¬ x = S305.1 54 32 ∧ S315.2 81 x = S305.2 81 x) := pA_at hS315e
      intro q34
      have e35 : S315.1 54 32 = S305.1 54 32 := hS315.1 32 (by decide)
      have e36 : S305.1 54 32 = S295.1 54 32 := hS305.1 32 (by decide)
      have e37 : S295.1 54 32 = S285.1 54 32 := hS295.1 32 (by decide)
      have e38 : S285.1 54 32 = S274.1 54 32 := hS285.1 32 (by decide)
      have e39 : S274.1 54 32 = S262.1 54 32 := hS274.1 32 (by decide)
      have e40 : S262.1 54 32 = S143h.1 54 32 := hS262.1 32 (by decide)
      have e41 : S143h.1 54 32 = S1c.1 54 32 := hS143h.1 32 (by decide)
      have e42 : S1c.1 54 32 = S.1 54 32 := hS1c.1 32 (by decide)
      refine ⟨by omega, by omega, ?_⟩
      intro S326 hS326e
      have hS326 : Ch [] [82] S315 S326 := Ch_A hS326e
      have hS326v : ∀ x, (x = S315.1 54 32 ∧ S326.2 82 x = (-2)) ∨ (¬ x = S315.1 54 32 ∧ S326.2 82 x = S315.2 82 x) := pA_at hS326e
      intro q43
      have e44 : S326.1 54 32 = S315.1 54 32 := hS326.1 32 (by decide)
      have e45 : S315.1 54 32 = S305.1 54 32 := hS315.1 32 (by decide)
      have e46 : S305.1 54 32 = S295.1 54 32 := hS305.1 32 (by decide)
      have e47 : S295.1 54 32 = S285.1 54 32 := hS295.1 32 (by decide)
      have e48 : S285.1 54 32 = S274.1 54 32 := hS285.1 32 (by decide)
      have e49 : S274.1 54 32 = S262.1 54 32 := hS274.1 32 (by decide)
      have e50 : S262.1 54 32 = S143h.1 54 32 := hS262.1 32 (by decide)
      have e51 : S143h.1 54 32 = S1c.1 54 32 := hS143h.1 32 (by decide)
      have e52 : S1c.1 54 32 = S.1 54 32 := hS1c.1 32 (by decide)
      refine ⟨by omega, ?_⟩
      intro S334 hS334e
      have hS334 : Ch [32] [] S326 S334 := Ch_I hS334e
      have hS334v : S334.1 54 32 = (S326.1 54 32 + 1) := pI_at hS334e
      have e53 : S334.1 54 25 = S326.1 54 25 := hS334.1 25 (by decide)
      have e54 : S326.1 54 25 = S315.1 54 25 := hS326.1 25 (by decide)
      have e55 : S315.1 54 25 = S305.1 54 25 := hS315.1 25 (by decide)
      have e56 : S305.1 54 25 = S295.1 54 25 := hS305.1 25 (by decide)
      have e57 : S295.1 54 25 = S285.1 54 25 := hS295.1 25 (by decide)
      have e58 : S285.1 54 25 = S274.1 54 25 := hS285.1 25 (by decide)
      have e59 : S274.1 54 25 = S262.1 54 25 := hS274.1 25 (by decide)
      have e60 : S262.1 54 25 = S143h.1 54 25 := hS262.1 25 (by decide)
      have e61 : S143h.1 54 25 = S1c.1 54 25 := hS143h.1 25 (by decide)
      have e62 : S334.1 54 30 = S326.1 54 30 := hS334.1 30 (by decide)
      have e63 : S326.1 54 30 = S315.1 54 30 := hS326.1 30 (by decide)
      have e64 : S315.1 54 30 = S305.1 54 30 := hS315.1 30 (by decide)
      have e65 : S305.1 54 30 = S295.1 54 30 := hS305.1 30 (by decide)
      have e66 : S295.1 54 30 = S285.1 54 30 := hS295.1 30 (by decide)
      have e67 : S285.1 54 30 = S274.1 54 30 := hS285.1 30 (by decide)
      have e68 : S274.1 54 30 = S262.1 54 30 := hS274.1 30 (by decide)
      have e69 : S262.1 54 30 = S143h.1 54 30 := hS262.1 30 (by decide)
      have e70 : S143h.1 54 30 = S1c.1 54 30 := hS143h.1 30 (by decide)
      have e71 : S334.2 75 a1 = S326.2 75 a1 := congrFun (hS334.2 75 (by decide)) _
      have e72 : S326.2 75 a1 = S315.2 75 a1 := congrFun (hS326.2 75 (by decide)) _
      have e73 : S315.2 75 a1 = S305.2 75 a1 := congrFun (hS315.2 75 (by decide)) _
      have e74 : S305.2 75 a1 = S295.2 75 a1 := congrFun (hS305.2 75 (by decide)) _
      have e75 : S295.2 75 a1 = S285.2 75 a1 := congrFun (hS295.2 75 (by decide)) _
      have e76 : S285.2 75 a1 = S274.2 75 a1 := congrFun (hS285.2 75 (by decide)) _
      have e77 : S274.2 75 a1 = S262.2 75 a1 := congrFun (hS274.2 75 (by decide)) _
      have e78 : S262.2 75 a1 = S143h.2 75 a1 := congrFun (hS262.2 75 (by decide)) _
      have e79 : S143h.2 75 a1 = S1c.2 75 a1 := congrFun (hS143h.2 75 (by decide)) _
      have e80 : S334.1 54 39 = S326.1 54 39 := hS334.1 39 (by decide)
      have e81 : S326.1 54 39 = S315.1 54 39 := hS326.1 39 (by decide)
      have e82 : S315.1 54 39 = S305.1 54 39 := hS315.1 39 (by decide)
      have e83 : S305.1 54 39 = S295.1 54 39 := hS305.1 39 (by decide)
      have e84 : S295.1 54 39 = S285.1 54 39 := hS295.1 39 (by decide)
      have e85 : S285.1 54 39 = S274.1 54 39 := hS285.1 39 (by decide)
      have e86 : S274.1 54 39 = S262.1 54 39 := hS274.1 39 (by decide)
      have e87 : S334.2 77 ((S.1 54 32)) = S326.2 77 ((S.1 54 32)) := congrFun (hS334.2 77 (by decide)) _
      have e88 : S326.2 77 ((S.1 54 32)) = S315.2 77 ((S.1 54 32)) := congrFun (hS326.2 77 (by decide)) _
      have e89 : S315.2 77 ((S.1 54 32)) = S305.2 77 ((S.1 54 32)) := congrFun (hS315.2 77 (by decide)) _
      have e90 : S305.2 77 ((S.1 54 32)) = S295.2 77 ((S.1 54 32)) := congrFun (hS305.2 77 (by decide)) _
      have e91 : S295.2 77 ((S.1 54 32)) = S285.2 77 ((S.1 54 32)) := congrFun (hS295.2 77 (by decide)) _
      have e92 : S285.2 77 ((S.1 54 32)) = S274.2 77 ((S.1 54 32)) := congrFun (hS285.2 77 (by decide)) _
      first | have e93 : S274.2 77 ((S.1 54 32)) = S262.2 77 ((S.1 54 32)) := by have q := hS274v ((S.1 54 32)); omega | have e93 : S274.2 77 ((S.1 54 32)) = ((a1)) := by have q := hS274v ((S.1 54 32)); omega | have e93 := hS274v ((S.1 54 32))
      have e94 : S262.2 77 ((S.1 54 32)) = S143h.2 77 ((S.1 54 32)) := congrFun (hS262.2 77 (by decide)) _
      have e95 : S143h.2 77 ((S.1 54 32)) = S1c.2 77 ((S.1 54 32)) := congrFun (hS143h.2 77 (by decide)) _
      have e96 : S1c.2 77 ((S.1 54 32)) = S.2 77 ((S.1 54 32)) := congrFun (hS1c.2 77 (by decide)) _
      have e97 : S334.2 78 ((S.1 54 32)) = S326.2 78 ((S.1 54 32)) := congrFun (hS334.2 78 (by decide)) _
      have e98 : S326.2 78 ((S.1 54 32)) = S315.2 78 ((S.1 54 32)) := congrFun (hS326.2 78 (by decide)) _
      have e99 : S315.2 78 ((S.1 54 32)) = S305.2 78 ((S.1 54 32)) := congrFun (hS315.2 78 (by decide)) _
      have e100 : S305.2 78 ((S.1 54 32)) = S295.2 78 ((S.1 54 32)) := congrFun (hS305.2 78 (by decide)) _
      have e101 : S295.2 78 ((S.1 54 32)) = S285.2 78 ((S.1 54 32)) := congrFun (hS295.2 78 (by decide)) _
      first | have e102 : S285.2 78 ((S.1 54 32)) = S274.2 78 ((S.1 54 32)) := by have q := hS285v ((S.1 54 32)); omega | have e102 : S285.2 78 ((S.1 54 32)) = (((S.1 54 25))) := by have q := hS285v ((S.1 54 32)); omega | have e102 := hS285v ((S.1 54 32))
      have e103 : S274.2 78 ((S.1 54 32)) = S262.2 78 ((S.1 54 32)) := congrFun (hS274.2 78 (by decide)) _
      have e104 : S262.2 78 ((S.1 54 32)) = S143h.2 78 ((S.1 54 32)) := congrFun (hS262.2 78 (by decide)) _
      have e105 : S143h.2 78 ((S.1 54 32)) = S1c.2 78 ((S.1 54 32)) := congrFun (hS143h.2 78 (by decide)) _
      have e106 : S1c.2 78 ((S.1 54 32)) = S.2 78 ((S.1 54 32)) := congrFun (hS1c.2 78 (by decide)) _
      have e107 : S334.2 79 ((S.1 54 32)) = S326.2 79 ((S.1 54 32)) := congrFun (hS334.2 79 (by decide)) _
      have e108 : S326.2 79 ((S.1 54 32)) = S315.2 79 ((S.1 54 32)) := congrFun (hS326.2 79 (by decide)) _
      have e109 : S315.2 79 ((S.1 54 32)) = S305.2 79 ((S.1 54 32)) := congrFun (hS315.2 79 (by decide)) _
      have e110 : S305.2 79 ((S.1 54 32)) = S295.2 79 ((S.1 54 32)) := congrFun (hS305.2 79 (by decide)) _
      first | have e111 : S295.2 79 ((S.1 54 32)) = S285.2 79 ((S.1 54 32)) := by have q := hS295v ((S.1 54 32)); omega | have e111 : S295.2 79 ((S.1 54 32)) = ((a3)) := by have q := hS295v ((S.1 54 32)); omega | have e111 := hS295v ((S.1 54 32))
      have e112 : S285.2 79 ((S.1 54 32)) = S274.2 79 ((S.1 54 32)) := congrFun (hS285.2 79 (by decide)) _
      have e113 : S274.2 79 ((S.1 54 32)) = S262.2 79 ((S.1 54 32)) := congrFun (hS274.2 79 (by decide)) _
      have e114 : S262.2 79 ((S.1 54 32)) = S143h.2 79 ((S.1 54 32)) := congrFun (hS262.2 79 (by decide)) _
      have e115 : S143h.2 79 ((S.1 54 32)) = S1c.2 79 ((S.1 54 32)) := congrFun (hS143h.2 79 (by decide)) _
      have e116 : S1c.2 79 ((S.1 54 32)) = S.2 79 ((S.1 54 32)) := congrFun (hS1c.2 79 (by decide)) _
      have e117 : S334.2 80 ((S.1 54 32)) = S326.2 80 ((S.1 54 32)) := congrFun (hS334.2 80 (by decide)) _
      have e118 : S326.2 80 ((S.1 54 32)) = S315.2 80 ((S.1 54 32)) := congrFun (hS326.2 80 (by decide)) _
      have e119 : S315.2 80 ((S.1 54 32)) = S305.2 80 ((S.1 54 32)) := congrFun (hS315.2 80 (by decide)) _
      first | have e120 : S305.2 80 ((S.1 54 32)) = S295.2 80 ((S.1 54 32)) := by have q := hS305v ((S.1 54 32)); omega | have e120 : S305.2 80 ((S.1 54 32)) = (0) := by have q := hS305v ((S.1 54 32)); omega | have e120 := hS305v ((S.1 54 32))
      have e121 : S295.2 80 ((S.1 54 32)) = S285.2 80 ((S.1 54 32)) := congrFun (hS295.2 80 (by decide)) _
      have e122 : S285.2 80 ((S.1 54 32)) = S274.2 80 ((S.1 54 32)) := congrFun (hS285.2 80 (by decide)) _
      have e123 : S274.2 80 ((S.1 54 32)) = S262.2 80 ((S.1 54 32)) := congrFun (hS274.2 80 (by decide)) _
      have e124 : S262.2 80 ((S.1 54 32)) = S143h.2 80 ((S.1 54 32)) := congrFun (hS262.2 80 (by decide)) _
      have e125 : S143h.2 80 ((S.1 54 32)) = S1c.2 80 ((S.1 54 32)) := congrFun (hS143h.2 80 (by decide)) _
      have e126 : S1c.2 80 ((S.1 54 32)) = S.2 80 ((S.1 54 32)) := congrFun (hS1c.2 80 (by decide)) _
      have e127 : S334.2 81 ((S.1 54 32)) = S326.2 81 ((S.1 54 32)) := congrFun (hS334.2 81 (by decide)) _
      have e128 : S326.2 81 ((S.1 54 32)) = S315.2 81 ((S.1 54 32)) := congrFun (hS326.2 81 (by decide)) _
      first | have e129 : S315.2 81 ((S.1 54 32)) = S305.2 81 ((S.1 54 32)) := by have q := hS315v ((S.1 54 32)); omega | have e129 : S315.2 81 ((S.1 54 32)) = (0) := by have q := hS315v ((S.1 54 32)); omega | have e129 := hS315v ((S.1 54 32))
      have e130 : S305.2 81 ((S.1 54 32)) = S295.2 81 ((S.1 54 32)) := congrFun (hS305.2 81 (by decide)) _
      have e131 : S295.2 81 ((S.1 54 32)) = S285.2 81 ((S.1 54 32)) := congrFun (hS295.2 81 (by decide)) _
      have e132 : S285.2 81 ((S.1 54 32)) = S274.2 81 ((S.1 54 32)) := congrFun (hS285.2 81 (by decide)) _
      have e133 : S274.2 81 ((S.1 54 32)) = S262.2 81 ((S.1 54 32)) := congrFun (hS274.2 81 (by decide)) _
      have e134 : S262.2 81 ((S.1 54 32)) = S143h.2 81 ((S.1 54 32)) := congrFun (hS262.2 81 (by decide)) _
      have e135 : S143h.2 81 ((S.1 54 32)) = S1c.2 81 ((S.1 54 32)) := congrFun (hS143h.2 81 (by decide)) _
      have e136 : S1c.2 81 ((S.1 54 32)) = S.2 81 ((S.1 54 32)) := congrFun (hS1c.2 81 (by decide)) _
      have e137 : S334.2 82 ((S.1 54 32)) = S326.2 82 ((S.1 54 32)) := congrFun (hS334.2 82 (by decide)) _
      first | have e138 : S326.2 82 ((S.1 54 32)) = S315.2 82 ((S.1 54 32)) := by have q := hS326v ((S.1 54 32)); omega | have e138 : S326.2 82 ((S.1 54 32)) = ((-2)) := by have q := hS326v ((S.1 54 32)); omega | have e138 := hS326v ((S.1 54 32))
      have e139 : S315.2 82 ((S.1 54 32)) = S305.2 82 ((S.1 54 32)) := congrFun (hS315.2 82 (by decide)) _
      have e140 : S305.2 82 ((S.1 54 32)) = S295.2 82 ((S.1 54 32)) := congrFun (hS305.2 82 (by decide)) _
      have e141 : S295.2 82 ((S.1 54 32)) = S285.2 82 ((S.1 54 32)) := congrFun (hS295.2 82 (by decide)) _
      have e142 : S285.2 82 ((S.1 54 32)) = S274.2 82 ((S.1 54 32)) := congrFun (hS285.2 82 (by decide)) _
      have e143 : S274.2 82 ((S.1 54 32)) = S262.2 82 ((S.1 54 32)) := congrFun (hS274.2 82 (by decide)) _
      have e144 : S262.2 82 ((S.1 54 32)) = S143h.2 82 ((S.1 54 32)) := congrFun (hS262.2 82 (by decide)) _
      have e145 : S143h.2 82 ((S.1 54 32)) = S1c.2 82 ((S.1 54 32)) := congrFun (hS143h.2 82 (by decide)) _
      have e146 : S1c.2 82 ((S.1 54 32)) = S.2 82 ((S.1 54 32)) := congrFun (hS1c.2 82 (by decide)) _
      have e147 : S334.1 54 39 = S326.1 54 39 := hS334.1 39 (by decide)
      have e148 : S326.1 54 39 = S315.1 54 39 := hS326.1 39 (by decide)
      have e149 : S315.1 54 39 = S305.1 54 39 := hS315.1 39 (by decide)
      have e150 : S305.1 54 39 = S295.1 54 39 := hS305.1 39 (by decide)
      have e151 : S295.1 54 39 = S285.1 54 39 := hS295.1 39 (by decide)
      have e152 : S285.1 54 39 = S274.1 54 39 := hS285.1 39 (by decide)
      have e153 : S274.1 54 39 = S262.1 54 39 := hS274.1 39 (by decide)
      have e154 : S334.1 54 39 = S326.1 54 39 := hS334.1 39 (by decide)
      have e155 : S326.1 54 39 = S315.1 54 39 := hS326.1 39 (by decide)
      have e156 : S315.1 54 39 = S305.1 54 39 := hS315.1 39 (by decide)
      have e157 : S305.1 54 39 = S295.1 54 39 := hS305.1 39 (by decide)
      have e158 : S295.1 54 39 = S285.1 54 39 := hS295.1 39 (by decide)
      have e159 : S285.1 54 39 = S274.1 54 39 := hS285.1 39 (by decide)
      have e160 : S274.1 54 39 = S262.1 54 39 := hS274.1 39 (by decide)
      exact hK (0) S334 (Ch.wk (Ch.tr (Ch.tr (Ch.tr (Ch.tr (Ch.tr (Ch.tr (Ch.tr (Ch.tr (Ch.tr hS1c hS143h) hS262) hS274) hS285) hS295) hS305) hS315) hS326) hS334) (by decide) (by decide)) (by omega) (by omega) (PW.mv c8 (((Ch.tr (Ch.tr (Ch.tr (Ch.tr (Ch.tr (Ch.tr (Ch.tr (Ch.tr hS143h hS262) hS274) hS285) hS295) hS305) hS315) hS326) hS334)).1 25 (by decide)) (((Ch.tr (Ch.tr (Ch.tr (Ch.tr (Ch.tr (Ch.tr (Ch.tr (Ch.tr hS143h hS262) hS274) hS285) hS295) hS305) hS315) hS326) hS334)).2 72 (by decide))) (BW.mv c9 (Int.le_of_eq ((((Ch.tr (Ch.tr (Ch.tr (Ch.tr (Ch.tr (Ch.tr (Ch.tr (Ch.tr hS143h hS262) hS274) hS285) hS295) hS305) hS315) hS326) hS334)).1 25 (by decide)).symm)) (((Ch.tr (Ch.tr (Ch.tr (Ch.tr (Ch.tr (Ch.tr (Ch.tr (Ch.tr hS143h hS262) hS274) hS285) hS295) hS305) hS315) hS326) hS334)).2 75 (by decide))) (by omega) (by omega) (by omega) (by
            intro x
            have e161 : S334.2 77 x = S326.2 77 x := congrFun (hS334.2 77 (by decide)) _
            have e162 : S326.2 77 x = S315.2 77 x := congrFun (hS326.2 77 (by decide)) _
            have e163 : S315.2 77 x = S305.2 77 x := congrFun (hS315.2 77 (by decide)) _
            have e164 : S305.2 77 x = S295.2 77 x := congrFun (hS305.2 77 (by decide)) _
            have e165 : S295.2 77 x = S285.2 77 x := congrFun (hS295.2 77 (by decide)) _
            have e166 : S285.2 77 x = S274.2 77 x := congrFun (hS285.2 77 (by decide)) _
            have e167 := hS274v x
            have e168 : S262.2 77 x = S143h.2 77 x := congrFun (hS262.2 77 (by decide)) _
            have e169 : S143h.2 77 x = S1c.2 77 x := congrFun (hS143h.2 77 (by decide)) _
            have e170 : S1c.2 77 x = S.2 77 x := congrFun (hS1c.2 77 (by decide)) _
            omega) (by
            intro x
            have e171 : S334.2 78 x = S326.2 78 x := congrFun (hS334.2 78 (by decide)) _
            have e172 : S326.2 78 x = S315.2 78 x := congrFun (hS326.2 78 (by decide)) _
            have e173 : S315.2 78 x = S305.2 78 x := congrFun (hS315.2 78 (by decide)) _
            have e174 : S305.2 78 x = S295.2 78 x := congrFun (hS305.2 78 (by decide)) _
            have e175 : S295.2 78 x = S285.2 78 x := congrFun (hS295.2 78 (by decide)) _
            have e176 := hS285v x
            have e177 : S274.2 78 x = S262.2 78 x := congrFun (hS274.2 78 (by decide)) _
            have e178 : S262.2 78 x = S143h.2 78 x := congrFun (hS262.2 78 (by decide)) _
            have e179 : S143h.2 78 x = S1c.2 78 x := congrFun (hS143h.2 78 (by decide)) _
            have e180 : S1c.2 78 x = S.2 78 x := congrFun (hS1c.2 78 (by decide)) _
            omega) (by
            intro x
            have e181 : S334.2 79 x = S326.2 79 x := congrFun (hS334.2 79 (by decide)) _
            have e182 : S326.2 79 x = S315.2 79 x := congrFun (hS326.2 79 (by decide)) _
            have e183 : S315.2 79 x = S305.2 79 x := congrFun (hS315.2 79 (by decide)) _
            have e184 : S305.2 79 x = S295.2 79 x := congrFun (hS305.2 79 (by decide)) _
            have e185 := hS295v x
            have e186 : S285.2 79 x = S274.2 79 x := congrFun (hS285.2 79 (by decide)) _
            have e187 : S274.2 79 x = S262.2 79 x := congrFun (hS274.2 79 (by decide)) _
            have e188 : S262.2 79 x = S143h.2 79 x := congrFun (hS262.2 79 (by decide)) _
            have e189 : S143h.2 79 x = S1c.2 79 x := congrFun (hS143h.2 79 (by decide)) _
            have e190 : S1c.2 79 x = S.2 79 x := congrFun (hS1c.2 79 (by decide)) _
            omega) (by
            intro x
            have e191 : S334.2 80 x = S326.2 80 x := congrFun (hS334.2 80 (by decide)) _
            have e192 : S326.2 80 x = S315.2 80 x := congrFun (hS326.2 80 (by decide)) _
            have e193 : S315.2 80 x = S305.2 80 x := congrFun (hS315.2 80 (by decide)) _
            have e194 := hS305v x
            have e195 : S295.2 80 x = S285.2 80 x := congrFun (hS295.2 80 (by decide)) _
            have e196 : S285.2 80 x = S274.2 80 x := congrFun (hS285.2 80 (by decide)) _
            have e197 : S274.2 80 x = S262.2 80 x := congrFun (hS274.2 80 (by decide)) _
            have e198 : S262.2 80 x = S143h.2 80 x := congrFun (hS262.2 80 (by decide)) _
            have e199 : S143h.2 80 x = S1c.2 80 x := congrFun (hS143h.2 80 (by decide)) _
            have e200 : S1c.2 80 x = S.2 80 x := congrFun (hS1c.2 80 (by decide)) _
            omega) (by
            intro x
            have e201 : S334.2 81 x = S326.2 81 x := congrFun (hS334.2 81 (by decide)) _
            have e202 : S326.2 81 x = S315.2 81 x := congrFun (hS326.2 81 (by decide)) _
            have e203 := hS315v x
            have e204 : S305.2 81 x = S295.2 81 x := congrFun (hS305.2 81 (by decide)) _
            have e205 : S295.2 81 x = S285.2 81 x := congrFun (hS295.2 81 (by decide)) _
            have e206 : S285.2 81 x = S274.2 81 x := congrFun (hS285.2 81 (by decide)) _
            have e207 : S274.2 81 x = S262.2 81 x := congrFun (hS274.2 81 (by decide)) _
            have e208 : S262.2 81 x = S143h.2 81 x := congrFun (hS262.2 81 (by decide)) _
            have e209 : S143h.2 81 x = S1c.2 81 x := congrFun (hS143h.2 81 (by decide)) _
            have e210 : S1c.2 81 x = S.2 81 x := congrFun (hS1c.2 81 (by decide)) _
            omega) (by
            intro x
            have e211 : S334.2 82 x = S326.2 82 x := congrFun (hS334.2 82 (by decide)) _
            have e212 := hS326v x
            have e213 : S315.2 82 x = S305.2 82 x := congrFun (hS315.2 82 (by decide)) _
            have e214 : S305.2 82 x = S295.2 82 x := congrFun (hS305.2 82 (by decide)) _
            have e215 : S295.2 82 x = S285.2 82 x := congrFun (hS295.2 82 (by decide)) _
            have e216 : S285.2 82 x = S274.2 82 x := congrFun (hS285.2 82 (by decide)) _
            have e217 : S274.2 82 x = S262.2 82 x := congrFun (hS274.2 82 (by decide)) _
            have e218 : S262.2 82 x = S143h.2 82 x := congrFun (hS262.2 82 (by decide)) _
            have e219 : S143h.2 82 x = S1c.2 82 x := congrFun (hS143h.2 82 (by decide)) _
            have e220 : S1c.2 82 x = S.2 82 x := congrFun (hS1c.2 82 (by decide)) _
            omega) (by omega) (by omega)
    · refine tX11_putWord (by omega) (fun r255 S255 hS255 n255_0 n255_1 n255_2 n255_3 => ?_)
      have e221 : S255.1 54 25 = S143h.1 54 25 := hS255.1 25 (by decide)
      have e222 : S143h.1 54 25 = S1c.1 54 25 := hS143h.1 25 (by decide)
      have e223 : S255.1 54 30 = S143h.1 54 30 := hS255.1 30 (by decide)
      have e224 : S143h.1 54 30 = S1c.1 54 30 := hS143h.1 30 (by decide)
      have e225 : S255.2 75 a1 = S143h.2 75 a1 := congrFun (hS255.2 75 (by decide)) _
      have e226 : S143h.2 75 a1 = S1c.2 75 a1 := congrFun (hS143h.2 75 (by decide)) _
      have e227 : S255.1 54 32 = S143h.1 54 32 := hS255.1 32 (by decide)
      have e228 : S143h.1 54 32 = S1c.1 54 32 := hS143h.1 32 (by decide)
      have e229 : S1c.1 54 32 = S.1 54 32 := hS1c.1 32 (by decide)
      have e230 : S255.2 77 ((S.1 54 32)) = S143h.2 77 ((S.1 54 32)) := congrFun (hS255.2 77 (by decide)) _
      have e231 : S143h.2 77 ((S.1 54 32)) = S1c.2 77 ((S.1 54 32)) := congrFun (hS143h.2 77 (by decide)) _
      have e232 : S1c.2 77 ((S.1 54 32)) = S.2 77 ((S.1 54 32)) := congrFun (hS1c.2 77 (by decide)) _
      have e233 : S255.2 78 ((S.1 54 32)) = S143h.2 78 ((S.1 54 32)) := congrFun (hS255.2 78 (by decide)) _
      have e234 : S143h.2 78 ((S.1 54 32)) = S1c.2 78 ((S.1 54 32)) := congrFun (hS143h.2 78 (by decide)) _
      have e235 : S1c.2 78 ((S.1 54 32)) = S.2 78 ((S.1 54 32)) := congrFun (hS1c.2 78 (by decide)) _
      have e236 : S255.2 79 ((S.1 54 32)) = S143h.2 79 ((S.1 54 32)) := congrFun (hS255.2 79 (by decide)) _
      have e237 : S143h.2 79 ((S.1 54 32)) = S1c.2 79 ((S.1 54 32)) := congrFun (hS143h.2 79 (by decide)) _
      have e238 : S1c.2 79 ((S.1 54 32)) = S.2 79 ((S.1 54 32)) := congrFun (hS1c.2 79 (by decide)) _
      have e239 : S255.2 80 ((S.1 54 32)) = S143h.2 80 ((S.1 54 32)) := congrFun (hS255.2 80 (by decide)) _
      have e240 : S143h.2 80 ((S.1 54 32)) = S1c.2 80 ((S.1 54 32)) := congrFun (hS143h.2 80 (by decide)) _
      have e241 : S1c.2 80 ((S.1 54 32)) = S.2 80 ((S.1 54 32)) := congrFun (hS1c.2 80 (by decide)) _
      have e242 : S255.2 81 ((S.1 54 32)) = S143h.2 81 ((S.1 54 32)) := congrFun (hS255.2 81 (by decide)) _
      have e243 : S143h.2 81 ((S.1 54 32)) = S1c.2 81 ((S.1 54 32)) := congrFun (hS143h.2 81 (by decide)) _
      have e244 : S1c.2 81 ((S.1 54 32)) = S.2 81 ((S.1 54 32)) := congrFun (hS1c.2 81 (by decide)) _
      have e245 : S255.2 82 ((S.1 54 32)) = S143h.2 82 ((S.1 54 32)) := congrFun (hS255.2 82 (by decide)) _
      have e246 : S143h.2 82 ((S.1 54 32)) = S1c.2 82 ((S.1 54 32)) := congrFun (hS143h.2 82 (by decide)) _
      have e247 : S1c.2 82 ((S.1 54 32)) = S.2 82 ((S.1 54 32)) := congrFun (hS1c.2 82 (by decide)) _
      exact hK (0) S255 (Ch.wk (Ch.tr (Ch.tr hS1c hS143h) hS255) (by decide) (by decide)) (by omega) (by omega) (PW.mv c8 (((Ch.tr hS143h hS255)).1 25 (by decide)) (((Ch.tr hS143h hS255)).2 72 (by decide))) (BW.mv c9 (Int.le_of_eq ((((Ch.tr hS143h hS255)).1 25 (by decide)).symm)) (((Ch.tr hS143h hS255)).2 75 (by decide))) (by omega) (by omega) (by omega) (by
            intro x
            have e248 : S255.2 77 x = S143h.2 77 x := congrFun (hS255.2 77 (by decide)) _
            have e249 : S143h.2 77 x = S1c.2 77 x := congrFun (hS143h.2 77 (by decide)) _
            have e250 : S1c.2 77 x = S.2 77 x := congrFun (hS1c.2 77 (by decide)) _
            omega) (by
            intro x
            have e251 : S255.2 78 x = S143h.2 78 x := congrFun (hS255.2 78 (by decide)) _
            have e252 : S143h.2 78 x = S1c.2 78 x := congrFun (hS143h.2 78 (by decide)) _
            have e253 : S1c.2 78 x = S.2 78 x := congrFun (hS1c.2 78 (by decide)) _
            omega) (by
            intro x
            have e254 : S255.2 79 x = S143h.2 79 x := congrFun (hS255.2 79 (by decide)) _
            have e255 : S143h.2 79 x = S1c.2 79 x := congrFun (hS143h.2 79 (by decide)) _
            have e256 : S1c.2 79 x = S.2 79 x := congrFun (hS1c.2 79 (by decide)) _
            omega) (by
            intro x
            have e257 : S255.2 80 x = S143h.2 80 x := congrFun (hS255.2 80 (by decide)) _
            have e258 : S143h.2 80 x = S1c.2 80 x := congrFun (hS143h.2 80 (by decide)) _
            have e259 : S1c.2 80 x = S.2 80 x := congrFun (hS1c.2 80 (by decide)) _
            omega) (by
            intro x
            have e260 : S255.2 81 x = S143h.2 81 x := congrFun (hS255.2 81 (by decide)) _
            have e261 : S143h.2 81 x = S1c.2 81 x := congrFun (hS143h.2 81 (by decide)) _
            have e262 : S1c.2 81 x = S.2 81 x := congrFun (hS1c.2 81 (by decide)) _
            omega) (by
            intro x
            have e263 : S255.2 82 x = S143h.2 82 x := congrFun (hS255.2 82 (by decide)) _
            have e264 : S143h.2 82 x = S1c.2 82 x := congrFun (hS143h.2 82 (by decide)) _
            have e265 : S1c.2 82 x = S.2 82 x := congrFun (hS1c.2 82 (by decide)) _
            omega) (by omega) (by omega)
  · refine ⟨by omega, by omega, ?_⟩
    intro q266
    have e267 : S143h.2 59 (((4 * ((S.2 68) a1)) + v143_8)) = S1c.2 59 (((4 * ((S.2 68) a1)) + v143_8)) := congrFun (hS143h.2 59 (by decide)) _
    have e268 : S1c.2 59 (((4 * ((S.2 68) a1)) + v143_8)) = S.2 59 (((4 * ((S.2 68) a1)) + v143_8)) := congrFun (hS1c.2 59 (by decide)) _
    refine ⟨fun h168 => ?_, fun h168 => ?_⟩
    · unfold wX11_begin_232
      exact ⟨⟨(Ch.wk hS143h (by decide) (by decide)), rfl, rfl, rfl, rfl, by omega, by omega, by omega, by omega⟩, show (5 - ((v143_8 + 1))).toNat < (5 - v143_8).toNat by omega⟩
    · refine ⟨by omega, by omega, ?_⟩
      intro q269
      have e270 : S143h.2 60 (((4 * ((S.2 68) a1)) + v143_8)) = S1c.2 60 (((4 * ((S.2 68) a1)) + v143_8)) := congrFun (hS143h.2 60 (by decide)) _
      have e271 : S1c.2 60 (((4 * ((S.2 68) a1)) + v143_8)) = S.2 60 (((4 * ((S.2 68) a1)) + v143_8)) := congrFun (hS1c.2 60 (by decide)) _
      refine ⟨fun h183 => ?_, fun h183 => ?_⟩
      · unfold wX11_begin_232
        exact ⟨⟨(Ch.wk hS143h (by decide) (by decide)), rfl, rfl, rfl, rfl, by omega, by omega, by omega, by omega⟩, show (5 - ((v143_8 + 1))).toNat < (5 - v143_8).toNat by omega⟩
      · refine tX11_put  (fun r189 S189 hS189 n189_0 n189_1 => ?_)
        refine ⟨by omega, ?_⟩
        have e272 : S189.2 57 (((6 + (4 * ((S.2 68) a1))) + v143_8)) = S143h.2 57 (((6 + (4 * ((S.2 68) a1))) + v143_8)) := congrFun (hS189.2 57 (by decide)) _
        have e273 : S143h.2 57 (((6 + (4 * ((S.2 68) a1))) + v143_8)) = S1c.2 57 (((6 + (4 * ((S.2 68) a1))) + v143_8)) := congrFun (hS143h.2 57 (by decide)) _
        have e274 : S1c.2 57 (((6 + (4 * ((S.2 68) a1))) + v143_8)) = S.2 57 (((6 + (4 * ((S.2 68) a1))) + v143_8)) := congrFun (hS1c.2 57 (by decide)) _
        refine tX11_putName (by omega) (by omega) (fun r203 S203 hS203 n203_0 n203_1 n203_2 => ?_)
        refine tX11_putWord (by omega) (fun r213 S213 hS213 n213_0 n213_1 n213_2 n213_3 => ?_)
        have hk := p12 a1 (v143_8)
        unfold tyV at hk
        refine ⟨by omega, ?_⟩
        refine ⟨by omega, ?_⟩
        have e275 : S213.2 59 (4 * (((S.2 68) a1)) + (v143_8)) = S203.2 59 (4 * (((S.2 68) a1)) + (v143_8)) := congrFun (hS213.2 59 (by decide)) _
        have e276 : S203.2 59 (4 * (((S.2 68) a1)) + (v143_8)) = S189.2 59 (4 * (((S.2 68) a1)) + (v143_8)) := congrFun (hS203.2 59 (by decide)) _
        have e277 : S189.2 59 (4 * (((S.2 68) a1)) + (v143_8)) = S143h.2 59 (4 * (((S.2 68) a1)) + (v143_8)) := congrFun (hS189.2 59 (by decide)) _
        have e278 : S143h.2 59 (4 * (((S.2 68) a1)) + (v143_8)) = S1c.2 59 (4 * (((S.2 68) a1)) + (v143_8)) := congrFun (hS143h.2 59 (by decide)) _
        have e279 : S1c.2 59 (4 * (((S.2 68) a1)) + (v143_8)) = S.2 59 (4 * (((S.2 68) a1)) + (v143_8)) := congrFun (hS1c.2 59 (by decide)) _
        have e280 : S213.2 69 (4 * ((a1)) + (v143_8)) = S203.2 69 (4 * ((a1)) + (v143_8)) := congrFun (hS213.2 69 (by decide)) _
        have e281 : S203.2 69 (4 * ((a1)) + (v143_8)) = S189.2 69 (4 * ((a1)) + (v143_8)) := congrFun (hS203.2 69 (by decide)) _
        have e282 : S189.2 69 (4 * ((a1)) + (v143_8)) = S143h.2 69 (4 * ((a1)) + (v143_8)) := congrFun (hS189.2 69 (by decide)) _
        have e283 : S143h.2 69 (4 * ((a1)) + (v143_8)) = S1c.2 69 (4 * ((a1)) + (v143_8)) := congrFun (hS143h.2 69 (by decide)) _
        have e284 : S1c.2 69 (4 * ((a1)) + (v143_8)) = S.2 69 (4 * ((a1)) + (v143_8)) := congrFun (hS1c.2 69 (by decide)) _
        refine tX11_putValue (by omega) (by omega) (by omega) (by omega) (by omega) (fun r223 S223 hS223 n223_0 n223_1 => ?_)
        refine tX11_put  (fun r229 S229 hS229 n229_0 n229_1 => ?_)
        unfold wX11_begin_232
        exact ⟨⟨(Ch.wk (Ch.tr (Ch.tr (Ch.tr (Ch.tr (Ch.tr hS143h hS189) hS203) hS213) hS223) hS229) (by decide) (by decide)), rfl, rfl, rfl, rfl, by omega, by omega, by omega, by omega⟩, show (5 - ((v143_8 + 1))).toNat < (5 - v143_8).toNat by omega⟩
set_option maxRecDepth 100000 in
set_option maxHeartbeats 4000000 in
theorem tX11_begin {a1 a2 a3 a4 a5 : Int} {S : St} {K : Int → St → Prop} (p1 : iv 0 29 a1) (p2 : iv (-2) 899 a2) (p3 : a2 < (S.1 54 25)) (p4 : iv 0 29 a3) (p5 : 1 ≤ (S.2 57) a3) (p6 : iv 0 1 a4) (p7 : (S.1 54 32) ≤ 19) (p8 : (S.1 54 25) ≤ 899) (p9 : (S.1 54 30) ≤ (S.1 54 25)) (p10 : PW S) (p11 : BW S) (p12 : OK0 S) (p13 : a1 < (S.2 67) 0) (p14 : (S.1 54 39) ≤ 3001) (hK : ∀ (r : Int) (S' : St), Ch [25, 30, 32, 39] [72, 73, 74, 75, 76, 77, 78, 79, 80, 81, 82, 83] S S' → ((S'.1 54 25) = (S.1 54 25) + 1) → ((S'.1 54 30) = (S.1 54 30) + 1) → (PW S') → (BW S') → (0 ≤ (S'.2 75) a1) → (((S'.1 54 32) = (S.1 54 32) ∧ ((S'.1 54 39) = 3001 ∨ (S.1 54 39) + 4 ≤ (S'.1 54 39))) ∨ ((S'.1 54 32) = (S.1 54 32) + 1 ∧ ((S'.1 54 39) = 3001 ∨ (S.1 54 39) + 3 ≤ (S'.1 54 39)) ∧ (S'.2 77) ((S.1 54 32)) = a1 ∧ (S'.2 78) ((S.1 54 32)) = (S.1 54 25) ∧ (S'.2 79) ((S.1 54 32)) = a3 ∧ (S'.2 80) ((S.1 54 32)) = 0 ∧ (S'.2 81) ((S.1 54 32)) = 0 ∧ (S'.2 82) ((S.1 54 32)) = -2)) → ((S.1 54 39) ≤ (S'.1 54 39)) → (∀ x, x = (S.1 54 32) ∨ (S'.2 77) x = (S.2 77) x) → (∀ x, x = (S.1 54 32) ∨ (S'.2 78) x = (S.2 78) x) → (∀ x, x = (S.1 54 32) ∨ (S'.2 79) x = (S.2 79) x) → (∀ x, x = (S.1 54 32) ∨ (S'.2 80) x = (S.2 80) x) → (∀ x, x = (S.1 54 32) ∨ (S'.2 81) x = (S.2 81) x) → (∀ x, x = (S.1 54 32) ∨ (S'.2 82) x = (S.2 82) x) → (0 ≤ (S.2 56) ((S.2 68) a1)) → ((S'.1 54 39) ≤ 3001) → K r S') : wX11_begin a1 a2 a3 a4 a5 S K := by
  unfold wX11_begin
  intro g1 g2 g3 g4 g5
  refine ⟨by omega, by omega, ?_⟩
  intro q1
  intro x6 hx6
  subst hx6
  have hk0 := p11 a1
  refine tX11_element (by omega) (by omega) (by omega) (by omega) (p10) (p11) (fun r11 S11 hS11 n11_0 n11_1 n11_2 n11_3 n11_4 => ?_)
  intro q2
  have e3 : S11.1 54 30 = S.1 54 30 := hS11.1 30 (by decide)
  refine ⟨by omega, ?_⟩
  intro S23 hS23e
  have hS23 : Ch [30] [] S11 S23 := Ch_I hS23e
  have hS23v : S23.1 54 30 = (S11.1 54 30 + 1) := pI_at hS23e
  refine ⟨by omega, by omega, ?_⟩
  intro q4
  have e5 : S23.2 75 (a1) = S11.2 75 (a1) := congrFun (hS23.2 75 (by decide)) _
  have e6 : S11.2 75 (a1) = S.2 75 (a1) := congrFun (hS11.2 75 (by decide)) _
  refine ⟨fun h34 => ?_, fun h34 => ?_⟩
  · unfold wX11_begin_55
    have e7 : S23.1 54 39 = S11.1 54 39 := hS23.1 39 (by decide)
    have e8 : S11.1 54 39 = S.1 54 39 := hS11.1 39 (by decide)
    refine tX11_put  (fun r58 S58 hS58 n58_0 n58_1 => ?_)
    refine ⟨by omega, ?_⟩
    have e9 : S58.2 57 (a3) = S23.2 57 (a3) := congrFun (hS58.2 57 (by decide)) _
    have e10 : S23.2 57 (a3) = S11.2 57 (a3) := congrFun (hS23.2 57 (by decide)) _
    have e11 : S11.2 57 (a3) = S.2 57 (a3) := congrFun (hS11.2 57 (by decide)) _
    refine tX11_putName (by omega) (by omega) (fun r63 S63 hS63 n63_0 n63_1 n63_2 => ?_)
    refine ⟨by omega, ?_⟩
    refine ⟨fun h68 => ?_, fun h68 => ?_⟩
    · unfold wX11_begin_106
      refine ⟨by omega, ?_⟩
      refine ⟨fun h109 => ?_, fun h109 => ?_⟩
      · unfold wX11_begin_140
        have e12 : S63.1 54 25 = S58.1 54 25 := hS63.1 25 (by decide)
        have e13 : S58.1 54 25 = S23.1 54 25 := hS58.1 25 (by decide)
        have e14 : S23.1 54 25 = S11.1 54 25 := hS23.1 25 (by decide)
        have e15 : S63.1 54 30 = S58.1 54 30 := hS63.1 30 (by decide)
        have e16 : S58.1 54 30 = S23.1 54 30 := hS58.1 30 (by decide)
        have e17 : S63.2 75 a1 = S58.2 75 a1 := congrFun (hS63.2 75 (by decide)) _
        have e18 : S58.2 75 a1 = S23.2 75 a1 := congrFun (hS58.2 75 (by decide)) _
        have e19 : S23.2 75 a1 = S11.2 75 a1 := congrFun (hS23.2 75 (by decide)) _
        have e20 : S11.2 75 a1 = S.2 75 a1 := congrFun (hS11.2 75 (by decide)) _
        exact tX11_begin_143 g1 g2 g3 g4 g5 p1 p2 p3 p4 p5 p6 p7 p8 p9 p10 p11 p12 p13 p14 (Ch.wk (Ch.tr (Ch.tr (Ch.tr hS11 hS23) hS58) hS63) (by decide) (by decide)) (by omega) (by omega) (by omega) (by omega) (by omega) (by omega) (by omega) (PW.mv n11_2 (((Ch.tr (Ch.tr hS23 hS58) hS63)).1 25 (by decide)) (((Ch.tr (Ch.tr hS23 hS58) hS63)).2 72 (by decide))) (by
              unfold BW
              intro x
              have e21 : S63.2 75 x = S58.2 75 x := congrFun (hS63.2 75 (by decide)) _
              have e22 : S58.2 75 x = S23.2 75 x := congrFun (hS58.2 75 (by decide)) _
              have e23 : S23.2 75 x = S11.2 75 x := congrFun (hS23.2 75 (by decide)) _
              have e24 : S11.2 75 x = S.2 75 x := congrFun (hS11.2 75 (by decide)) _
              have e25 := p11 x
              omega) (by omega) (by omega) (by omega) (by omega) (by omega) hK
      · refine tX11_putAttribute (by omega) (fun r121 S121 hS121 n121_0 n121_1 n121_2 => ?_)
        refine ⟨by omega, by omega, ?_⟩
        intro q26
        have e27 : S121.2 76 (a1) = S63.2 76 (a1) := congrFun (hS121.2 76 (by decide)) _
        have e28 : S63.2 76 (a1) = S58.2 76 (a1) := congrFun (hS63.2 76 (by decide)) _
        have e29 : S58.2 76 (a1) = S23.2 76 (a1) := congrFun (hS58.2 76 (by decide)) _
        have e30 : S23.2 76 (a1) = S11.2 76 (a1) := congrFun (hS23.2 76 (by decide)) _
        have e31 : S11.2 76 (a1) = S.2 76 (a1) := congrFun (hS11.2 76 (by decide)) _
        refine tX11_putNumber (by omega) (fun r131 S131 hS131 n131_0 n131_1 => ?_)
        refine tX11_put  (fun r137 S137 hS137 n137_0 n137_1 => ?_)
        unfold wX11_begin_140
        have e32 : S137.1 54 25 = S131.1 54 25 := hS137.1 25 (by decide)
        have e33 : S131.1 54 25 = S121.1 54 25 := hS131.1 25 (by decide)
        have e34 : S121.1 54 25 = S63.1 54 25 := hS121.1 25 (by decide)
        have e35 : S63.1 54 25 = S58.1 54 25 := hS63.1 25 (by decide)
        have e36 : S58.1 54 25 = S23.1 54 25 := hS58.1 25 (by decide)
        have e37 : S23.1 54 25 = S11.1 54 25 := hS23.1 25 (by decide)
        have e38 : S137.1 54 30 = S131.1 54 30 := hS137.1 30 (by decide)
        have e39 : S131.1 54 30 = S121.1 54 30 := hS131.1 30 (by decide)
        have e40 : S121.1 54 30 = S63.1 54 30 := hS121.1 30 (by decide)
        have e41 : S63.1 54 30 = S58.1 54 30 := hS63.1 30 (by decide)
        have e42 : S58.1 54 30 = S23.1 54 30 := hS58.1 30 (by decide)
        have e43 : S137.2 75 a1 = S131.2 75 a1 := congrFun (hS137.2 75 (by decide)) _
        have e44 : S131.2 75 a1 = S121.2 75 a1 := congrFun (hS131.2 75 (by decide)) _
        have e45 : S121.2 75 a1 = S63.2 75 a1 := congrFun (hS121.2 75 (by decide)) _
        have e46 : S63.2 75 a1 = S58.2 75 a1 := congrFun (hS63.2 75 (by decide)) _
        have e47 : S58.2 75 a1 = S23.2 75 a1 := congrFun (hS58.2 75 (by decide)) _
        have e48 : S23.2 75 a1 = S11.2 75 a1 := congrFun (hS23.2 75 (by decide)) _
        have e49 : S11.2 75 a1 = S.2 75 a1 := congrFun (hS11.2 75 (by decide)) _
        exact tX11_begin_143 g1 g2 g3 g4 g5 p1 p2 p3 p4 p5 p6 p7 p8 p9 p10 p11 p12 p13 p14 (Ch.wk (Ch.tr (Ch.tr (Ch.tr (Ch.tr (Ch.tr (Ch.tr hS11 hS23) hS58) hS63) hS121) hS131) hS137) (by decide) (by decide)) (by omega) (by omega) (by omega) (by omega) (by omega) (by omega) (by omega) (PW.mv n11_2 (((Ch.tr (Ch.tr (Ch.tr (Ch.tr (Ch.tr hS23 hS58) hS63) hS121) hS131) hS137)).1 25 (by decide)) (((Ch.tr (Ch.tr (Ch.tr (Ch.tr (Ch.tr hS23 hS58) hS63) hS121) hS131) hS137)).2 72 (by decide))) (by
              unfold BW
              intro x
              have e50 : S137.2 75 x = S131.2 75 x := congrFun (hS137.2 75 (by decide)) _
              have e51 : S131.2 75 x = S121.2 75 x := congrFun (hS131.2 75 (by decide)) _
              have e52 : S121.2 75 x = S63.2 75 x := congrFun (hS121.2 75 (by decide)) _
              have e53 : S63.2 75 x = S58.2 75 x := congrFun (hS63.2 75 (by decide)) _
              have e54 : S58.2 75 x = S23.2 75 x := congrFun (hS58.2 75 (by decide)) _
              have e55 : S23.2 75 x = S11.2 75 x := congrFun (hS23.2 75 (by decide)) _
              have e56 : S11.2 75 x = S.2 75 x := congrFun (hS11.2 75 (by decide)) _
              have e57 := p11 x
              omega) (by omega) (by omega) (by omega) (by omega) (by omega) hK
    · refine tX11_putAttribute (by omega) (fun r80 S80 hS80 n80_0 n80_1 n80_2 => ?_)
      refine tX11_putWord (by omega) (fun r91 S91 hS91 n91_0 n91_1 n91_2 n91_3 => ?_)
      refine ⟨by omega, ?_⟩
      have e58 : S91.2 57 ((S.2 68 (a1))) = S80.2 57 ((S.2 68 (a1))) := congrFun (hS91.2 57 (by decide)) _
      have e59 : S80.2 57 ((S.2 68 (a1))) = S63.2 57 ((S.2 68 (a1))) := congrFun (hS80.2 57 (by decide)) _
      have e60 : S63.2 57 ((S.2 68 (a1))) = S58.2 57 ((S.2 68 (a1))) := congrFun (hS63.2 57 (by decide)) _
      have e61 : S58.2 57 ((S.2 68 (a1))) = S23.2 57 ((S.2 68 (a1))) := congrFun (hS58.2 57 (by decide)) _
      have e62 : S23.2 57 ((S.2 68 (a1))) = S11.2 57 ((S.2 68 (a1))) := congrFun (hS23.2 57 (by decide)) _
      have e63 : S11.2 57 ((S.2 68 (a1))) = S.2 57 ((S.2 68 (a1))) := congrFun (hS11.2 57 (by decide)) _
      refine tX11_putName (by omega) (by omega) (fun r97 S97 hS97 n97_0 n97_1 n97_2 => ?_)
      refine tX11_put  (fun r103 S103 hS103 n103_0 n103_1 => ?_)
      unfold wX11_begin_106
      refine ⟨by omega, ?_⟩
      refine ⟨fun h109 => ?_, fun h109 => ?_⟩
      · unfold wX11_begin_140
        have e64 : S103.1 54 25 = S97.1 54 25 := hS103.1 25 (by decide)
        have e65 : S97.1 54 25 = S91.1 54 25 := hS97.1 25 (by decide)
        have e66 : S91.1 54 25 = S80.1 54 25 := hS91.1 25 (by decide)
        have e67 : S80.1 54 25 = S63.1 54 25 := hS80.1 25 (by decide)
        have e68 : S63.1 54 25 = S58.1 54 25 := hS63.1 25 (by decide)
        have e69 : S58.1 54 25 = S23.1 54 25 := hS58.1 25 (by decide)
        have e70 : S23.1 54 25 = S11.1 54 25 := hS23.1 25 (by decide)
        have e71 : S103.1 54 30 = S97.1 54 30 := hS103.1 30 (by decide)
        have e72 : S97.1 54 30 = S91.1 54 30 := hS97.1 30 (by decide)
        have e73 : S91.1 54 30 = S80.1 54 30 := hS91.1 30 (by decide)
        have e74 : S80.1 54 30 = S63.1 54 30 := hS80.1 30 (by decide)
        have e75 : S63.1 54 30 = S58.1 54 30 := hS63.1 30 (by decide)
        have e76 : S58.1 54 30 = S23.1 54 30 := hS58.1 30 (by decide)
        have e77 : S103.2 75 a1 = S97.2 75 a1 := congrFun (hS103.2 75 (by decide)) _
        have e78 : S97.2 75 a1 = S91.2 75 a1 := congrFun (hS97.2 75 (by decide)) _
        have e79 : S91.2 75 a1 = S80.2 75 a1 := congrFun (hS91.2 75 (by decide)) _
        have e80 : S80.2 75 a1 = S63.2 75 a1 := congrFun (hS80.2 75 (by decide)) _
        have e81 : S63.2 75 a1 = S58.2 75 a1 := congrFun (hS63.2 75 (by decide)) _
        have e82 : S58.2 75 a1 = S23.2 75 a1 := congrFun (hS58.2 75 (by decide)) _
        have e83 : S23.2 75 a1 = S11.2 75 a1 := congrFun (hS23.2 75 (by decide)) _
        have e84 : S11.2 75 a1 = S.2 75 a1 := congrFun (hS11.2 75 (by decide)) _
        exact tX11_begin_143 g1 g2 g3 g4 g5 p1 p2 p3 p4 p5 p6 p7 p8 p9 p10 p11 p12 p13 p14 (Ch.wk (Ch.tr (Ch.tr (Ch.tr (Ch.tr (Ch.tr (Ch.tr (Ch.tr hS11 hS23) hS58) hS63) hS80) hS91) hS97) hS103) (by decide) (by decide)) (by omega) (by omega) (by omega) (by omega) (by omega) (by omega) (by omega) (PW.mv n11_2 (((Ch.tr (Ch.tr (Ch.tr (Ch.tr (Ch.tr (Ch.tr hS23 hS58) hS63) hS80) hS91) hS97) hS103)).1 25 (by decide)) (((Ch.tr (Ch.tr (Ch.tr (Ch.tr (Ch.tr (Ch.tr hS23 hS58) hS63) hS80) hS91) hS97) hS103)).2 72 (by decide))) (by
              unfold BW
              intro x
              have e85 : S103.2 75 x = S97.2 75 x := congrFun (hS103.2 75 (by decide)) _
              have e86 : S97.2 75 x = S91.2 75 x := congrFun (hS97.2 75 (by decide)) _
              have e87 : S91.2 75 x = S80.2 75 x := congrFun (hS91.2 75 (by decide)) _
              have e88 : S80.2 75 x = S63.2 75 x := congrFun (hS80.2 75 (by decide)) _
              have e89 : S63.2 75 x = S58.2 75 x := congrFun (hS63.2 75 (by decide)) _
              have e90 : S58.2 75 x = S23.2 75 x := congrFun (hS58.2 75 (by decide)) _
              have e91 : S23.2 75 x = S11.2 75 x := congrFun (hS23.2 75 (by decide)) _
              have e92 : S11.2 75 x = S.2 75 x := congrFun (hS11.2 75 (by decide)) _
              have e93 := p11 x
              omega) (by omega) (by omega) (by omega) (by omega) (by omega) hK
      · refine tX11_putAttribute (by omega) (fun r121 S121 hS121 n121_0 n121_1 n121_2 => ?_)
        refine ⟨by omega, by omega, ?_⟩
        intro q94
        have e95 : S121.2 76 (a1) = S103.2 76 (a1) := congrFun (hS121.2 76 (by decide)) _
        have e96 : S103.2 76 (a1) = S97.2 76 (a1) := congrFun (hS103.2 76 (by decide)) _
        have e97 : S97.2 76 (a1) = S91.2 76 (a1) := congrFun (hS97.2 76 (by decide)) _
        have e98 : S91.2 76 (a1) = S80.2 76 (a1) := congrFun (hS91.2 76 (by decide)) _
        have e99 : S80.2 76 (a1) = S63.2 76 (a1) := congrFun (hS80.2 76 (by decide)) _
        have e100 : S63.2 76 (a1) = S58.2 76 (a1) := congrFun (hS63.2 76 (by decide)) _
        have e101 : S58.2 76 (a1) = S23.2 76 (a1) := congrFun (hS58.2 76 (by decide)) _
        have e102 : S23.2 76 (a1) = S11.2 76 (a1) := congrFun (hS23.2 76 (by decide)) _
        have e103 : S11.2 76 (a1) = S.2 76 (a1) := congrFun (hS11.2 76 (by decide)) _
        refine tX11_putNumber (by omega) (fun r131 S131 hS131 n131_0 n131_1 => ?_)
        refine tX11_put  (fun r137 S137 hS137 n137_0 n137_1 => ?_)
        unfold wX11_begin_140
        have e104 : S137.1 54 25 = S131.1 54 25 := hS137.1 25 (by decide)
        have e105 : S131.1 54 25 = S121.1 54 25 := hS131.1 25 (by decide)
        have e106 : S121.1 54 25 = S103.1 54 25 := hS121.1 25 (by decide)
        have e107 : S103.1 54 25 = S97.1 54 25 := hS103.1 25 (by decide)
        have e108 : S97.1 54 25 = S91.1 54 25 := hS97.1 25 (by decide)
        have e109 : S91.1 54 25 = S80.1 54 25 := hS91.1 25 (by decide)
        have e110 : S80.1 54 25 = S63.1 54 25 := hS80.1 25 (by decide)
        have e111 : S63.1 54 25 = S58.1 54 25 := hS63.1 25 (by decide)
        have e112 : S58.1 54 25 = S23.1 54 25 := hS58.1 25 (by decide)
        have e113 : S23.1 54 25 = S11.1 54 25 := hS23.1 25 (by decide)
        have e114 : S137.1 54 30 = S131.1 54 30 := hS137.1 30 (by decide)
        have e115 : S131.1 54 30 = S121.1 54 30 := hS131.1 30 (by decide)
        have e116 : S121.1 54 30 = S103.1 54 30 := hS121.1 30 (by decide)
        have e117 : S103.1 54 30 = S97.1 54 30 := hS103.1 30 (by decide)
        have e118 : S97.1 54 30 = S91.1 54 30 := hS97.1 30 (by decide)
        have e119 : S91.1 54 30 = S80.1 54 30 := hS91.1 30 (by decide)
        have e120 : S80.1 54 30 = S63.1 54 30 := hS80.1 30 (by decide)
        have e121 : S63.1 54 30 = S58.1 54 30 := hS63.1 30 (by decide)
        have e122 : S58.1 54 30 = S23.1 54 30 := hS58.1 30 (by decide)
        have e123 : S137.2 75 a1 = S131.2 75 a1 := congrFun (hS137.2 75 (by decide)) _
        have e124 : S131.2 75 a1 = S121.2 75 a1 := congrFun (hS131.2 75 (by decide)) _
        have e125 : S121.2 75 a1 = S103.2 75 a1 := congrFun (hS121.2 75 (by decide)) _
        have e126 : S103.2 75 a1 = S97.2 75 a1 := congrFun (hS103.2 75 (by decide)) _
        have e127 : S97.2 75 a1 = S91.2 75 a1 := congrFun (hS97.2 75 (by decide)) _
        have e128 : S91.2 75 a1 = S80.2 75 a1 := congrFun (hS91.2 75 (by decide)) _
        have e129 : S80.2 75 a1 = S63.2 75 a1 := congrFun (hS80.2 75 (by decide)) _
        have e130 : S63.2 75 a1 = S58.2 75 a1 := congrFun (hS63.2 75 (by decide)) _
        have e131 : S58.2 75 a1 = S23.2 75 a1 := congrFun (hS58.2 75 (by decide)) _
        have e132 : S23.2 75 a1 = S11.2 75 a1 := congrFun (hS23.2 75 (by decide)) _
        have e133 : S11.2 75 a1 = S.2 75 a1 := congrFun (hS11.2 75 (by decide)) _
        exact tX11_begin_143 g1 g2 g3 g4 g5 p1 p2 p3 p4 p5 p6 p7 p8 p9 p10 p11 p12 p13 p14 (Ch.wk (Ch.tr (Ch.tr (Ch.tr (Ch.tr (Ch.tr (Ch.tr (Ch.tr (Ch.tr (Ch.tr (Ch.tr hS11 hS23) hS58) hS63) hS80) hS91) hS97) hS103) hS121) hS131) hS137) (by decide) (by decide)) (by omega) (by omega) (by omega) (by omega) (by omega) (by omega) (by omega) (PW.mv n11_2 (((Ch.tr (Ch.tr (Ch.tr (Ch.tr (Ch.tr (Ch.tr (Ch.tr (Ch.tr (Ch.tr hS23 hS58) hS63) hS80) hS91) hS97) hS103) hS121) hS131) hS137)).1 25 (by decide)) (((Ch.tr (Ch.tr (Ch.tr (Ch.tr (Ch.tr (Ch.tr (Ch.tr (Ch.tr (Ch.tr hS23 hS58) hS63) hS80) hS91) hS97) hS103) hS121) hS131) hS137)).2 72 (by decide))) (by
              unfold BW
              intro x
              have e134 : S137.2 75 x = S131.2 75 x := congrFun (hS137.2 75 (by decide)) _
              have e135 : S131.2 75 x = S121.2 75 x := congrFun (hS131.2 75 (by decide)) _
              have e136 : S121.2 75 x = S103.2 75 x := congrFun (hS121.2 75 (by decide)) _
              have e137 : S103.2 75 x = S97.2 75 x := congrFun (hS103.2 75 (by decide)) _
              have e138 : S97.2 75 x = S91.2 75 x := congrFun (hS97.2 75 (by decide)) _
              have e139 : S91.2 75 x = S80.2 75 x := congrFun (hS91.2 75 (by decide)) _
              have e140 : S80.2 75 x = S63.2 75 x := congrFun (hS80.2 75 (by decide)) _
              have e141 : S63.2 75 x = S58.2 75 x := congrFun (hS63.2 75 (by decide)) _
              have e142 : S58.2 75 x = S23.2 75 x := congrFun (hS58.2 75 (by decide)) _
              have e143 : S23.2 75 x = S11.2 75 x := congrFun (hS23.2 75 (by decide)) _
              have e144 : S11.2 75 x = S.2 75 x := congrFun (hS11.2 75 (by decide)) _
              have e145 := p11 x
              omega) (by omega) (by omega) (by omega) (by omega) (by omega) hK
  · refine ⟨by omega, by omega, ?_⟩
    refine ⟨by omega, ?_⟩
    intro S44 hS44e
    have hS44 : Ch [] [75] S23 S44 := Ch_A hS44e
    have hS44v : ∀ x, (x = a1 ∧ S44.2 75 x = r11) ∨ (¬ x = a1 ∧ S44.2 75 x = S23.2 75 x) := pA_at hS44e
    intro q146
    have e147 : S44.1 54 30 = S23.1 54 30 := hS44.1 30 (by decide)
    refine ⟨by omega, by omega, ?_⟩
    intro S54 hS54e
    have hS54 : Ch [] [76] S44 S54 := Ch_A hS54e
    have hS54v : ∀ x, (x = a1 ∧ S54.2 76 x = S44.1 54 30) ∨ (¬ x = a1 ∧ S54.2 76 x = S44.2 76 x) := pA_at hS54e
    unfold wX11_begin_55
    have e148 : S54.1 54 39 = S44.1 54 39 := hS54.1 39 (by decide)
    have e149 : S44.1 54 39 = S23.1 54 39 := hS44.1 39 (by decide)
    have e150 : S23.1 54 39 = S11.1 54 39 := hS23.1 39 (by decide)
    have e151 : S11.1 54 39 = S.1 54 39 := hS11.1 39 (by decide)
    refine tX11_put  (fun r58 S58 hS58 n58_0 n58_1 => ?_)
    refine ⟨by omega, ?_⟩
    have e152 : S58.2 57 (a3) = S54.2 57 (a3) := congrFun (hS58.2 57 (by decide)) _
    have e153 : S54.2 57 (a3) = S44.2 57 (a3) := congrFun (hS54.2 57 (by decide)) _
    have e154 : S44.2 57 (a3) = S23.2 57 (a3) := congrFun (hS44.2 57 (by decide)) _
    have e155 : S23.2 57 (a3) = S11.2 57 (a3) := congrFun (hS23.2 57 (by decide)) _
    have e156 : S11.2 57 (a3) = S.2 57 (a3) := congrFun (hS11.2 57 (by decide)) _
    refine tX11_putName (by omega) (by omega) (fun r63 S63 hS63 n63_0 n63_1 n63_2 => ?_)
    refine ⟨by omega, ?_⟩
    refine ⟨fun h68 => ?_, fun h68 => ?_⟩
    · unfold wX11_begin_106
      refine ⟨by omega, ?_⟩
      refine ⟨fun h109 => ?_, fun h109 => ?_⟩
      · unfold wX11_begin_140
        have e157 : S63.1 54 25 = S58.1 54 25 := hS63.1 25 (by decide)
        have e158 : S58.1 54 25 = S54.1 54 25 := hS58.1 25 (by decide)
        have e159 : S54.1 54 25 = S44.1 54 25 := hS54.1 25 (by decide)
        have e160 : S44.1 54 25 = S23.1 54 25 := hS44.1 25 (by decide)
        have e161 : S23.1 54 25 = S11.1 54 25 := hS23.1 25 (by decide)
        have e162 : S63.1 54 30 = S58.1 54 30 := hS63.1 30 (by decide)
        have e163 : S58.1 54 30 = S54.1 54 30 := hS58.1 30 (by decide)
        have e164 : S54.1 54 30 = S44.1 54 30 := hS54.1 30 (by decide)
        have e165 : S44.1 54 30 = S23.1 54 30 := hS44.1 30 (by decide)
        have e166 : S63.2 75 a1 = S58.2 75 a1 := congrFun (hS63.2 75 (by decide)) _
        have e167 : S58.2 75 a1 = S54.2 75 a1 := congrFun (hS58.2 75 (by decide)) _
        have e168 : S54.2 75 a1 = S44.2 75 a1 := congrFun (hS54.2 75 (by decide)) _
        have e169 : S44.2 75 a1 = (r11) := by have q := hS44v a1; omega
        have e170 : S23.2 75 a1 = S11.2 75 a1 := congrFun (hS23.2 75 (by decide)) _
        have e171 : S11.2 75 a1 = S.2 75 a1 := congrFun (hS11.2 75 (by decide)) _
        exact tX11_begin_143 g1 g2 g3 g4 g5 p1 p2 p3 p4 p5 p6 p7 p8 p9 p10 p11 p12 p13 p14 (Ch.wk (Ch.tr (Ch.tr (Ch.tr (Ch.tr (Ch.tr hS11 hS23) hS44) hS54) hS58) hS63) (by decide) (by decide)) (by omega) (by omega) (by omega) (by omega) (by omega) (by omega) (by omega) (PW.mv n11_2 (((Ch.tr (Ch.tr (Ch.tr (Ch.tr hS23 hS44) hS54) hS58) hS63)).1 25 (by decide)) (((Ch.tr (Ch.tr (Ch.tr (Ch.tr hS23 hS44) hS54) hS58) hS63)).2 72 (by decide))) (by
              unfold BW
              intro x
              have e172 : S63.2 75 x = S58.2 75 x := congrFun (hS63.2 75 (by decide)) _
              have e173 : S58.2 75 x = S54.2 75 x := congrFun (hS58.2 75 (by decide)) _
              have e174 : S54.2 75 x = S44.2 75 x := congrFun (hS54.2 75 (by decide)) _
              have e175 := hS44v x
              have e176 : S23.2 75 x = S11.2 75 x := congrFun (hS23.2 75 (by decide)) _
              have e177 : S11.2 75 x = S.2 75 x := congrFun (hS11.2 75 (by decide)) _
              have e178 := p11 x
              omega) (by omega) (by omega) (by omega) (by omega) (by omega) hK
      · refine tX11_putAttribute (by omega) (fun r121 S121 hS121 n121_0 n121_1 n121_2 => ?_)
        refine ⟨by omega, by omega, ?_⟩
        intro q179
        have e180 : S121.2 76 (a1) = S63.2 76 (a1) := congrFun (hS121.2 76 (by decide)) _
        have e181 : S63.2 76 (a1) = S58.2 76 (a1) := congrFun (hS63.2 76 (by decide)) _
        have e182 : S58.2 76 (a1) = S54.2 76 (a1) := congrFun (hS58.2 76 (by decide)) _
        have e183 : S54.2 76 (a1) = (S44.1 54 30) := by have q := hS54v (a1); omega
        have e184 : S44.2 76 (a1) = S23.2 76 (a1) := congrFun (hS44.2 76 (by decide)) _
        have e185 : S23.2 76 (a1) = S11.2 76 (a1) := congrFun (hS23.2 76 (by decide)) _
        have e186 : S11.2 76 (a1) = S.2 76 (a1) := congrFun (hS11.2 76 (by decide)) _
        refine tX11_putNumber (by omega) (fun r131 S131 hS131 n131_0 n131_1 => ?_)
        refine tX11_put  (fun r137 S137 hS137 n137_0 n137_1 => ?_)
        unfold wX11_begin_140
        have e187 : S137.1 54 25 = S131.1 54 25 := hS137.1 25 (by decide)
        have e188 : S131.1 54 25 = S121.1 54 25 := hS131.1 25 (by decide)
        have e189 : S121.1 54 25 = S63.1 54 25 := hS121.1 25 (by decide)
        have e190 : S63.1 54 25 = S58.1 54 25 := hS63.1 25 (by decide)
        have e191 : S58.1 54 25 = S54.1 54 25 := hS58.1 25 (by decide)
        have e192 : S54.1 54 25 = S44.1 54 25 := hS54.1 25 (by decide)
        have e193 : S44.1 54 25 = S23.1 54 25 := hS44.1 25 (by decide)
        have e194 : S23.1 54 25 = S11.1 54 25 := hS23.1 25 (by decide)
        have e195 : S137.1 54 30 = S131.1 54 30 := hS137.1 30 (by decide)
        have e196 : S131.1 54 30 = S121.1 54 30 := hS131.1 30 (by decide)
        have e197 : S121.1 54 30 = S63.1 54 30 := hS121.1 30 (by decide)
        have e198 : S63.1 54 30 = S58.1 54 30 := hS63.1 30 (by decide)
        have e199 : S58.1 54 30 = S54.1 54 30 := hS58.1 30 (by decide)
        have e200 : S54.1 54 30 = S44.1 54 30 := hS54.1 30 (by decide)
        have e201 : S44.1 54 30 = S23.1 54 30 := hS44.1 30 (by decide)
        have e202 : S137.2 75 a1 = S131.2 75 a1 := congrFun (hS137.2 75 (by decide)) _
        have e203 : S131.2 75 a1 = S121.2 75 a1 := congrFun (hS131.2 75 (by decide)) _
        have e204 : S121.2 75 a1 = S63.2 75 a1 := congrFun (hS121.2 75 (by decide)) _
        have e205 : S63.2 75 a1 = S58.2 75 a1 := congrFun (hS63.2 75 (by decide)) _
        have e206 : S58.2 75 a1 = S54.2 75 a1 := congrFun (hS58.2 75 (by decide)) _
        have e207 : S54.2 75 a1 = S44.2 75 a1 := congrFun (hS54.2 75 (by decide)) _
        have e208 : S44.2 75 a1 = (r11) := by have q := hS44v a1; omega
        have e209 : S23.2 75 a1 = S11.2 75 a1 := congrFun (hS23.2 75 (by decide)) _
        have e210 : S11.2 75 a1 = S.2 75 a1 := congrFun (hS11.2 75 (by decide)) _
        exact tX11_begin_143 g1 g2 g3 g4 g5 p1 p2 p3 p4 p5 p6 p7 p8 p9 p10 p11 p12 p13 p14 (Ch.wk (Ch.tr (Ch.tr (Ch.tr (Ch.tr (Ch.tr (Ch.tr (Ch.tr (Ch.tr hS11 hS23) hS44) hS54) hS58) hS63) hS121) hS131) hS137) (by decide) (by decide)) (by omega) (by omega) (by omega) (by omega) (by omega) (by omega) (by omega) (PW.mv n11_2 (((Ch.tr (Ch.tr (Ch.tr (Ch.tr (Ch.tr (Ch.tr (Ch.tr hS23 hS44) hS54) hS58) hS63) hS121) hS131) hS137)).1 25 (by decide)) (((Ch.tr (Ch.tr (Ch.tr (Ch.tr (Ch.tr (Ch.tr (Ch.tr hS23 hS44) hS54) hS58) hS63) hS121) hS131) hS137)).2 72 (by decide))) (by
              unfold BW
              intro x
              have e211 : S137.2 75 x = S131.2 75 x := congrFun (hS137.2 75 (by decide)) _
              have e212 : S131.2 75 x = S121.2 75 x := congrFun (hS131.2 75 (by decide)) _
              have e213 : S121.2 75 x = S63.2 75 x := congrFun (hS121.2 75 (by decide)) _
              have e214 : S63.2 75 x = S58.2 75 x := congrFun (hS63.2 75 (by decide)) _
              have e215 : S58.2 75 x = S54.2 75 x := congrFun (hS58.2 75 (by decide)) _
              have e216 : S54.2 75 x = S44.2 75 x := congrFun (hS54.2 75 (by decide)) _
              have e217 := hS44v x
              have e218 : S23.2 75 x = S11.2 75 x := congrFun (hS23.2 75 (by decide)) _
              have e219 : S11.2 75 x = S.2 75 x := congrFun (hS11.2 75 (by decide)) _
              have e220 := p11 x
              omega) (by omega) (by omega) (by omega) (by omega) (by omega) hK
    · refine tX11_putAttribute (by omega) (fun r80 S80 hS80 n80_0 n80_1 n80_2 => ?_)
      refine tX11_putWord (by omega) (fun r91 S91 hS91 n91_0 n91_1 n91_2 n91_3 => ?_)
      refine ⟨by omega, ?_⟩
      have e221 : S91.2 57 ((S.2 68 (a1))) = S80.2 57 ((S.2 68 (a1))) := congrFun (hS91.2 57 (by decide)) _
      have e222 : S80.2 57 ((S.2 68 (a1))) = S63.2 57 ((S.2 68 (a1))) := congrFun (hS80.2 57 (by decide)) _
      have e223 : S63.2 57 ((S.2 68 (a1))) = S58.2 57 ((S.2 68 (a1))) := congrFun (hS63.2 57 (by decide)) _
      have e224 : S58.2 57 ((S.2 68 (a1))) = S54.2 57 ((S.2 68 (a1))) := congrFun (hS58.2 57 (by decide)) _
      have e225 : S54.2 57 ((S.2 68 (a1))) = S44.2 57 ((S.2 68 (a1))) := congrFun (hS54.2 57 (by decide)) _
      have e226 : S44.2 57 ((S.2 68 (a1))) = S23.2 57 ((S.2 68 (a1))) := congrFun (hS44.2 57 (by decide)) _
      have e227 : S23.2 57 ((S.2 68 (a1))) = S11.2 57 ((S.2 68 (a1))) := congrFun (hS23.2 57 (by decide)) _
      have e228 : S11.2 57 ((S.2 68 (a1))) = S.2 57 ((S.2 68 (a1))) := congrFun (hS11.2 57 (by decide)) _
      refine tX11_putName (by omega) (by omega) (fun r97 S97 hS97 n97_0 n97_1 n97_2 => ?_)
      refine tX11_put  (fun r103 S103 hS103 n103_0 n103_1 => ?_)
      unfold wX11_begin_106
      refine ⟨by omega, ?_⟩
      refine ⟨fun h109 => ?_, fun h109 => ?_⟩
      · unfold wX11_begin_140
        have e229 : S103.1 54 25 = S97.1 54 25 := hS103.1 25 (by decide)
        have e230 : S97.1 54 25 = S91.1 54 25 := hS97.1 25 (by decide)
        have e231 : S91.1 54 25 = S80.1 54 25 := hS91.1 25 (by decide)
        have e232 : S80.1 54 25 = S63.1 54 25 := hS80.1 25 (by decide)
        have e233 : S63.1 54 25 = S58.1 54 25 := hS63.1 25 (by decide)
        have e234 : S58.1 54 25 = S54.1 54 25 := hS58.1 25 (by decide)
        have e235 : S54.1 54 25 = S44.1 54 25 := hS54.1 25 (by decide)
        have e236 : S44.1 54 25 = S23.1 54 25 := hS44.1 25 (by decide)
        have e237 : S23.1 54 25 = S11.1 54 25 := hS23.1 25 (by decide)
        have e238 : S103.1 54 30 = S97.1 54 30 := hS103.1 30 (by decide)
        have e239 : S97.1 54 30 = S91.1 54 30 := hS97.1 30 (by decide)
        have e240 : S91.1 54 30 = S80.1 54 30 := hS91.1 30 (by decide)
        have e241 : S80.1 54 30 = S63.1 54 30 := hS80.1 30 (by decide)
        have e242 : S63.1 54 30 = S58.1 54 30 := hS63.1 30 (by decide)
        have e243 : S58.1 54 30 = S54.1 54 30 := hS58.1 30 (by decide)
        have e244 : S54.1 54 30 = S44.1 54 30 := hS54.1 30 (by decide)
        have e245 : S44.1 54 30 = S23.1 54 30 := hS44.1 30 (by decide)
        have e246 : S103.2 75 a1 = S97.2 75 a1 := congrFun (hS103.2 75 (by decide)) _
        have e247 : S97.2 75 a1 = S91.2 75 a1 := congrFun (hS97.2 75 (by decide)) _
        have e248 : S91.2 75 a1 = S80.2 75 a1 := congrFun (hS91.2 75 (by decide)) _
        have e249 : S80.2 75 a1 = S63.2 75 a1 := congrFun (hS80.2 75 (by decide)) _
        have e250 : S63.2 75 a1 = S58.2 75 a1 := congrFun (hS63.2 75 (by decide)) _
        have e251 : S58.2 75 a1 = S54.2 75 a1 := congrFun (hS58.2 75 (by decide)) _
        have e252 : S54.2 75 a1 = S44.2 75 a1 := congrFun (hS54.2 75 (by decide)) _
        have e253 : S44.2 75 a1 = (r11) := by have q := hS44v a1; omega
        have e254 : S23.2 75 a1 = S11.2 75 a1 := congrFun (hS23.2 75 (by decide)) _
        have e255 : S11.2 75 a1 = S.2 75 a1 := congrFun (hS11.2 75 (by decide)) _
        exact tX11_begin_143 g1 g2 g3 g4 g5 p1 p2 p3 p4 p5 p6 p7 p8 p9 p10 p11 p12 p13 p14 (Ch.wk (Ch.tr (Ch.tr (Ch.tr (Ch.tr (Ch.tr (Ch.tr (Ch.tr (Ch.tr (Ch.tr hS11 hS23) hS44) hS54) hS58) hS63) hS80) hS91) hS97) hS103) (by decide) (by decide)) (by omega) (by omega) (by omega) (by omega) (by omega) (by omega) (by omega) (PW.mv n11_2 (((Ch.tr (Ch.tr (Ch.tr (Ch.tr (Ch.tr (Ch.tr (Ch.tr (Ch.tr hS23 hS44) hS54) hS58) hS63) hS80) hS91) hS97) hS103)).1 25 (by decide)) (((Ch.tr (Ch.tr (Ch.tr (Ch.tr (Ch.tr (Ch.tr (Ch.tr (Ch.tr hS23 hS44) hS54) hS58) hS63) hS80) hS91) hS97) hS103)).2 72 (by decide))) (by
              unfold BW
              intro x
              have e256 : S103.2 75 x = S97.2 75 x := congrFun (hS103.2 75 (by decide)) _
              have e257 : S97.2 75 x = S91.2 75 x := congrFun (hS97.2 75 (by decide)) _
              have e258 : S91.2 75 x = S80.2 75 x := congrFun (hS91.2 75 (by decide)) _
              have e259 : S80.2 75 x = S63.2 75 x := congrFun (hS80.2 75 (by decide)) _
              have e260 : S63.2 75 x = S58.2 75 x := congrFun (hS63.2 75 (by decide)) _
              have e261 : S58.2 75 x = S54.2 75 x := congrFun (hS58.2 75 (by decide)) _
              have e262 : S54.2 75 x = S44.2 75 x := congrFun (hS54.2 75 (by decide)) _
              have e263 := hS44v x
              have e264 : S23.2 75 x = S11.2 75 x := congrFun (hS23.2 75 (by decide)) _
              have e265 : S11.2 75 x = S.2 75 x := congrFun (hS11.2 75 (by decide)) _
              have e266 := p11 x
              omega) (by omega) (by omega) (by omega) (by omega) (by omega) hK
      · refine tX11_putAttribute (by omega) (fun r121 S121 hS121 n121_0 n121_1 n121_2 => ?_)
        refine ⟨by omega, by omega, ?_⟩
        intro q267
        have e268 : S121.2 76 (a1) = S103.2 76 (a1) := congrFun (hS121.2 76 (by decide)) _
        have e269 : S103.2 76 (a1) = S97.2 76 (a1) := congrFun (hS103.2 76 (by decide)) _
        have e270 : S97.2 76 (a1) = S91.2 76 (a1) := congrFun (hS97.2 76 (by decide)) _
        have e271 : S91.2 76 (a1) = S80.2 76 (a1) := congrFun (hS91.2 76 (by decide)) _
        have e272 : S80.2 76 (a1) = S63.2 76 (a1) := congrFun (hS80.2 76 (by decide)) _
        have e273 : S63.2 76 (a1) = S58.2 76 (a1) := congrFun (hS63.2 76 (by decide)) _
        have e274 : S58.2 76 (a1) = S54.2 76 (a1) := congrFun (hS58.2 76 (by decide)) _
        have e275 : S54.2 76 (a1) = (S44.1 54 30) := by have q := hS54v (a1); omega
        have e276 : S44.2 76 (a1) = S23.2 76 (a1) := congrFun (hS44.2 76 (by decide)) _
        have e277 : S23.2 76 (a1) = S11.2 76 (a1) := congrFun (hS23.2 76 (by decide)) _
        have e278 : S11.2 76 (a1) = S.2 76 (a1) := congrFun (hS11.2 76 (by decide)) _
        refine tX11_putNumber (by omega) (fun r131 S131 hS131 n131_0 n131_1 => ?_)
        refine tX11_put  (fun r137 S137 hS137 n137_0 n137_1 => ?_)
        unfold wX11_begin_140
        have e279 : S137.1 54 25 = S131.1 54 25 := hS137.1 25 (by decide)
        have e280 : S131.1 54 25 = S121.1 54 25 := hS131.1 25 (by decide)
        have e281 : S121.1 54 25 = S103.1 54 25 := hS121.1 25 (by decide)
        have e282 : S103.1 54 25 = S97.1 54 25 := hS103.1 25 (by decide)
        have e283 : S97.1 54 25 = S91.1 54 25 := hS97.1 25 (by decide)
        have e284 : S91.1 54 25 = S80.1 54 25 := hS91.1 25 (by decide)
        have e285 : S80.1 54 25 = S63.1 54 25 := hS80.1 25 (by decide)
        have e286 : S63.1 54 25 = S58.1 54 25 := hS63.1 25 (by decide)
        have e287 : S58.1 54 25 = S54.1 54 25 := hS58.1 25 (by decide)
        have e288 : S54.1 54 25 = S44.1 54 25 := hS54.1 25 (by decide)
        have e289 : S44.1 54 25 = S23.1 54 25 := hS44.1 25 (by decide)
        have e290 : S23.1 54 25 = S11.1 54 25 := hS23.1 25 (by decide)
        have e291 : S137.1 54 30 = S131.1 54 30 := hS137.1 30 (by decide)
        have e292 : S131.1 54 30 = S121.1 54 30 := hS131.1 30 (by decide)
        have e293 : S121.1 54 30 = S103.1 54 30 := hS121.1 30 (by decide)
        have e294 : S103.1 54 30 = S97.1 54 30 := hS103.1 30 (by decide)
        have e295 : S97.1 54 30 = S91.1 54 30 := hS97.1 30 (by decide)
        have e296 : S91.1 54 30 = S80.1 54 30 := hS91.1 30 (by decide)
        have e297 : S80.1 54 30 = S63.1 54 30 := hS80.1 30 (by decide)
        have e298 : S63.1 54 30 = S58.1 54 30 := hS63.1 30 (by decide)
        have e299 : S58.1 54 30 = S54.1 54 30 := hS58.1 30 (by decide)
        have e300 : S54.1 54 30 = S44.1 54 30 := hS54.1 30 (by decide)
        have e301 : S44.1 54 30 = S23.1 54 30 := hS44.1 30 (by decide)
        have e302 : S137.2 75 a1 = S131.2 75 a1 := congrFun (hS137.2 75 (by decide)) _
        have e303 : S131.2 75 a1 = S121.2 75 a1 := congrFun (hS131.2 75 (by decide)) _
        have e304 : S121.2 75 a1 = S103.2 75 a1 := congrFun (hS121.2 75 (by decide)) _
        have e305 : S103.2 75 a1 = S97.2 75 a1 := congrFun (hS103.2 75 (by decide)) _
        have e306 : S97.2 75 a1 = S91.2 75 a1 := congrFun (hS97.2 75 (by decide)) _
        have e307 : S91.2 75 a1 = S80.2 75 a1 := congrFun (hS91.2 75 (by decide)) _
        have e308 : S80.2 75 a1 = S63.2 75 a1 := congrFun (hS80.2 75 (by decide)) _
        have e309 : S63.2 75 a1 = S58.2 75 a1 := congrFun (hS63.2 75 (by decide)) _
        have e310 : S58.2 75 a1 = S54.2 75 a1 := congrFun (hS58.2 75 (by decide)) _
        have e311 : S54.2 75 a1 = S44.2 75 a1 := congrFun (hS54.2 75 (by decide)) _
        have e312 : S44.2 75 a1 = (r11) := by have q := hS44v a1; omega
        have e313 : S23.2 75 a1 = S11.2 75 a1 := congrFun (hS23.2 75 (by decide)) _
        have e314 : S11.2 75 a1 = S.2 75 a1 := congrFun (hS11.2 75 (by decide)) _
        exact tX11_begin_143 g1 g2 g3 g4 g5 p1 p2 p3 p4 p5 p6 p7 p8 p9 p10 p11 p12 p13 p14 (Ch.wk (Ch.tr (Ch.tr (Ch.tr (Ch.tr (Ch.tr (Ch.tr (Ch.tr (Ch.tr (Ch.tr (Ch.tr (Ch.tr (Ch.tr hS11 hS23) hS44) hS54) hS58) hS63) hS80) hS91) hS97) hS103) hS121) hS131) hS137) (by decide) (by decide)) (by omega) (by omega) (by omega) (by omega) (by omega) (by omega) (by omega) (PW.mv n11_2 (((Ch.tr (Ch.tr (Ch.tr (Ch.tr (Ch.tr (Ch.tr (Ch.tr (Ch.tr (Ch.tr (Ch.tr (Ch.tr hS23 hS44) hS54) hS58) hS63) hS80) hS91) hS97) hS103) hS121) hS131) hS137)).1 25 (by decide)) (((Ch.tr (Ch.tr (Ch.tr (Ch.tr (Ch.tr (Ch.tr (Ch.tr (Ch.tr (Ch.tr (Ch.tr (Ch.tr hS23 hS44) hS54) hS58) hS63) hS80) hS91) hS97) hS103) hS121) hS131) hS137)).2 72 (by decide))) (by
              unfold BW
              intro x
              have e315 : S137.2 75 x = S131.2 75 x := congrFun (hS137.2 75 (by decide)) _
              have e316 : S131.2 75 x = S121.2 75 x := congrFun (hS131.2 75 (by decide)) _
              have e317 : S121.2 75 x = S103.2 75 x := congrFun (hS121.2 75 (by decide)) _
              have e318 : S103.2 75 x = S97.2 75 x := congrFun (hS103.2 75 (by decide)) _
              have e319 : S97.2 75 x = S91.2 75 x := congrFun (hS97.2 75 (by decide)) _
              have e320 : S91.2 75 x = S80.2 75 x := congrFun (hS91.2 75 (by decide)) _
              have e321 : S80.2 75 x = S63.2 75 x := congrFun (hS80.2 75 (by decide)) _
              have e322 : S63.2 75 x = S58.2 75 x := congrFun (hS63.2 75 (by decide)) _
              have e323 : S58.2 75 x = S54.2 75 x := congrFun (hS58.2 75 (by decide)) _
              have e324 : S54.2 75 x = S44.2 75 x := congrFun (hS54.2 75 (by decide)) _
              have e325 := hS44v x
              have e326 : S23.2 75 x = S11.2 75 x := congrFun (hS23.2 75 (by decide)) _
              have e327 : S11.2 75 x = S.2 75 x := congrFun (hS11.2 75 (by decide)) _
              have e328 := p11 x
              omega) (by omega) (by omega) (by omega) (by omega) (by omega) hK
