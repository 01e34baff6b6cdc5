/-! THE FRESH WORLD: the class's cells, the model's behind them -/
def wX (G : xG) : List va_E := .inr (10, [.ref (G.1 + 1), .ref (G.1 + 3), .ref (G.1 + 20), .ref (G.1 + 22), .ref (G.1 + 24), .ref (G.1 + 33), .ref (G.1 + 42), .ref (G.1 + 46), .ref (G.1 + 50), .int 10]) :: .inr (5, [.ref (G.1 + 2), .int 0, .int 0]) :: .inl (G.2.2.1 1, 64, .inl (fun _ => 0)) :: .inr (6, [.ref (G.1 + 4), .ref (G.1 + 4), .ref (G.1 + 6), .ref (G.1 + 7), .ref (G.1 + 8), .ref (G.1 + 9), .ref (G.1 + 10), .ref (G.1 + 11), .ref (G.1 + 12), .ref (G.1 + 13), .ref (G.1 + 14), .ref (G.1 + 15), .ref (G.1 + 16), .ref (G.1 + 17), .ref (G.1 + 18), .ref (G.1 + 19), .int 0, .int 0]) :: .inr (5, [.ref (G.1 + 5), .int 0, .int 0]) :: .inl (G.2.2.1 1, 64, .inl (fun _ => 0)) :: .inl (G.2.2.1 0, 200, .inl (fun _ => 0)) :: .inl (G.2.2.1 0, 200, .inl (fun _ => 0)) :: .inl (G.2.2.1 0, 200, .inl (fun _ => 0)) :: .inl (G.2.2.1 0, 200, .inl (fun _ => 0)) :: .inl (G.2.2.1 0, 200, .inl (fun _ => 0)) :: .inl (G.2.2.1 0, 200, .inl (fun _ => 0)) :: .inl (G.2.2.1 0, 200, .inl (fun _ => 0)) :: .inl (G.2.2.1 0, 200, .inl (fun _ => 0)) :: .inl (G.2.2.1 0, 200, .inl (fun _ => 0)) :: .inl (G.2.2.1 2, 200, .inl (fun _ => 0)) :: .inl (G.2.2.1 0, 600, .inl (fun _ => 0)) :: .inl (G.2.2.1 0, 600, .inl (fun _ => 0)) :: .inl (G.2.2.1 0, 600, .inl (fun _ => 0)) :: .inl (G.2.2.1 0, 600, .inl (fun _ => 0)) :: .inr (5, [.ref (G.1 + 21), .int 0, .int 0]) :: .inl (G.2.2.1 1, 64, .inl (fun _ => 0)) :: .inr (5, [.ref (G.1 + 23), .int 0, .int 0]) :: .inl (G.2.2.1 1, 64, .inl (fun _ => 0)) :: .inr (4, [.ref (G.1 + 25), .ref (G.1 + 26), .ref (G.1 + 27), .ref (G.1 + 28), .ref (G.1 + 29), .ref (G.1 + 30), .ref (G.1 + 31), .ref (G.1 + 32), .int 0]) :: .inl (G.2.2.1 1, 480, .inl (fun _ => 0)) :: .inl (G.2.2.1 0, 30, .inl (fun _ => 0)) :: .inl (G.2.2.1 0, 24, .inl (fun _ => 0)) :: .inl (G.2.2.1 2, 24, .inl (fun _ => 0)) :: .inl (G.2.2.1 0, 6, .inl (fun _ => 0)) :: .inl (G.2.2.1 0, 6, .inl (fun _ => 0)) :: .inl (G.2.2.1 0, 6, .inl (fun _ => 0)) :: .inl (G.2.2.1 2, 6, .inl (fun _ => 0)) :: .inr (4, [.ref (G.1 + 34), .ref (G.1 + 35), .ref (G.1 + 36), .ref (G.1 + 37), .ref (G.1 + 38), .ref (G.1 + 39), .ref (G.1 + 40), .ref (G.1 + 41), .int 0]) :: .inl (G.2.2.1 1, 480, .inl (fun _ => 0)) :: .inl (G.2.2.1 0, 30, .inl (fun _ => 0)) :: .inl (G.2.2.1 0, 24, .inl (fun _ => 0)) :: .inl (G.2.2.1 2, 24, .inl (fun _ => 0)) :: .inl (G.2.2.1 0, 6, .inl (fun _ => 0)) :: .inl (G.2.2.1 0, 6, .inl (fun _ => 0)) :: .inl (G.2.2.1 0, 6, .inl (fun _ => 0)) :: .inl (G.2.2.1 2, 6, .inl (fun _ => 0)) :: .inr (1, [.ref (G.1 + 43), .ref (G.1 + 44), .ref (G.1 + 45), .int 0]) :: .inl (G.2.2.1 0, 30, .inl (fun _ => 0)) :: .inl (G.2.2.1 0, 120, .inl (fun _ => 0)) :: .inl (G.2.2.1 0, 2400, .inl (fun _ => 0)) :: .inr (1, [.ref (G.1 + 47), .ref (G.1 + 48), .ref (G.1 + 49), .int 0]) :: .inl (G.2.2.1 0, 30, .inl (fun _ => 0)) :: .inl (G.2.2.1 0, 120, .inl (fun _ => 0)) :: .inl (G.2.2.1 0, 2400, .inl (fun _ => 0)) :: .inr (1, [.ref (G.1 + 51), .ref (G.1 + 52), .ref (G.1 + 53), .int 0]) :: .inl (G.2.2.1 0, 30, .inl (fun _ => 0)) :: .inl (G.2.2.1 0, 120, .inl (fun _ => 0)) :: .inl (G.2.2.1 0, 2400, .inl (fun _ => 0)) :: []
def wM (G : xG) : List va_E := .inr (11, (.int 0 :: .ref (G.1 + 55) :: .int 0 :: .ref (G.1 + 56) :: .ref (G.1 + 57) :: .ref (G.1 + 58) :: .ref (G.1 + 59) :: .ref (G.1 + 60) :: .ref (G.1 + 61) :: .ref (G.1 + 62) :: .ref (G.1 + 63) :: .ref (G.1 + 64) :: .ref (G.1 + 65) :: .ref (G.1 + 66) :: .ref (G.1 + 67) :: .ref (G.1 + 68) :: .ref (G.1 + 69) :: .ref (G.1 + 70) :: .int 0 :: .int 10 :: .int 0 :: .ref (G.1 + 71) :: .int 0 :: .int 0 :: .int 0 :: .int 0 :: .ref (G.1 + 72) :: .ref (G.1 + 73) :: .ref (G.1 + 74) :: .ref (G.1 + 75) :: .int 0 :: .ref (G.1 + 76) :: .int 0 :: .ref (G.1 + 77) :: .ref (G.1 + 78) :: .ref (G.1 + 79) :: .ref (G.1 + 80) :: .ref (G.1 + 81) :: .ref (G.1 + 82) :: .int 0 :: .ref (G.1 + 83) :: .int 0 :: .ref (G.1 + 84) :: .int 0 :: .ref (G.1 + 85) :: .ref (G.1 + 86) :: .ref (G.1 + 87) :: .ref (G.1 + 88) :: .ref (G.1 + 89) :: .ref (G.1 + 90) :: .ref (G.1 + 91) :: .int 0 :: .ref (G.1 + 92) :: .ref (G.1 + 93) :: .ref (G.1 + 94) :: .ref (G.1 + 95) :: .int 0 :: .ref (G.1 + 96) :: .ref (G.1 + 97) :: .int 0 :: .int 0 :: .ref (G.1 + 98) :: .ref (G.1 + 99) :: .ref (G.1 + 100) :: .ref (G.1 + 101) :: .ref (G.1 + 102) :: .ref (G.1 + 103) :: .int 0 :: .ref (G.1 + 104) :: .ref (G.1 + 105) :: .ref (G.1 + 106) :: .int 0 :: [])) :: .inl (G.2.2.1 0, 3000, .inl (fun _ => 0)) :: .inl (G.2.2.1 0, 6, .inl (fun _ => 0)) :: .inl (G.2.2.1 0, 30, .inl (fun _ => 0)) :: .inl (G.2.2.1 0, 240, .inl (fun _ => 0)) :: .inl (G.2.2.1 0, 24, .inl (fun _ => 0)) :: .inl (G.2.2.1 2, 24, .inl (fun _ => 0)) :: .inl (G.2.2.1 2, 6, .inl (fun _ => 0)) :: .inl (G.2.2.1 0, 6, .inl (fun _ => 0)) :: .inl (G.2.2.1 0, 30, .inl (fun _ => 0)) :: .inl (G.2.2.1 0, 240, .inl (fun _ => 0)) :: .inl (G.2.2.1 0, 24, .inl (fun _ => 0)) :: .inl (G.2.2.1 2, 24, .inl (fun _ => 0)) :: .inl (G.2.2.1 0, 3, .inl (fun _ => 0)) :: .inl (G.2.2.1 0, 90, .inl (fun _ => 0)) :: .inl (G.2.2.1 0, 360, .inl (fun _ => 0)) :: .inl (G.2.2.1 0, 7200, .inl (fun _ => 0)) :: .inl (G.2.2.1 0, 3000, .inl (fun _ => 0)) :: .inl (G.2.2.1 0, 900, .inl (fun _ => 0)) :: .inl (G.2.2.1 0, 900, .inl (fun _ => 0)) :: .inl (G.2.2.1 0, 900, .inl (fun _ => 0)) :: .inl (G.2.2.1 0, 30, .inl (fun _ => 0)) :: .inl (G.2.2.1 0, 30, .inl (fun _ => 0)) :: .inl (G.2.2.1 0, 24, .inl (fun _ => 0)) :: .inl (G.2.2.1 0, 24, .inl (fun _ => 0)) :: .inl (G.2.2.1 0, 24, .inl (fun _ => 0)) :: .inl (G.2.2.1 0, 24, .inl (fun _ => 0)) :: .inl (G.2.2.1 0, 24, .inl (fun _ => 0)) :: .inl (G.2.2.1 0, 24, .inl (fun _ => 0)) :: .inl (G.2.2.1 0, 3001, .inl (fun _ => 0)) :: .inl (G.2.2.1 0, 3000, .inl (fun _ => 0)) :: .inl (G.2.2.1 0, 200, .inl (fun _ => 0)) :: .inl (G.2.2.1 0, 200, .inl (fun _ => 0)) :: .inl (G.2.2.1 0, 200, .inl (fun _ => 0)) :: .inl (G.2.2.1 0, 200, .inl (fun _ => 0)) :: .inl (G.2.2.1 0, 200, .inl (fun _ => 0)) :: .inl (G.2.2.1 0, 200, .inl (fun _ => 0)) :: .inl (G.2.2.1 0, 200, .inl (fun _ => 0)) :: .inl (G.2.2.1 0, 600, .inl (fun _ => 0)) :: .inl (G.2.2.1 0, 600, .inl (fun _ => 0)) :: .inl (G.2.2.1 0, 600, .inl (fun _ => 0)) :: .inl (G.2.2.1 0, 600, .inl (fun _ => 0)) :: .inl (G.2.2.1 0, 3000, .inl (fun _ => 0)) :: .inl (G.2.2.1 0, 3000, .inl (fun _ => 0)) :: .inl (G.2.2.1 0, 200, .inl (fun _ => 0)) :: .inl (G.2.2.1 0, 200, .inl (fun _ => 0)) :: .inl (G.2.2.1 0, 200, .inl (fun _ => 0)) :: .inl (G.2.2.1 0, 200, .inl (fun _ => 0)) :: .inl (G.2.2.1 0, 200, .inl (fun _ => 0)) :: .inl (G.2.2.1 0, 120, .inl (fun _ => 0)) :: .inl (G.2.2.1 0, 3000, .inl (fun _ => 0)) :: .inl (G.2.2.1 0, 30, .inl (fun _ => 0)) :: .inl (G.2.2.1 0, 30, .inl (fun _ => 0)) :: []
def w0 (G : xG) : List va_E := wX G ++ wM G
theorem w0_len (G : xG) : (w0 G).length = 107 := rfl
theorem wX_len (G : xG) : (wX G).length = 54 := rfl
theorem w0_map (G : xG) : (w0 G).map xSzE = 10 :: 3 :: 64 :: 18 :: 3 :: 64 :: 200 :: 200 :: 200 :: 200 :: 200 :: 200 :: 200 :: 200 :: 200 :: 200 :: 600 :: 600 :: 600 :: 600 :: 3 :: 64 :: 3 :: 64 :: 9 :: 480 :: 30 :: 24 :: 24 :: 6 :: 6 :: 6 :: 6 :: 9 :: 480 :: 30 :: 24 :: 24 :: 6 :: 6 :: 6 :: 6 :: 4 :: 30 :: 120 :: 2400 :: 4 :: 30 :: 120 :: 2400 :: 4 :: 30 :: 120 :: 2400 :: 72 :: 3000 :: 6 :: 30 :: 240 :: 24 :: 24 :: 6 :: 6 :: 30 :: 240 :: 24 :: 24 :: 3 :: 90 :: 360 :: 7200 :: 3000 :: 900 :: 900 :: 900 :: 30 :: 30 :: 24 :: 24 :: 24 :: 24 :: 24 :: 24 :: 3001 :: 3000 :: 200 :: 200 :: 200 :: 200 :: 200 :: 200 :: 200 :: 600 :: 600 :: 600 :: 600 :: 3000 :: 3000 :: 200 :: 200 :: 200 :: 200 :: 200 :: 120 :: 3000 :: 30 :: 30 :: [] := rfl
theorem w0_Z (G : xG) : xZ (w0 G) = 50804 := by unfold xZ; rw [w0_map]; decide
theorem wX_map (G : xG) : (wX G).map xSzE = 10 :: 3 :: 64 :: 18 :: 3 :: 64 :: 200 :: 200 :: 200 :: 200 :: 200 :: 200 :: 200 :: 200 :: 200 :: 200 :: 600 :: 600 :: 600 :: 600 :: 3 :: 64 :: 3 :: 64 :: 9 :: 480 :: 30 :: 24 :: 24 :: 6 :: 6 :: 6 :: 6 :: 9 :: 480 :: 30 :: 24 :: 24 :: 6 :: 6 :: 6 :: 6 :: 4 :: 30 :: 120 :: 2400 :: 4 :: 30 :: 120 :: 2400 :: 4 :: 30 :: 120 :: 2400 :: [] := rfl
theorem wX_Z (G : xG) : xZ (wX G) = 13540 := by unfold xZ; rw [wX_map]; decide
def tau0 : Tau := fun a => match a with
  | 0 => some (.inl (10, 10))
  | 1 => some (.inl (5, 64))
  | 2 => some (.inl (101, 0))
  | 3 => some (.inl (6, 0))
  | 4 => some (.inl (5, 64))
  | 5 => some (.inl (104, 0))
  | 6 => some (.inr (0, 200, (-2147483648), 2147483647))
  | 7 => some (.inr (0, 200, (-2147483648), 2147483647))
  | 8 => some (.inr (0, 200, (-2147483648), 2147483647))
  | 9 => some (.inr (0, 200, (-1), 199))
  | 10 => some (.inr (0, 200, (-2147483648), 2147483647))
  | 11 => some (.inr (0, 200, 0, 600))
  | 12 => some (.inr (0, 200, 0, 601))
  | 13 => some (.inr (0, 200, (-2147483648), 2147483647))
  | 14 => some (.inr (0, 200, (-2147483648), 2147483647))
  | 15 => some (.inr (2, 200, 0, 1))
  | 16 => some (.inr (0, 600, (-2147483648), 2147483647))
  | 17 => some (.inr (0, 600, (-2147483648), 2147483647))
  | 18 => some (.inr (0, 600, (-2147483648), 2147483647))
  | 19 => some (.inr (0, 600, 0, 3000))
  | 20 => some (.inl (5, 64))
  | 21 => some (.inl (120, 0))
  | 22 => some (.inl (5, 64))
  | 23 => some (.inl (122, 0))
  | 24 => some (.inl (4, 0))
  | 25 => some (.inr (1, 480, 0, 65535))
  | 26 => some (.inr (0, 30, 0, 16))
  | 27 => some (.inr (0, 24, (-2147483648), 2147483649))
  | 28 => some (.inr (2, 24, 0, 1))
  | 29 => some (.inr (0, 6, 0, 4))
  | 30 => some (.inr (0, 6, (-2147483648), 2147483649))
  | 31 => some (.inr (0, 6, (-2147483648), 2147483649))
  | 32 => some (.inr (2, 6, 0, 1))
  | 33 => some (.inl (4, 0))
  | 34 => some (.inr (1, 480, 0, 65535))
  | 35 => some (.inr (0, 30, 0, 16))
  | 36 => some (.inr (0, 24, (-2147483648), 2147483649))
  | 37 => some (.inr (2, 24, 0, 1))
  | 38 => some (.inr (0, 6, 0, 4))
  | 39 => some (.inr (0, 6, (-2147483648), 2147483649))
  | 40 => some (.inr (0, 6, (-2147483648), 2147483649))
  | 41 => some (.inr (2, 6, 0, 1))
  | 42 => some (.inl (1, 0))
  | 43 => some (.inr (0, 30, (-2147483648), 2147483648))
  | 44 => some (.inr (0, 120, (-2147483648), 2147483648))
  | 45 => some (.inr (0, 2400, (-2147483648), 2147483648))
  | 46 => some (.inl (1, 0))
  | 47 => some (.inr (0, 30, (-2147483648), 2147483648))
  | 48 => some (.inr (0, 120, (-2147483648), 2147483648))
  | 49 => some (.inr (0, 2400, (-2147483648), 2147483648))
  | 50 => some (.inl (1, 0))
  | 51 => some (.inr (0, 30, (-2147483648), 2147483648))
  | 52 => some (.inr (0, 120, (-2147483648), 2147483648))
  | 53 => some (.inr (0, 2400, (-2147483648), 2147483648))
  | _ => none
theorem tau0_n : ∀ a, 54 ≤ a → tau0 a = none
  | k + 54, _ => rfl
  | 0, h => absurd h (by decide)
  | 1, h => absurd h (by decide)
  | 2, h => absurd h (by decide)
  | 3, h => absurd h (by decide)
  | 4, h => absurd h (by decide)
  | 5, h => absurd h (by decide)
  | 6, h => absurd h (by decide)
  | 7, h => absurd h (by decide)
  | 8, h => absurd h (by decide)
  | 9, h => absurd h (by decide)
  | 10, h => absurd h (by decide)
  | 11, h => absurd h (by decide)
  | 12, h => absurd h (by decide)
  | 13, h => absurd h (by decide)
  | 14, h => absurd h (by decide)
  | 15, h => absurd h (by decide)
  | 16, h => absurd h (by decide)
  | 17, h => absurd h (by decide)
  | 18, h => absurd h (by decide)
  | 19, h => absurd h (by decide)
  | 20, h => absurd h (by decide)
  | 21, h => absurd h (by decide)
  | 22, h => absurd h (by decide)
  | 23, h => absurd h (by decide)
  | 24, h => absurd h (by decide)
  | 25, h => absurd h (by decide)
  | 26, h => absurd h (by decide)
  | 27, h => absurd h (by decide)
  | 28, h => absurd h (by decide)
  | 29, h => absurd h (by decide)
  | 30, h => absurd h (by decide)
  | 31, h => absurd h (by decide)
  | 32, h => absurd h (by decide)
  | 33, h => absurd h (by decide)
  | 34, h => absurd h (by decide)
  | 35, h => absurd h (by decide)
  | 36, h => absurd h (by decide)
  | 37, h => absurd h (by decide)
  | 38, h => absurd h (by decide)
  | 39, h => absurd h (by decide)
  | 40, h => absurd h (by decide)
  | 41, h => absurd h (by decide)
  | 42, h => absurd h (by decide)
  | 43, h => absurd h (by decide)
  | 44, h => absurd h (by decide)
  | 45, h => absurd h (by decide)
  | 46, h => absurd h (by decide)
  | 47, h => absurd h (by decide)
  | 48, h => absurd h (by decide)
  | 49, h => absurd h (by decide)
  | 50, h => absurd h (by decide)
  | 51, h => absurd h (by decide)
  | 52, h => absurd h (by decide)
  | 53, h => absurd h (by decide)
theorem t0_c {P : Nat → Prop} (h0 : P 0) (h1 : P 1) (h2 : P 2) (h3 : P 3) (h4 : P 4) (h5 : P 5) (h6 : P 6) (h7 : P 7) (h8 : P 8) (h9 : P 9) (h10 : P 10) (h11 : P 11) (h12 : P 12) (h13 : P 13) (h14 : P 14) (h15 : P 15) (h16 : P 16) (h17 : P 17) (h18 : P 18) (h19 : P 19) (h20 : P 20) (h21 : P 21) (h22 : P 22) (h23 : P 23) (h24 : P 24) (h25 : P 25) (h26 : P 26) (h27 : P 27) (h28 : P 28) (h29 : P 29) (h30 : P 30) (h31 : P 31) (h32 : P 32) (h33 : P 33) (h34 : P 34) (h35 : P 35) (h36 : P 36) (h37 : P 37) (h38 : P 38) (h39 : P 39) (h40 : P 40) (h41 : P 41) (h42 : P 42) (h43 : P 43) (h44 : P 44) (h45 : P 45) (h46 : P 46) (h47 : P 47) (h48 : P 48) (h49 : P 49) (h50 : P 50) (h51 : P 51) (h52 : P 52) (h53 : P 53) : ∀ a, a < 54 → P a := by
  intro a h
  match a, h with
  | 0, _ => exact h0
  | 1, _ => exact h1
  | 2, _ => exact h2
  | 3, _ => exact h3
  | 4, _ => exact h4
  | 5, _ => exact h5
  | 6, _ => exact h6
  | 7, _ => exact h7
  | 8, _ => exact h8
  | 9, _ => exact h9
  | 10, _ => exact h10
  | 11, _ => exact h11
  | 12, _ => exact h12
  | 13, _ => exact h13
  | 14, _ => exact h14
  | 15, _ => exact h15
  | 16, _ => exact h16
  | 17, _ => exact h17
  | 18, _ => exact h18
  | 19, _ => exact h19
  | 20, _ => exact h20
  | 21, _ => exact h21
  | 22, _ => exact h22
  | 23, _ => exact h23
  | 24, _ => exact h24
  | 25, _ => exact h25
  | 26, _ => exact h26
  | 27, _ => exact h27
  | 28, _ => exact h28
  | 29, _ => exact h29
  | 30, _ => exact h30
  | 31, _ => exact h31
  | 32, _ => exact h32
  | 33, _ => exact h33
  | 34, _ => exact h34
  | 35, _ => exact h35
  | 36, _ => exact h36
  | 37, _ => exact h37
  | 38, _ => exact h38
  | 39, _ => exact h39
  | 40, _ => exact h40
  | 41, _ => exact h41
  | 42, _ => exact h42
  | 43, _ => exact h43
  | 44, _ => exact h44
  | 45, _ => exact h45
  | 46, _ => exact h46
  | 47, _ => exact h47
  | 48, _ => exact h48
  | 49, _ => exact h49
  | 50, _ => exact h50
  | 51, _ => exact h51
  | 52, _ => exact h52
  | 53, _ => exact h53
  | k + 54, h => omega
theorem t0_a {P : Nat → Ty → Prop} (h : ∀ a, a < 54 → ∀ t, tau0 a = some t → P a t) : ∀ a t, tau0 a = some t → P a t := fun a t e => by
  by_cases q : a < 54
  · exact h a q t e
  · rw [tau0_n a (by omega)] at e
    cases e
theorem t0_len (G : xG) : ∀ a t, tau0 a = some t → a < (w0 G).length := t0_a fun a h t e => by rw [w0_len]; omega
theorem u0_6 : ∀ a, a < 54 → ∀ p, tau0 a = some (.inl (6, p)) → a = 3 := (t0_c (P := fun a => ∀ p, tau0 a = some (.inl (6, p)) → a = 3) (fun p h => by cases h) (fun p h => by cases h) (fun p h => by cases h) (fun _ _ => rfl) (fun p h => by cases h) (fun p h => by cases h) (fun p h => by cases h) (fun p h => by cases h) (fun p h => by cases h) (fun p h => by cases h) (fun p h => by cases h) (fun p h => by cases h) (fun p h => by cases h) (fun p h => by cases h) (fun p h => by cases h) (fun p h => by cases h) (fun p h => by cases h) (fun p h => by cases h) (fun p h => by cases h) (fun p h => by cases h) (fun p h => by cases h) (fun p h => by cases h) (fun p h => by cases h) (fun p h => by cases h) (fun p h => by cases h) (fun p h => by cases h) (fun p h => by cases h) (fun p h => by cases h) (fun p h => by cases h) (fun p h => by cases h) (fun p h => by cases h) (fun p h => by cases h) (fun p h => by cases h) (fun p h => by cases h) (fun p h => by cases h) (fun p h => by cases h) (fun p h => by cases h) (fun p h => by cases h) (fun p h => by cases h) (fun p h => by cases h) (fun p h => by cases h) (fun p h => by cases h) (fun p h => by cases h) (fun p h => by cases h) (fun p h => by cases h) (fun p h => by cases h) (fun p h => by cases h) (fun p h => by cases h) (fun p h => by cases h) (fun p h => by cases h) (fun p h => by cases h) (fun p h => by cases h) (fun p h => by cases h) (fun p h => by cases h))
theorem u0_11 : ∀ a, a < 54 → tau0 a = some (.inr (0, 200, 0, 600)) → a = 11 := (t0_c (P := fun a => tau0 a = some (.inr (0, 200, 0, 600)) → a = 11) (fun h => by cases h) (fun h => by cases h) (fun h => by cases h) (fun h => by cases h) (fun h => by cases h) (fun h => by cases h) (fun h => by cases h) (fun h => by cases h) (fun h => by cases h) (fun h => by cases h) (fun h => by cases h) (fun _ => rfl) (fun h => by cases h) (fun h => by cases h) (fun h => by cases h) (fun h => by cases h) (fun h => by cases h) (fun h => by cases h) (fun h => by cases h) (fun h => by cases h) (fun h => by cases h) (fun h => by cases h) (fun h => by cases h) (fun h => by cases h) (fun h => by cases h) (fun h => by cases h) (fun h => by cases h) (fun h => by cases h) (fun h => by cases h) (fun h => by cases h) (fun h => by cases h) (fun h => by cases h) (fun h => by cases h) (fun h => by cases h) (fun h => by cases h) (fun h => by cases h) (fun h => by cases h) (fun h => by cases h) (fun h => by cases h) (fun h => by cases h) (fun h => by cases h) (fun h => by cases h) (fun h => by cases h) (fun h => by cases h) (fun h => by cases h) (fun h => by cases h) (fun h => by cases h) (fun h => by cases h) (fun h => by cases h) (fun h => by cases h) (fun h => by cases h) (fun h => by cases h) (fun h => by cases h) (fun h => by cases h))
theorem u0_12 : ∀ a, a < 54 → tau0 a = some (.inr (0, 200, 0, 601)) → a = 12 := (t0_c (P := fun a => tau0 a = some (.inr (0, 200, 0, 601)) → a = 12) (fun h => by cases h) (fun h => by cases h) (fun h => by cases h) (fun h => by cases h) (fun h => by cases h) (fun h => by cases h) (fun h => by cases h) (fun h => by cases h) (fun h => by cases h) (fun h => by cases h) (fun h => by cases h) (fun h => by cases h) (fun _ => rfl) (fun h => by cases h) (fun h => by cases h) (fun h => by cases h) (fun h => by cases h) (fun h => by cases h) (fun h => by cases h) (fun h => by cases h) (fun h => by cases h) (fun h => by cases h) (fun h => by cases h) (fun h => by cases h) (fun h => by cases h) (fun h => by cases h) (fun h => by cases h) (fun h => by cases h) (fun h => by cases h) (fun h => by cases h) (fun h => by cases h) (fun h => by cases h) (fun h => by cases h) (fun h => by cases h) (fun h => by cases h) (fun h => by cases h) (fun h => by cases h) (fun h => by cases h) (fun h => by cases h) (fun h => by cases h) (fun h => by cases h) (fun h => by cases h) (fun h => by cases h) (fun h => by cases h) (fun h => by cases h) (fun h => by cases h) (fun h => by cases h) (fun h => by cases h) (fun h => by cases h) (fun h => by cases h) (fun h => by cases h) (fun h => by cases h) (fun h => by cases h) (fun h => by cases h))
theorem u0_3 : ∀ a, a < 54 → ∀ p, tau0 a = some (.inl (3, p)) → p ≤ 200 := (t0_c (P := fun a => ∀ p, tau0 a = some (.inl (3, p)) → p ≤ 200) (fun p h => by cases h) (fun p h => by cases h) (fun p h => by cases h) (fun p h => by cases h) (fun p h => by cases h) (fun p h => by cases h) (fun p h => by cases h) (fun p h => by cases h) (fun p h => by cases h) (fun p h => by cases h) (fun p h => by cases h) (fun p h => by cases h) (fun p h => by cases h) (fun p h => by cases h) (fun p h => by cases h) (fun p h => by cases h) (fun p h => by cases h) (fun p h => by cases h) (fun p h => by cases h) (fun p h => by cases h) (fun p h => by cases h) (fun p h => by cases h) (fun p h => by cases h) (fun p h => by cases h) (fun p h => by cases h) (fun p h => by cases h) (fun p h => by cases h) (fun p h => by cases h) (fun p h => by cases h) (fun p h => by cases h) (fun p h => by cases h) (fun p h => by cases h) (fun p h => by cases h) (fun p h => by cases h) (fun p h => by cases h) (fun p h => by cases h) (fun p h => by cases h) (fun p h => by cases h) (fun p h => by cases h) (fun p h => by cases h) (fun p h => by cases h) (fun p h => by cases h) (fun p h => by cases h) (fun p h => by cases h) (fun p h => by cases h) (fun p h => by cases h) (fun p h => by cases h) (fun p h => by cases h) (fun p h => by cases h) (fun p h => by cases h) (fun p h => by cases h) (fun p h => by cases h) (fun p h => by cases h) (fun p h => by cases h))
theorem u0_10 : ∀ a, a < 54 → ∀ p, tau0 a = some (.inl (10, p)) → 1 ≤ p ∧ p ≤ 20 := (t0_c (P := fun a => ∀ p, tau0 a = some (.inl (10, p)) → 1 ≤ p ∧ p ≤ 20) (fun p h => by cases h; decide) (fun p h => by cases h) (fun p h => by cases h) (fun p h => by cases h) (fun p h => by cases h) (fun p h => by cases h) (fun p h => by cases h) (fun p h => by cases h) (fun p h => by cases h) (fun p h => by cases h) (fun p h => by cases h) (fun p h => by cases h) (fun p h => by cases h) (fun p h => by cases h) (fun p h => by cases h) (fun p h => by cases h) (fun p h => by cases h) (fun p h => by cases h) (fun p h => by cases h) (fun p h => by cases h) (fun p h => by cases h) (fun p h => by cases h) (fun p h => by cases h) (fun p h => by cases h) (fun p h => by cases h) (fun p h => by cases h) (fun p h => by cases h) (fun p h => by cases h) (fun p h => by cases h) (fun p h => by cases h) (fun p h => by cases h) (fun p h => by cases h) (fun p h => by cases h) (fun p h => by cases h) (fun p h => by cases h) (fun p h => by cases h) (fun p h => by cases h) (fun p h => by cases h) (fun p h => by cases h) (fun p h => by cases h) (fun p h => by cases h) (fun p h => by cases h) (fun p h => by cases h) (fun p h => by cases h) (fun p h => by cases h) (fun p h => by cases h) (fun p h => by cases h) (fun p h => by cases h) (fun p h => by cases h) (fun p h => by cases h) (fun p h => by cases h) (fun p h => by cases h) (fun p h => by cases h) (fun p h => by cases h))
theorem u0_5 : ∀ a, a < 54 → ∀ n, tau0 a = some (.inl (5, n)) → isS a := (t0_c (P := fun a => ∀ n, tau0 a = some (.inl (5, n)) → isS a) (fun n h => by cases h) (fun n h => by unfold isS; decide) (fun n h => by cases h) (fun n h => by cases h) (fun n h => by unfold isS; decide) (fun n h => by cases h) (fun n h => by cases h) (fun n h => by cases h) (fun n h => by cases h) (fun n h => by cases h) (fun n h => by cases h) (fun n h => by cases h) (fun n h => by cases h) (fun n h => by cases h) (fun n h => by cases h) (fun n h => by cases h) (fun n h => by cases h) (fun n h => by cases h) (fun n h => by cases h) (fun n h => by cases h) (fun n h => by unfold isS; decide) (fun n h => by cases h) (fun n h => by unfold isS; decide) (fun n h => by cases h) (fun n h => by cases h) (fun n h => by cases h) (fun n h => by cases h) (fun n h => by cases h) (fun n h => by cases h) (fun n h => by cases h) (fun n h => by cases h) (fun n h => by cases h) (fun n h => by cases h) (fun n h => by cases h) (fun n h => by cases h) (fun n h => by cases h) (fun n h => by cases h) (fun n h => by cases h) (fun n h => by cases h) (fun n h => by cases h) (fun n h => by cases h) (fun n h => by cases h) (fun n h => by cases h) (fun n h => by cases h) (fun n h => by cases h) (fun n h => by cases h) (fun n h => by cases h) (fun n h => by cases h) (fun n h => by cases h) (fun n h => by cases h) (fun n h => by cases h) (fun n h => by cases h) (fun n h => by cases h) (fun n h => by cases h))
theorem u0 : wU tau0 := by
  have big : ∀ (a : Nat) (t : Ty), ¬ a < 54 → tau0 a ≠ some t := fun a t h e => by rw [tau0_n a (by omega)] at e; cases e
  refine ⟨fun a p e => ?_, ⟨0, rfl⟩, fun a e => ?_, rfl, fun a e => ?_, rfl, fun a p e => ?_, fun a p e => ?_, fun a n e => ?_, fun a h => ?_, ⟨24, _, by decide, rfl⟩⟩
  · by_cases q : a < 54
    · exact u0_6 a q p e
    · exact absurd e (big a _ q)
  · by_cases q : a < 54
    · exact u0_11 a q e
    · exact absurd e (big a _ q)
  · by_cases q : a < 54
    · exact u0_12 a q e
    · exact absurd e (big a _ q)
  · by_cases q : a < 54
    · exact u0_3 a q p e
    · exact absurd e (big a _ q)
  · by_cases q : a < 54
    · exact u0_10 a q p e
    · exact absurd e (big a _ q)
  · by_cases q : a < 54
    · exact u0_5 a q n e
    · exact absurd e (big a _ q)
  · rcases h with rfl | rfl | rfl | rfl <;> exact Or.inl ⟨64, rfl⟩
theorem s0 (G : xG) : ∀ a, a < 54 → ∀ n, tau0 a = some (.inl (5, n)) → ∃ r t ov, Sg G (w0 G) a r n t ov ∧ tau0 r = some (.inl (100 + a, 0)) := (t0_c (P := fun a => ∀ n, tau0 a = some (.inl (5, n)) → ∃ r t ov, Sg G (w0 G) a r n t ov ∧ tau0 r = some (.inl (100 + a, 0))) (fun n h => by cases h) (fun n h => by cases h; exact ⟨2, [], false, ⟨fun _ => 0, rfl, rfl, by decide, by decide, by decide, by decide, fun j hj => absurd hj (Nat.not_lt_zero _), fun x hx => absurd hx List.not_mem_nil⟩, rfl⟩) (fun n h => by cases h) (fun n h => by cases h) (fun n h => by cases h; exact ⟨5, [], false, ⟨fun _ => 0, rfl, rfl, by decide, by decide, by decide, by decide, fun j hj => absurd hj (Nat.not_lt_zero _), fun x hx => absurd hx List.not_mem_nil⟩, rfl⟩) (fun n h => by cases h) (fun n h => by cases h) (fun n h => by cases h) (fun n h => by cases h) (fun n h => by cases h) (fun n h => by cases h) (fun n h => by cases h) (fun n h => by cases h) (fun n h => by cases h) (fun n h => by cases h) (fun n h => by cases h) (fun n h => by cases h) (fun n h => by cases h) (fun n h => by cases h) (fun n h => by cases h) (fun n h => by cases h; exact ⟨21, [], false, ⟨fun _ => 0, rfl, rfl, by decide, by decide, by decide, by decide, fun j hj => absurd hj (Nat.not_lt_zero _), fun x hx => absurd hx List.not_mem_nil⟩, rfl⟩) (fun n h => by cases h) (fun n h => by cases h; exact ⟨23, [], false, ⟨fun _ => 0, rfl, rfl, by decide, by decide, by decide, by decide, fun j hj => absurd hj (Nat.not_lt_zero _), fun x hx => absurd hx List.not_mem_nil⟩, rfl⟩) (fun n h => by cases h) (fun n h => by cases h) (fun n h => by cases h) (fun n h => by cases h) (fun n h => by cases h) (fun n h => by cases h) (fun n h => by cases h) (fun n h => by cases h) (fun n h => by cases h) (fun n h => by cases h) (fun n h => by cases h) (fun n h => by cases h) (fun n h => by cases h) (fun n h => by cases h) (fun n h => by cases h) (fun n h => by cases h) (fun n h => by cases h) (fun n h => by cases h) (fun n h => by cases h) (fun n h => by cases h) (fun n h => by cases h) (fun n h => by cases h) (fun n h => by cases h) (fun n h => by cases h) (fun n h => by cases h) (fun n h => by cases h) (fun n h => by cases h) (fun n h => by cases h) (fun n h => by cases h) (fun n h => by cases h) (fun n h => by cases h))
theorem a0 (G : xG) : ∀ a, a < 54 → ∀ k n lo hi, tau0 a = some (.inr (k, n, lo, hi)) → n < 2147483648 ∧ ∃ f : Nat → Int32, (w0 G)[a]? = some (.inl (G.2.2.1 k, n, .inl f)) ∧ ∀ i, iv lo hi (f i).toInt := (t0_c (P := fun a => ∀ k n lo hi, tau0 a = some (.inr (k, n, lo, hi)) → n < 2147483648 ∧ ∃ f : Nat → Int32, (w0 G)[a]? = some (.inl (G.2.2.1 k, n, .inl f)) ∧ ∀ i, iv lo hi (f i).toInt) (fun k n lo hi h => by cases h) (fun k n lo hi h => by cases h) (fun k n lo hi h => by cases h) (fun k n lo hi h => by cases h) (fun k n lo hi h => by cases h) (fun k n lo hi h => by cases h) (fun k n lo hi h => by cases h; exact ⟨by decide, fun _ => 0, rfl, fun i => ⟨by dsimp only; decide, by dsimp only; decide⟩⟩) (fun k n lo hi h => by cases h; exact ⟨by decide, fun _ => 0, rfl, fun i => ⟨by dsimp only; decide, by dsimp only; decide⟩⟩) (fun k n lo hi h => by cases h; exact ⟨by decide, fun _ => 0, rfl, fun i => ⟨by dsimp only; decide, by dsimp only; decide⟩⟩) (fun k n lo hi h => by cases h; exact ⟨by decide, fun _ => 0, rfl, fun i => ⟨by dsimp only; decide, by dsimp only; decide⟩⟩) (fun k n lo hi h => by cases h; exact ⟨by decide, fun _ => 0, rfl, fun i => ⟨by dsimp only; decide, by dsimp only; decide⟩⟩) (fun k n lo hi h => by cases h; exact ⟨by decide, fun _ => 0, rfl, fun i => ⟨by dsimp only; decide, by dsimp only; decide⟩⟩) (fun k n lo hi h => by cases h; exact ⟨by decide, fun _ => 0, rfl, fun i => ⟨by dsimp only; decide, by dsimp only; decide⟩⟩) (fun k n lo hi h => by cases h; exact ⟨by decide, fun _ => 0, rfl, fun i => ⟨by dsimp only; decide, by dsimp only; decide⟩⟩) (fun k n lo hi h => by cases h; exact ⟨by decide, fun _ => 0, rfl, fun i => ⟨by dsimp only; decide, by dsimp only; decide⟩⟩) (fun k n lo hi h => by cases h; exact ⟨by decide, fun _ => 0, rfl, fun i => ⟨by dsimp only; decide, by dsimp only; decide⟩⟩) (fun k n lo hi h => by cases h; exact ⟨by decide, fun _ => 0, rfl, fun i => ⟨by dsimp only; decide, by dsimp only; decide⟩⟩) (fun k n lo hi h => by cases h; exact ⟨by decide, fun _ => 0, rfl, fun i => ⟨by dsimp only; decide, by dsimp only; decide⟩⟩) (fun k n lo hi h => by cases h; exact ⟨by decide, fun _ => 0, rfl, fun i => ⟨by dsimp only; decide, by dsimp only; decide⟩⟩) (fun k n lo hi h => by cases h; exact ⟨by decide, fun _ => 0, rfl, fun i => ⟨by dsimp only; decide, by dsimp only; decide⟩⟩) (fun k n lo hi h => by cases h) (fun k n lo hi h => by cases h) (fun k n lo hi h => by cases h) (fun k n lo hi h => by cases h) (fun k n lo hi h => by cases h) (fun k n lo hi h => by cases h; exact ⟨by decide, fun _ => 0, rfl, fun i => ⟨by dsimp only; decide, by dsimp only; decide⟩⟩) (fun k n lo hi h => by cases h; exact ⟨by decide, fun _ => 0, rfl, fun i => ⟨by dsimp only; decide, by dsimp only; decide⟩⟩) (fun k n lo hi h => by cases h; exact ⟨by decide, fun _ => 0, rfl, fun i => ⟨by dsimp only; decide, by dsimp only; decide⟩⟩) (fun k n lo hi h => by cases h; exact ⟨by decide, fun _ => 0, rfl, fun i => ⟨by dsimp only; decide, by dsimp only; decide⟩⟩) (fun k n lo hi h => by cases h; exact ⟨by decide, fun _ => 0, rfl, fun i => ⟨by dsimp only; decide, by dsimp only; decide⟩⟩) (fun k n lo hi h => by cases h; exact ⟨by decide, fun _ => 0, rfl, fun i => ⟨by dsimp only; decide, by dsimp only; decide⟩⟩) (fun k n lo hi h => by cases h; exact ⟨by decide, fun _ => 0, rfl, fun i => ⟨by dsimp only; decide, by dsimp only; decide⟩⟩) (fun k n lo hi h => by cases h; exact ⟨by decide, fun _ => 0, rfl, fun i => ⟨by dsimp only; decide, by dsimp only; decide⟩⟩) (fun k n lo hi h => by cases h) (fun k n lo hi h => by cases h; exact ⟨by decide, fun _ => 0, rfl, fun i => ⟨by dsimp only; decide, by dsimp only; decide⟩⟩) (fun k n lo hi h => by cases h; exact ⟨by decide, fun _ => 0, rfl, fun i => ⟨by dsimp only; decide, by dsimp only; decide⟩⟩) (fun k n lo hi h => by cases h; exact ⟨by decide, fun _ => 0, rfl, fun i => ⟨by dsimp only; decide, by dsimp only; decide⟩⟩) (fun k n lo hi h => by cases h; exact ⟨by decide, fun _ => 0, rfl, fun i => ⟨by dsimp only; decide, by dsimp only; decide⟩⟩) (fun k n lo hi h => by cases h; exact ⟨by decide, fun _ => 0, rfl, fun i => ⟨by dsimp only; decide, by dsimp only; decide⟩⟩) (fun k n lo hi h => by cases h; exact ⟨by decide, fun _ => 0, rfl, fun i => ⟨by dsimp only; decide, by dsimp only; decide⟩⟩) (fun k n lo hi h => by cases h; exact ⟨by decide, fun _ => 0, rfl, fun i => ⟨by dsimp only; decide, by dsimp only; decide⟩⟩) (fun k n lo hi h => by cases h; exact ⟨by decide, fun _ => 0, rfl, fun i => ⟨by dsimp only; decide, by dsimp only; decide⟩⟩) (fun k n lo hi h => by cases h) (fun k n lo hi h => by cases h; exact ⟨by decide, fun _ => 0, rfl, fun i => ⟨by dsimp only; decide, by dsimp only; decide⟩⟩) (fun k n lo hi h => by cases h; exact ⟨by decide, fun _ => 0, rfl, fun i => ⟨by dsimp only; decide, by dsimp only; decide⟩⟩) (fun k n lo hi h => by cases h; exact ⟨by decide, fun _ => 0, rfl, fun i => ⟨by dsimp only; decide, by dsimp only; decide⟩⟩) (fun k n lo hi h => by cases h) (fun k n lo hi h => by cases h; exact ⟨by decide, fun _ => 0, rfl, fun i => ⟨by dsimp only; decide, by dsimp only; decide⟩⟩) (fun k n lo hi h => by cases h; exact ⟨by decide, fun _ => 0, rfl, fun i => ⟨by dsimp only; decide, by dsimp only; decide⟩⟩) (fun k n lo hi h => by cases h; exact ⟨by decide, fun _ => 0, rfl, fun i => ⟨by dsimp only; decide, by dsimp only; decide⟩⟩) (fun k n lo hi h => by cases h) (fun k n lo hi h => by cases h; exact ⟨by decide, fun _ => 0, rfl, fun i => ⟨by dsimp only; decide, by dsimp only; decide⟩⟩) (fun k n lo hi h => by cases h; exact ⟨by decide, fun _ => 0, rfl, fun i => ⟨by dsimp only; decide, by dsimp only; decide⟩⟩) (fun k n lo hi h => by cases h; exact ⟨by decide, fun _ => 0, rfl, fun i => ⟨by dsimp only; decide, by dsimp only; decide⟩⟩))
set_option maxRecDepth 100000 in
set_option maxHeartbeats 8000000 in
theorem o0 (G : xG) : ∀ a, a < 54 → ∀ ci p, tau0 a = some (.inl (ci, p)) → ci ≠ 5 → ci < 100 → ∃ vs, (w0 G)[a]? = some (.inr (ci, vs)) ∧ wF G tau0 (fT ci p) vs := (t0_c (P := fun a => ∀ ci p, tau0 a = some (.inl (ci, p)) → ci ≠ 5 → ci < 100 → ∃ vs, (w0 G)[a]? = some (.inr (ci, vs)) ∧ wF G tau0 (fT ci p) vs) (fun ci p h g5 g1 => by cases h; exact ⟨_, rfl, (wF_cons ⟨1, rfl, ⟨64, rfl⟩⟩ (wF_cons ⟨3, rfl, ⟨0, rfl⟩⟩ (wF_cons ⟨20, rfl, ⟨64, rfl⟩⟩ (wF_cons ⟨22, rfl, ⟨64, rfl⟩⟩ (wF_cons ⟨24, rfl, ⟨0, rfl⟩⟩ (wF_cons ⟨33, rfl, ⟨0, rfl⟩⟩ (wF_cons ⟨42, rfl, ⟨0, rfl⟩⟩ (wF_cons ⟨46, rfl, ⟨0, rfl⟩⟩ (wF_cons ⟨50, rfl, ⟨0, rfl⟩⟩ (wF_cons ⟨_, rfl, ⟨by decide, by decide⟩⟩ wF_nil))))))))))⟩) (fun ci p h g5 g1 => by cases h; exact absurd rfl g5) (fun ci p h g5 g1 => by cases h; exact absurd g1 (by decide)) (fun ci p h g5 g1 => by cases h; exact ⟨_, rfl, (wF_cons ⟨4, rfl, ⟨64, rfl⟩⟩ (wF_cons ⟨4, rfl, ⟨64, rfl⟩⟩ (wF_cons ⟨6, rfl, rfl⟩ (wF_cons ⟨7, rfl, rfl⟩ (wF_cons ⟨8, rfl, rfl⟩ (wF_cons ⟨9, rfl, rfl⟩ (wF_cons ⟨10, rfl, rfl⟩ (wF_cons ⟨11, rfl, rfl⟩ (wF_cons ⟨12, rfl, rfl⟩ (wF_cons ⟨13, rfl, rfl⟩ (wF_cons ⟨14, rfl, rfl⟩ (wF_cons ⟨15, rfl, rfl⟩ (wF_cons ⟨16, rfl, rfl⟩ (wF_cons ⟨17, rfl, rfl⟩ (wF_cons ⟨18, rfl, rfl⟩ (wF_cons ⟨19, rfl, rfl⟩ (wF_cons ⟨_, rfl, ⟨by decide, by decide⟩⟩ (wF_cons ⟨_, rfl, ⟨by decide, by decide⟩⟩ wF_nil))))))))))))))))))⟩) (fun ci p h g5 g1 => by cases h; exact absurd rfl g5) (fun ci p h g5 g1 => by cases h; exact absurd g1 (by decide)) (fun ci p h g5 g1 => by cases h) (fun ci p h g5 g1 => by cases h) (fun ci p h g5 g1 => by cases h) (fun ci p h g5 g1 => by cases h) (fun ci p h g5 g1 => by cases h) (fun ci p h g5 g1 => by cases h) (fun ci p h g5 g1 => by cases h) (fun ci p h g5 g1 => by cases h) (fun ci p h g5 g1 => by cases h) (fun ci p h g5 g1 => by cases h) (fun ci p h g5 g1 => by cases h) (fun ci p h g5 g1 => by cases h) (fun ci p h g5 g1 => by cases h) (fun ci p h g5 g1 => by cases h) (fun ci p h g5 g1 => by cases h; exact absurd rfl g5) (fun ci p h g5 g1 => by cases h; exact absurd g1 (by decide)) (fun ci p h g5 g1 => by cases h; exact absurd rfl g5) (fun ci p h g5 g1 => by cases h; exact absurd g1 (by decide)) (fun ci p h g5 g1 => by cases h; exact ⟨_, rfl, (wF_cons ⟨25, rfl, rfl⟩ (wF_cons ⟨26, rfl, rfl⟩ (wF_cons ⟨27, rfl, rfl⟩ (wF_cons ⟨28, rfl, rfl⟩ (wF_cons ⟨29, rfl, rfl⟩ (wF_cons ⟨30, rfl, rfl⟩ (wF_cons ⟨31, rfl, rfl⟩ (wF_cons ⟨32, rfl, rfl⟩ (wF_cons ⟨_, rfl, ⟨by decide, by decide⟩⟩ wF_nil)))))))))⟩) (fun ci p h g5 g1 => by cases h) (fun ci p h g5 g1 => by cases h) (fun ci p h g5 g1 => by cases h) (fun ci p h g5 g1 => by cases h) (fun ci p h g5 g1 => by cases h) (fun ci p h g5 g1 => by cases h) (fun ci p h g5 g1 => by cases h) (fun ci p h g5 g1 => by cases h) (fun ci p h g5 g1 => by cases h; exact ⟨_, rfl, (wF_cons ⟨34, rfl, rfl⟩ (wF_cons ⟨35, rfl, rfl⟩ (wF_cons ⟨36, rfl, rfl⟩ (wF_cons ⟨37, rfl, rfl⟩ (wF_cons ⟨38, rfl, rfl⟩ (wF_cons ⟨39, rfl, rfl⟩ (wF_cons ⟨40, rfl, rfl⟩ (wF_cons ⟨41, rfl, rfl⟩ (wF_cons ⟨_, rfl, ⟨by decide, by decide⟩⟩ wF_nil)))))))))⟩) (fun ci p h g5 g1 => by cases h) (fun ci p h g5 g1 => by cases h) (fun ci p h g5 g1 => by cases h) (fun ci p h g5 g1 => by cases h) (fun ci p h g5 g1 => by cases h) (fun ci p h g5 g1 => by cases h) (fun ci p h g5 g1 => by cases h) (fun ci p h g5 g1 => by cases h) (fun ci p h g5 g1 => by cases h; exact ⟨_, rfl, (wF_cons ⟨43, rfl, rfl⟩ (wF_cons ⟨44, rfl, rfl⟩ (wF_cons ⟨45, rfl, rfl⟩ (wF_cons ⟨_, rfl, ⟨by decide, by decide⟩⟩ wF_nil))))⟩) (fun ci p h g5 g1 => by cases h) (fun ci p h g5 g1 => by cases h) (fun ci p h g5 g1 => by cases h) (fun ci p h g5 g1 => by cases h; exact ⟨_, rfl, (wF_cons ⟨47, rfl, rfl⟩ (wF_cons ⟨48, rfl, rfl⟩ (wF_cons ⟨49, rfl, rfl⟩ (wF_cons ⟨_, rfl, ⟨by decide, by decide⟩⟩ wF_nil))))⟩) (fun ci p h g5 g1 => by cases h) (fun ci p h g5 g1 => by cases h) (fun ci p h g5 g1 => by cases h) (fun ci p h g5 g1 => by cases h; exact ⟨_, rfl, (wF_cons ⟨51, rfl, rfl⟩ (wF_cons ⟨52, rfl, rfl⟩ (wF_cons ⟨53, rfl, rfl⟩ (wF_cons ⟨_, rfl, ⟨by decide, by decide⟩⟩ wF_nil))))⟩) (fun ci p h g5 g1 => by cases h) (fun ci p h g5 g1 => by cases h) (fun ci p h g5 g1 => by cases h))
def B0 (k : Nat) : Nat × Nat := (11851 + 20 * k, 86292 + 1200 * k)
theorem W0 (G : xG) : WT G (B0 0) tau0 (w0 G) := by
  have big : ∀ (a : Nat) (t : Ty), ¬ a < 54 → tau0 a ≠ some t := fun a t h e => by rw [tau0_n a (by omega)] at e; cases e
  refine ⟨t0_len G, u0, fun a n e => ?_, fun a k n lo hi e => ?_, fun a ci p e g5 g1 => ?_, fun e e0 e1 => ?_, ?_⟩
  · by_cases q : a < 54
    · exact s0 G a q n e
    · exact absurd e (big a _ q)
  · by_cases q : a < 54
    · exact a0 G a q k n lo hi e
    · exact absurd e (big a _ q)
  · by_cases q : a < 54
    · exact o0 G a q ci p e g5 g1
    · exact absurd e (big a _ q)
  · have h : fld (w0 G) 3 16 = 0 := rfl
    omega
  · unfold rho1 rho2 B0
    rw [w0_len, w0_Z]
    decide
/-! the model's fresh state -/
def S0m : St := (fun a j => if a = 54 ∧ j = 19 then 10 else 0, fun _ _ => 0)
def shM : Nat → Option Sh := fun a => if a = 54 then some (.inl (11, mrf)) else if 55 ≤ a ∧ a < 107 then (mAr[a - 55]?).map .inr else none
theorem shM_is : isM shM := by
  refine ⟨if_pos rfl, fun k q h => ?_⟩
  have hk : k < 52 := by
    have := (List.getElem?_eq_some_iff.mp h).1
    exact this
  show (if 55 + k = 54 then _ else if 55 ≤ 55 + k ∧ 55 + k < 107 then _ else _) = _
  rw [if_neg (by omega), if_pos (by omega), show 55 + k - 55 = k by omega, h]
  rfl
theorem shM_n {a : Nat} (h : a < 54 ∨ 107 ≤ a) : shM a = none := by
  show (if a = 54 then _ else if 55 ≤ a ∧ a < 107 then _ else _) = _
  rw [if_neg (by omega), if_neg (by omega)]
theorem shM_s {a : Nat} {x : Sh} (h : shM a = some x) : 54 ≤ a ∧ a < 107 := by
  by_cases q : a < 54 ∨ 107 ≤ a
  · rw [shM_n q] at h
    cases h
  · omega
theorem m0_c {P : Nat → Prop} (h54 : P 54) (h55 : P 55) (h56 : P 56) (h57 : P 57) (h58 : P 58) (h59 : P 59) (h60 : P 60) (h61 : P 61) (h62 : P 62) (h63 : P 63) (h64 : P 64) (h65 : P 65) (h66 : P 66) (h67 : P 67) (h68 : P 68) (h69 : P 69) (h70 : P 70) (h71 : P 71) (h72 : P 72) (h73 : P 73) (h74 : P 74) (h75 : P 75) (h76 : P 76) (h77 : P 77) (h78 : P 78) (h79 : P 79) (h80 : P 80) (h81 : P 81) (h82 : P 82) (h83 : P 83) (h84 : P 84) (h85 : P 85) (h86 : P 86) (h87 : P 87) (h88 : P 88) (h89 : P 89) (h90 : P 90) (h91 : P 91) (h92 : P 92) (h93 : P 93) (h94 : P 94) (h95 : P 95) (h96 : P 96) (h97 : P 97) (h98 : P 98) (h99 : P 99) (h100 : P 100) (h101 : P 101) (h102 : P 102) (h103 : P 103) (h104 : P 104) (h105 : P 105) (h106 : P 106) : ∀ a, 54 ≤ a → a < 107 → P a := by
  intro a h1 h2
  match a, h1, h2 with
  | 0, h, _ => exact absurd h (by decide)
  | 1, h, _ => exact absurd h (by decide)
  | 2, h, _ => exact absurd h (by decide)
  | 3, h, _ => exact absurd h (by decide)
  | 4, h, _ => exact absurd h (by decide)
  | 5, h, _ => exact absurd h (by decide)
  | 6, h, _ => exact absurd h (by decide)
  | 7, h, _ => exact absurd h (by decide)
  | 8, h, _ => exact absurd h (by decide)
  | 9, h, _ => exact absurd h (by decide)
  | 10, h, _ => exact absurd h (by decide)
  | 11, h, _ => exact absurd h (by decide)
  | 12, h, _ => exact absurd h (by decide)
  | 13, h, _ => exact absurd h (by decide)
  | 14, h, _ => exact absurd h (by decide)
  | 15, h, _ => exact absurd h (by decide)
  | 16, h, _ => exact absurd h (by decide)
  | 17, h, _ => exact absurd h (by decide)
  | 18, h, _ => exact absurd h (by decide)
  | 19, h, _ => exact absurd h (by decide)
  | 20, h, _ => exact absurd h (by decide)
  | 21, h, _ => exact absurd h (by decide)
  | 22, h, _ => exact absurd h (by decide)
  | 23, h, _ => exact absurd h (by decide)
  | 24, h, _ => exact absurd h (by decide)
  | 25, h, _ => exact absurd h (by decide)
  | 26, h, _ => exact absurd h (by decide)
  | 27, h, _ => exact absurd h (by decide)
  | 28, h, _ => exact absurd h (by decide)
  | 29, h, _ => exact absurd h (by decide)
  | 30, h, _ => exact absurd h (by decide)
  | 31, h, _ => exact absurd h (by decide)
  | 32, h, _ => exact absurd h (by decide)
  | 33, h, _ => exact absurd h (by decide)
  | 34, h, _ => exact absurd h (by decide)
  | 35, h, _ => exact absurd h (by decide)
  | 36, h, _ => exact absurd h (by decide)
  | 37, h, _ => exact absurd h (by decide)
  | 38, h, _ => exact absurd h (by decide)
  | 39, h, _ => exact absurd h (by decide)
  | 40, h, _ => exact absurd h (by decide)
  | 41, h, _ => exact absurd h (by decide)
  | 42, h, _ => exact absurd h (by decide)
  | 43, h, _ => exact absurd h (by decide)
  | 44, h, _ => exact absurd h (by decide)
  | 45, h, _ => exact absurd h (by decide)
  | 46, h, _ => exact absurd h (by decide)
  | 47, h, _ => exact absurd h (by decide)
  | 48, h, _ => exact absurd h (by decide)
  | 49, h, _ => exact absurd h (by decide)
  | 50, h, _ => exact absurd h (by decide)
  | 51, h, _ => exact absurd h (by decide)
  | 52, h, _ => exact absurd h (by decide)
  | 53, h, _ => exact absurd h (by decide)
  | 54, _, _ => exact h54
  | 55, _, _ => exact h55
  | 56, _, _ => exact h56
  | 57, _, _ => exact h57
  | 58, _, _ => exact h58
  | 59, _, _ => exact h59
  | 60, _, _ => exact h60
  | 61, _, _ => exact h61
  | 62, _, _ => exact h62
  | 63, _, _ => exact h63
  | 64, _, _ => exact h64
  | 65, _, _ => exact h65
  | 66, _, _ => exact h66
  | 67, _, _ => exact h67
  | 68, _, _ => exact h68
  | 69, _, _ => exact h69
  | 70, _, _ => exact h70
  | 71, _, _ => exact h71
  | 72, _, _ => exact h72
  | 73, _, _ => exact h73
  | 74, _, _ => exact h74
  | 75, _, _ => exact h75
  | 76, _, _ => exact h76
  | 77, _, _ => exact h77
  | 78, _, _ => exact h78
  | 79, _, _ => exact h79
  | 80, _, _ => exact h80
  | 81, _, _ => exact h81
  | 82, _, _ => exact h82
  | 83, _, _ => exact h83
  | 84, _, _ => exact h84
  | 85, _, _ => exact h85
  | 86, _, _ => exact h86
  | 87, _, _ => exact h87
  | 88, _, _ => exact h88
  | 89, _, _ => exact h89
  | 90, _, _ => exact h90
  | 91, _, _ => exact h91
  | 92, _, _ => exact h92
  | 93, _, _ => exact h93
  | 94, _, _ => exact h94
  | 95, _, _ => exact h95
  | 96, _, _ => exact h96
  | 97, _, _ => exact h97
  | 98, _, _ => exact h98
  | 99, _, _ => exact h99
  | 100, _, _ => exact h100
  | 101, _, _ => exact h101
  | 102, _, _ => exact h102
  | 103, _, _ => exact h103
  | 104, _, _ => exact h104
  | 105, _, _ => exact h105
  | 106, _, _ => exact h106
  | k + 107, _, h => omega
set_option maxRecDepth 100000 in
set_option maxHeartbeats 8000000 in
theorem m0_w (G : xG) : ∀ a, 54 ≤ a → a < 107 → ∀ x, shM a = some x → (w0 G)[a]? = some (encC G S0m a x) := m0_c (P := fun a => ∀ x, shM a = some x → (w0 G)[a]? = some (encC G S0m a x)) (fun x h => by cases h; rfl) (fun x h => by cases h; rfl) (fun x h => by cases h; rfl) (fun x h => by cases h; rfl) (fun x h => by cases h; rfl) (fun x h => by cases h; rfl) (fun x h => by cases h; rfl) (fun x h => by cases h; rfl) (fun x h => by cases h; rfl) (fun x h => by cases h; rfl) (fun x h => by cases h; rfl) (fun x h => by cases h; rfl) (fun x h => by cases h; rfl) (fun x h => by cases h; rfl) (fun x h => by cases h; rfl) (fun x h => by cases h; rfl) (fun x h => by cases h; rfl) (fun x h => by cases h; rfl) (fun x h => by cases h; rfl) (fun x h => by cases h; rfl) (fun x h => by cases h; rfl) (fun x h => by cases h; rfl) (fun x h => by cases h; rfl) (fun x h => by cases h; rfl) (fun x h => by cases h; rfl) (fun x h => by cases h; rfl) (fun x h => by cases h; rfl) (fun x h => by cases h; rfl) (fun x h => by cases h; rfl) (fun x h => by cases h; rfl) (fun x h => by cases h; rfl) (fun x h => by cases h; rfl) (fun x h => by cases h; rfl) (fun x h => by cases h; rfl) (fun x h => by cases h; rfl) (fun x h => by cases h; rfl) (fun x h => by cases h; rfl) (fun x h => by cases h; rfl) (fun x h => by cases h; rfl) (fun x h => by cases h; rfl) (fun x h => by cases h; rfl) (fun x h => by cases h; rfl) (fun x h => by cases h; rfl) (fun x h => by cases h; rfl) (fun x h => by cases h; rfl) (fun x h => by cases h; rfl) (fun x h => by cases h; rfl) (fun x h => by cases h; rfl) (fun x h => by cases h; rfl) (fun x h => by cases h; rfl) (fun x h => by cases h; rfl) (fun x h => by cases h; rfl) (fun x h => by cases h; rfl)
theorem m0_t : okT mT S0m := by
  refine ⟨fun a j => ?_, fun a i => ?_⟩
  · by_cases ha : a = 54
    · subst ha
      match j with
      | 0 => exact ⟨by decide, by decide⟩
      | 1 => exact ⟨by decide, by decide⟩
      | 2 => exact ⟨by decide, by decide⟩
      | 3 => exact ⟨by decide, by decide⟩
      | 4 => exact ⟨by decide, by decide⟩
      | 5 => exact ⟨by decide, by decide⟩
      | 6 => exact ⟨by decide, by decide⟩
      | 7 => exact ⟨by decide, by decide⟩
      | 8 => exact ⟨by decide, by decide⟩
      | 9 => exact ⟨by decide, by decide⟩
      | 10 => exact ⟨by decide, by decide⟩
      | 11 => exact ⟨by decide, by decide⟩
      | 12 => exact ⟨by decide, by decide⟩
      | 13 => exact ⟨by decide, by decide⟩
      | 14 => exact ⟨by decide, by decide⟩
      | 15 => exact ⟨by decide, by decide⟩
      | 16 => exact ⟨by decide, by decide⟩
      | 17 => exact ⟨by decide, by decide⟩
      | 18 => exact ⟨by decide, by decide⟩
      | 19 => exact ⟨by decide, by decide⟩
      | 20 => exact ⟨by decide, by decide⟩
      | 21 => exact ⟨by decide, by decide⟩
      | 22 => exact ⟨by decide, by decide⟩
      | 23 => exact ⟨by decide, by decide⟩
      | 24 => exact ⟨by decide, by decide⟩
      | 25 => exact ⟨by decide, by decide⟩
      | 26 => exact ⟨by decide, by decide⟩
      | 27 => exact ⟨by decide, by decide⟩
      | 28 => exact ⟨by decide, by decide⟩
      | 29 => exact ⟨by decide, by decide⟩
      | 30 => exact ⟨by decide, by decide⟩
      | 31 => exact ⟨by decide, by decide⟩
      | 32 => exact ⟨by decide, by decide⟩
      | 33 => exact ⟨by decide, by decide⟩
      | 34 => exact ⟨by decide, by decide⟩
      | 35 => exact ⟨by decide, by decide⟩
      | 36 => exact ⟨by decide, by decide⟩
      | 37 => exact ⟨by decide, by decide⟩
      | 38 => exact ⟨by decide, by decide⟩
      | 39 => exact ⟨by decide, by decide⟩
      | 40 => exact ⟨by decide, by decide⟩
      | 41 => exact ⟨by decide, by decide⟩
      | 42 => exact ⟨by decide, by decide⟩
      | 43 => exact ⟨by decide, by decide⟩
      | 44 => exact ⟨by decide, by decide⟩
      | 45 => exact ⟨by decide, by decide⟩
      | 46 => exact ⟨by decide, by decide⟩
      | 47 => exact ⟨by decide, by decide⟩
      | 48 => exact ⟨by decide, by decide⟩
      | 49 => exact ⟨by decide, by decide⟩
      | 50 => exact ⟨by decide, by decide⟩
      | 51 => exact ⟨by decide, by decide⟩
      | 52 => exact ⟨by decide, by decide⟩
      | 53 => exact ⟨by decide, by decide⟩
      | 54 => exact ⟨by decide, by decide⟩
      | 55 => exact ⟨by decide, by decide⟩
      | 56 => exact ⟨by decide, by decide⟩
      | 57 => exact ⟨by decide, by decide⟩
      | 58 => exact ⟨by decide, by decide⟩
      | 59 => exact ⟨by decide, by decide⟩
      | 60 => exact ⟨by decide, by decide⟩
      | 61 => exact ⟨by decide, by decide⟩
      | 62 => exact ⟨by decide, by decide⟩
      | 63 => exact ⟨by decide, by decide⟩
      | 64 => exact ⟨by decide, by decide⟩
      | 65 => exact ⟨by decide, by decide⟩
      | 66 => exact ⟨by decide, by decide⟩
      | 67 => exact ⟨by decide, by decide⟩
      | 68 => exact ⟨by decide, by decide⟩
      | 69 => exact ⟨by decide, by decide⟩
      | 70 => exact ⟨by decide, by decide⟩
      | 71 => exact ⟨by decide, by decide⟩
      | k + 72 =>
        show iv (-2147483648) 2147483647 (if 54 = 54 ∧ k + 72 = 19 then 10 else 0)
        rw [if_neg (by omega)]
        exact ⟨by decide, by decide⟩
    · show iv (if a = 54 then _ else _ : Int × Int).1 (if a = 54 then _ else _ : Int × Int).2 (if a = 54 ∧ j = 19 then 10 else 0)
      rw [if_neg ha, if_neg (fun h => ha h.1)]
      exact ⟨by decide, by decide⟩
  · show iv _ _ 0
    by_cases h : a < 107
    · match a, h with
      | 0, _ => exact ⟨by decide, by decide⟩
      | 1, _ => exact ⟨by decide, by decide⟩
      | 2, _ => exact ⟨by decide, by decide⟩
      | 3, _ => exact ⟨by decide, by decide⟩
      | 4, _ => exact ⟨by decide, by decide⟩
      | 5, _ => exact ⟨by decide, by decide⟩
      | 6, _ => exact ⟨by decide, by decide⟩
      | 7, _ => exact ⟨by decide, by decide⟩
      | 8, _ => exact ⟨by decide, by decide⟩
      | 9, _ => exact ⟨by decide, by decide⟩
      | 10, _ => exact ⟨by decide, by decide⟩
      | 11, _ => exact ⟨by decide, by decide⟩
      | 12, _ => exact ⟨by decide, by decide⟩
      | 13, _ => exact ⟨by decide, by decide⟩
      | 14, _ => exact ⟨by decide, by decide⟩
      | 15, _ => exact ⟨by decide, by decide⟩
      | 16, _ => exact ⟨by decide, by decide⟩
      | 17, _ => exact ⟨by decide, by decide⟩
      | 18, _ => exact ⟨by decide, by decide⟩
      | 19, _ => exact ⟨by decide, by decide⟩
      | 20, _ => exact ⟨by decide, by decide⟩
      | 21, _ => exact ⟨by decide, by decide⟩
      | 22, _ => exact ⟨by decide, by decide⟩
      | 23, _ => exact ⟨by decide, by decide⟩
      | 24, _ => exact ⟨by decide, by decide⟩
      | 25, _ => exact ⟨by decide, by decide⟩
      | 26, _ => exact ⟨by decide, by decide⟩
      | 27, _ => exact ⟨by decide, by decide⟩
      | 28, _ => exact ⟨by decide, by decide⟩
      | 29, _ => exact ⟨by decide, by decide⟩
      | 30, _ => exact ⟨by decide, by decide⟩
      | 31, _ => exact ⟨by decide, by decide⟩
      | 32, _ => exact ⟨by decide, by decide⟩
      | 33, _ => exact ⟨by decide, by decide⟩
      | 34, _ => exact ⟨by decide, by decide⟩
      | 35, _ => exact ⟨by decide, by decide⟩
      | 36, _ => exact ⟨by decide, by decide⟩
      | 37, _ => exact ⟨by decide, by decide⟩
      | 38, _ => exact ⟨by decide, by decide⟩
      | 39, _ => exact ⟨by decide, by decide⟩
      | 40, _ => exact ⟨by decide, by decide⟩
      | 41, _ => exact ⟨by decide, by decide⟩
      | 42, _ => exact ⟨by decide, by decide⟩
      | 43, _ => exact ⟨by decide, by decide⟩
      | 44, _ => exact ⟨by decide, by decide⟩
      | 45, _ => exact ⟨by decide, by decide⟩
      | 46, _ => exact ⟨by decide, by decide⟩
      | 47, _ => exact ⟨by decide, by decide⟩
      | 48, _ => exact ⟨by decide, by decide⟩
      | 49, _ => exact ⟨by decide, by decide⟩
      | 50, _ => exact ⟨by decide, by decide⟩
      | 51, _ => exact ⟨by decide, by decide⟩
      | 52, _ => exact ⟨by decide, by decide⟩
      | 53, _ => exact ⟨by decide, by decide⟩
      | 54, _ => exact ⟨by decide, by decide⟩
      | 55, _ => exact ⟨by decide, by decide⟩
      | 56, _ => exact ⟨by decide, by decide⟩
      | 57, _ => exact ⟨by decide, by decide⟩
      | 58, _ => exact ⟨by decide, by decide⟩
      | 59, _ => exact ⟨by decide, by decide⟩
      | 60, _ => exact ⟨by decide, by decide⟩
      | 61, _ => exact ⟨by decide, by decide⟩
      | 62, _ => exact ⟨by decide, by decide⟩
      | 63, _ => exact ⟨by decide, by decide⟩
      | 64, _ => exact ⟨by decide, by decide⟩
      | 65, _ => exact ⟨by decide, by decide⟩
      | 66, _ => exact ⟨by decide, by decide⟩
      | 67, _ => exact ⟨by decide, by decide⟩
      | 68, _ => exact ⟨by decide, by decide⟩
      | 69, _ => exact ⟨by decide, by decide⟩
      | 70, _ => exact ⟨by decide, by decide⟩
      | 71, _ => exact ⟨by decide, by decide⟩
      | 72, _ => exact ⟨by decide, by decide⟩
      | 73, _ => exact ⟨by decide, by decide⟩
      | 74, _ => exact ⟨by decide, by decide⟩
      | 75, _ => exact ⟨by decide, by decide⟩
      | 76, _ => exact ⟨by decide, by decide⟩
      | 77, _ => exact ⟨by decide, by decide⟩
      | 78, _ => exact ⟨by decide, by decide⟩
      | 79, _ => exact ⟨by decide, by decide⟩
      | 80, _ => exact ⟨by decide, by decide⟩
      | 81, _ => exact ⟨by decide, by decide⟩
      | 82, _ => exact ⟨by decide, by decide⟩
      | 83, _ => exact ⟨by decide, by decide⟩
      | 84, _ => exact ⟨by decide, by decide⟩
      | 85, _ => exact ⟨by decide, by decide⟩
      | 86, _ => exact ⟨by decide, by decide⟩
      | 87, _ => exact ⟨by decide, by decide⟩
      | 88, _ => exact ⟨by decide, by decide⟩
      | 89, _ => exact ⟨by decide, by decide⟩
      | 90, _ => exact ⟨by decide, by decide⟩
      | 91, _ => exact ⟨by decide, by decide⟩
      | 92, _ => exact ⟨by decide, by decide⟩
      | 93, _ => exact ⟨by decide, by decide⟩
      | 94, _ => exact ⟨by decide, by decide⟩
      | 95, _ => exact ⟨by decide, by decide⟩
      | 96, _ => exact ⟨by decide, by decide⟩
      | 97, _ => exact ⟨by decide, by decide⟩
      | 98, _ => exact ⟨by decide, by decide⟩
      | 99, _ => exact ⟨by decide, by decide⟩
      | 100, _ => exact ⟨by decide, by decide⟩
      | 101, _ => exact ⟨by decide, by decide⟩
      | 102, _ => exact ⟨by decide, by decide⟩
      | 103, _ => exact ⟨by decide, by decide⟩
      | 104, _ => exact ⟨by decide, by decide⟩
      | 105, _ => exact ⟨by decide, by decide⟩
      | 106, _ => exact ⟨by decide, by decide⟩
      | k + 107, h => omega
    · obtain ⟨k, rfl⟩ : ∃ k, a = k + 107 := ⟨a - 107, by omega⟩
      show iv (-2147483648) 2147483647 0
      exact ⟨by decide, by decide⟩
theorem M0 (G : xG) : Wd G shM mT (fun _ _ => True) S0m (w0 G) := ⟨fun a x h => m0_w G a (shM_s h).1 (shM_s h).2 x h, m0_t, trivial⟩


